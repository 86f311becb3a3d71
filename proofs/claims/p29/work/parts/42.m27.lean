def F_X11_four_231 : List (Nat × Nat) := [(231, 8)]
def A_X11_four_231 : List Nat := [236]
set_option maxRecDepth 100000 in
set_option maxHeartbeats 4000000 in
theorem T_X11_four_231 (d : Nat) {N : Nat} {g0 : List en_E} (hI0 : HI g0) (a1 : Int32) (h4 : (gI g0 231 8).toInt ≤ 396) : Ev (d + 1) 184 [.ref 231, .int a1] (g0, N) (fun w h' => ∃ g', h' = (g', N) ∧ HI g' ∧ Fr F_X11_four_231 A_X11_four_231 g0 g' ∧ w = none ∧ (((gI g' 231 8).toInt = (gI g0 231 8).toInt + 4) ∧ (∀ i : Int, 0 ≤ i → i < 400 → (eA g' 236 (i)).toInt = if (gI g0 231 8).toInt ≤ i ∧ i < (gI g0 231 8).toInt + 4 then BYT a1 (i - (gI g0 231 8).toInt) else (eA g0 236 (i)).toInt))) := by
  have hF0 : Fr F_X11_four_231 A_X11_four_231 g0 g0 := Fr.rf
  refine Ev.mk rfl rfl ⟨Nat.le_of_ble_eq_true rfl, Or.inr (q_rc hI0.1 kx_231 rfl)⟩ ?_
  show At _ none _ _ (0, [(0, .ref 231), (1, .int a1)], [], (_, _)) _
  refine At.enter rfl ?_
  refine r_bipush 24 rfl ?_
  refine r_istore_n ([(2, .int 24), (0, .ref 231), (1, .int a1)]) rfl ?_
  refine Ar.fall 3 rfl ?_
  obtain ⟨v273, hv273⟩ : ∃ v, gI g0 231 8 = v := ⟨_, rfl⟩
  have rv273 := RgF.at hI0.2.1 (p := 231) (b := 8) rfl
  rw [hv273] at rv273
  dsimp only at rv273
  have tv273 := congrArg Int32.toInt hv273
  have z_398 : (24 : Int32).toInt = 24 := rfl
  refine w_loopI (fun n_ l_ g_ => ∃ x382 : Int32, ∃ x383 : Int32, n_ = x382.toInt + 8 ∧ HI g_ ∧ Fr F_X11_four_231 A_X11_four_231 g0 g_ ∧ gI g_ 231 8 = x383 ∧ en_get 0 l_ = some (.ref 231) ∧ en_get 1 l_ = some (.int a1) ∧ en_get 2 l_ = some (.int x382) ∧ ((-8) ≤ x382.toInt ∧ x382.toInt ≤ 24) ∧ (0 ≤ x383.toInt ∧ x383.toInt ≤ 400) ∧ (8 * x383.toInt + x382.toInt = 8 * (gI g0 231 8).toInt + 24) ∧ (∀ i : Int, 0 ≤ i → i < 400 → (eA g_ 236 (i)).toInt = if (gI g0 231 8).toInt ≤ i ∧ i < x383.toInt then BYT a1 (i - (gI g0 231 8).toInt) else (eA g0 236 (i)).toInt)) ?_ (24 + 8) ⟨24, v273, by first | rfl | omega, hI0, hF0, hv273, rfl, rfl, rfl, by decide, by omega, by omega, (by intro i i0 i1; refine Eq.trans ?_ (if_neg (show ¬ ((gI g0 231 8).toInt ≤ i ∧ i < v273.toInt) from by omega)).symm; (first | with_reducible rfl | omega | exact eA_ix (by omega) | rfl))⟩
  rintro n388 l387 g384 ⟨x382, x383, hm399, hI385, hF386, e390, e391, e392, e393, r394, r395, q396, q397⟩ ih389
  refine At.enter rfl ?_
  refine r_iload_n e393 ?_
  refine r_ifs 7 rfl (fun c400 => ?_) (fun c400 => ?_)
  · have c400_ : x382.toInt < 0 := en_k_lt_t c400
    refine At.enter rfl ?_
    refine r_vret ?_
    have x401 := HI.eqI hI385 (p := 231) (b := 8) (e390)
    exact ⟨_, rfl, hI385, hF386, rfl, ⟨(by rw [e390]; omega), (by intro i i0 i1; exact (Decidable.em ((gI g0 231 8).toInt ≤ i ∧ i < (gI g0 231 8).toInt + 4)).elim (fun k275_ => by refine Eq.trans ?_ (if_pos k275_).symm; refine ((q397 (i) (by first | exact i0 | omega) (by first | exact i1 | omega))).trans ?_; exact (Decidable.em ((gI g0 231 8).toInt ≤ (i) ∧ (i) < x383.toInt)).elim (fun k276_ => by refine (if_pos k276_).trans ?_; (first | with_reducible rfl | omega | exact eA_ix (by omega) | rfl)) (fun k276_ => by refine (if_neg k276_).trans ?_; (first | with_reducible rfl | omega | exact eA_ix (by omega) | rfl))) (fun k275_ => by refine Eq.trans ?_ (if_neg k275_).symm; refine ((q397 (i) (by first | exact i0 | omega) (by first | exact i1 | omega))).trans ?_; exact (Decidable.em ((gI g0 231 8).toInt ≤ (i) ∧ (i) < x383.toInt)).elim (fun k277_ => by refine (if_pos k277_).trans ?_; (first | with_reducible rfl | omega | exact eA_ix (by omega) | rfl)) (fun k277_ => by refine (if_neg k277_).trans ?_; (first | with_reducible rfl | omega | exact eA_ix (by omega) | rfl))))⟩⟩
  · have c400_ : x382.toInt ≥ 0 := en_k_lt_f c400
    refine At.enter rfl ?_
    refine r_aload_n e391 ?_
    refine q_getR (Sh.ref hI385.1 kx_231 rfl) ?_
    refine r_aload_n e391 ?_
    refine q_getI (Sh.int hI385.1 kx_231 rfl) x383 e390 ?_
    refine r_iload_n e392 ?_
    refine r_iload_n e393 ?_
    refine q_ishrO (fun v403 hv403 => ?_)
    refine r_sipush 255 rfl ?_
    refine q_iandO (fun v404 hv404 => ?_)
    refine q_iast (Sh.arr hI385.1 ka_236) (x383.toInt) rfl (by omega) ?_
    have hI405 := HI.wA0 hI385 ka_236 (p := 236) rfl rfl (x383.toInt) (v404)
    have hF406 := Fr.wA (p := 236) (j := x383.toInt) (v := v404) hF386 rfl
    refine r_aload_n e391 ?_
    refine r_dup rfl ?_
    refine q_getI (Sh.int hI405.1 kx_231 rfl) x383 ((gI_sW).trans e390) ?_
    refine r_iconst 1 rfl ?_
    refine q_iadd (x383.toInt + 1) rfl (by omega) (fun v407 hv407 => ?_)
    refine q_putI (Sh.int hI405.1 kx_231 rfl) rfl ?_
    have hI408 := HI.wI1 hI405 kx_231 rfl (p := 231) (b := 8) (v := v407) rfl (by dsimp only; omega)
    have hF409 := Fr.wI (p := 231) (b := 8) (v := v407) hF406 rfl
    refine q_iinc e393 (x382.toInt + (-8)) rfl (by omega) (fun v410 hv410 => ?_)
    refine r_goto ?_
    exact ih389 (v410.toInt + 8) _ _ ⟨v410, v407, by first | rfl | omega, hI408, hF409, (gI_sI_eq hI405.1 kx_231 rfl _), (w_p1 (by decide) (Or.inr rfl) e391), (w_p1 (by decide) (Or.inr rfl) e392), (w_e1 _ _ _), by omega, by omega, by omega, (by intro i i0 i1; exact (Decidable.em ((gI g0 231 8).toInt ≤ i ∧ i < v407.toInt)).elim (fun k278_ => by refine Eq.trans ?_ (if_pos k278_).symm; refine (eA_ti ((gA_sI))).trans ?_; exact (Decidable.em (i = x383.toInt)).elim (fun k279_ => by refine (eA_eqT hI385.1 ka_236 k279_ (by first | decide | omega) (by first | decide | omega)).trans ?_; (first | (with_reducible rfl) | (omega) | (exact BYT.m (by assumption) hv404 (by omega)) | (rfl))) (fun k279_ => by refine (eA_neT hI385.1 ka_236 k279_ (by first | decide | omega) (by omega)).trans ?_; refine ((q397 (i) (by first | exact i0 | omega) (by first | exact i1 | omega))).trans ?_; exact (Decidable.em ((gI g0 231 8).toInt ≤ (i) ∧ (i) < x383.toInt)).elim (fun k280_ => by refine (if_pos k280_).trans ?_; (first | with_reducible rfl | omega | exact eA_ix (by omega) | rfl)) (fun k280_ => by refine (if_neg k280_).trans ?_; (first | with_reducible rfl | omega | exact eA_ix (by omega) | rfl)))) (fun k278_ => by refine Eq.trans ?_ (if_neg k278_).symm; refine (eA_ti ((gA_sI))).trans ?_; exact (Decidable.em (i = x383.toInt)).elim (fun k281_ => by refine (eA_eqT hI385.1 ka_236 k281_ (by first | decide | omega) (by first | decide | omega)).trans ?_; (first | (with_reducible rfl) | (omega) | (exact BYT.m (by assumption) hv404 (by omega)) | (rfl))) (fun k281_ => by refine (eA_neT hI385.1 ka_236 k281_ (by first | decide | omega) (by omega)).trans ?_; refine ((q397 (i) (by first | exact i0 | omega) (by first | exact i1 | omega))).trans ?_; exact (Decidable.em ((gI g0 231 8).toInt ≤ (i) ∧ (i) < x383.toInt)).elim (fun k282_ => by refine (if_pos k282_).trans ?_; (first | with_reducible rfl | omega | exact eA_ix (by omega) | rfl)) (fun k282_ => by refine (if_neg k282_).trans ?_; (first | with_reducible rfl | omega | exact eA_ix (by omega) | rfl)))))⟩ ⟨by omega, by omega⟩

def F_X11_feed_231 : List (Nat × Nat) := [(231, 0), (231, 8)]
def A_X11_feed_231 : List Nat := [236]
set_option maxRecDepth 100000 in
set_option maxHeartbeats 4000000 in
theorem T_X11_feed_231 (d : Nat) {N : Nat} {g0 : List en_E} (hI0 : HI g0) (a1 : Int32) (a2 : Int32) (a3 : Int32) (a4 : Int32) (a5 : Int32) : Ev (d + 2) 185 [.ref 231, .int a1, .int a2, .int a3, .int a4, .int a5] (g0, N) (fun w h' => ∃ g', h' = (g', N) ∧ HI g' ∧ Fr F_X11_feed_231 A_X11_feed_231 g0 g' ∧ ∃ r : Int32, w = some (.int r) ∧ ((-1) ≤ r.toInt ∧ r.toInt ≤ 400) ∧ (((380 < (gI g0 231 8).toInt → r.toInt = -1 ∧ (gI g' 231 8).toInt = (gI g0 231 8).toInt) ∧ ((gI g0 231 8).toInt ≤ 380 → r.toInt = (gI g0 231 8).toInt + 20 ∧ (gI g' 231 8).toInt = (gI g0 231 8).toInt + 20)) ∧ (∀ i : Int, 0 ≤ i → i < 400 → (eA g' 236 (i)).toInt = if (gI g0 231 8).toInt ≤ 380 ∧ (gI g0 231 8).toInt + 0 ≤ i ∧ i < (gI g0 231 8).toInt + 4 then BYT a1 (i - (gI g0 231 8).toInt - 0) else if (gI g0 231 8).toInt ≤ 380 ∧ (gI g0 231 8).toInt + 4 ≤ i ∧ i < (gI g0 231 8).toInt + 8 then BYT a2 (i - (gI g0 231 8).toInt - 4) else if (gI g0 231 8).toInt ≤ 380 ∧ (gI g0 231 8).toInt + 8 ≤ i ∧ i < (gI g0 231 8).toInt + 12 then BYT a3 (i - (gI g0 231 8).toInt - 8) else if (gI g0 231 8).toInt ≤ 380 ∧ (gI g0 231 8).toInt + 12 ≤ i ∧ i < (gI g0 231 8).toInt + 16 then BYT a4 (i - (gI g0 231 8).toInt - 12) else if (gI g0 231 8).toInt ≤ 380 ∧ (gI g0 231 8).toInt + 16 ≤ i ∧ i < (gI g0 231 8).toInt + 20 then BYT a5 (i - (gI g0 231 8).toInt - 16) else (eA g0 236 (i)).toInt))) := by
  have hF0 : Fr F_X11_feed_231 A_X11_feed_231 g0 g0 := Fr.rf
  refine Ev.mk rfl rfl ⟨Nat.le_of_ble_eq_true rfl, Or.inr (q_rc hI0.1 kx_231 rfl)⟩ ?_
  show At _ none _ _ (0, [(0, .ref 231), (1, .int a1), (2, .int a2), (3, .int a3), (4, .int a4), (5, .int a5)], [], (_, _)) _
  refine At.enter rfl ?_
  refine r_aload_n rfl ?_
  refine r_iconst 0 rfl ?_
  refine q_putI (Sh.int hI0.1 kx_231 rfl) rfl ?_
  have hI111 := HI.wI0 hI0 kx_231 rfl (p := 231) (b := 0) (v := 0) rfl
  have hF112 := Fr.wI (p := 231) (b := 0) (v := 0) hF0 rfl
  refine r_aload_n rfl ?_
  obtain ⟨v113, hv113⟩ : ∃ v, gI g0 231 8 = v := ⟨_, rfl⟩
  have rv113 := RgF.at hI0.2.1 (p := 231) (b := 8) rfl
  rw [hv113] at rv113
  dsimp only at rv113
  refine q_getI (Sh.int hI111.1 kx_231 rfl) v113 ((gI_sI_ne (by decide)).trans hv113) ?_
  refine r_bipush 20 rfl ?_
  refine q_iadd (v113.toInt + 20) rfl (by omega) (fun v114 hv114 => ?_)
  refine r_sipush 400 rfl ?_
  refine r_ics 18 rfl (fun c115 => ?_) (fun c115 => ?_)
  · have c115_ : v114.toInt ≤ 400 := en_i_le_t c115
    refine At.enter rfl ?_
    refine r_aload_n rfl ?_
    refine r_iload_n rfl ?_
    refine r_callV 25 rfl [.ref 231, .int a1] [] (Nat.le_of_ble_eq_true rfl) rfl (T_X11_four_231 _ hI111 a1 (by rw [((gI_sI_ne (by decide)).trans hv113)]; omega)) ?_
    rintro _ _ ⟨g116, rfl, hI117, hF118, rfl, hr120⟩
    refine At.stn ?_
    have hF121 := Fr.tr hF112 hF118 rfl rfl
    obtain ⟨w122, w123⟩ := hr120
    have x124 := HI.eqI hI111 (p := 231) (b := 8) (((gI_sI_ne (by decide)).trans hv113))
    have fq125 := w123
    rw [show (gI _ 231 8).toInt = (gI g0 231 8).toInt from congrArg Int32.toInt ((gI_sI_ne (by decide)))] at fq125
    rw [((gI_sI_ne (by decide)).trans hv113)] at w122
    obtain ⟨v126, hv126⟩ : ∃ v, gI g116 231 8 = v := ⟨_, rfl⟩
    rw [hv126] at w122
    refine At.enter rfl ?_
    refine r_aload_n rfl ?_
    refine r_iload_n rfl ?_
    refine r_callV 30 rfl [.ref 231, .int a2] [] (Nat.le_of_ble_eq_true rfl) rfl (T_X11_four_231 _ hI117 a2 (by rw [hv126]; omega)) ?_
    rintro _ _ ⟨g127, rfl, hI128, hF129, rfl, hr131⟩
    refine At.stn ?_
    have hF132 := Fr.tr hF121 hF129 rfl rfl
    obtain ⟨w133, w134⟩ := hr131
    have x135 := HI.eqI hI117 (p := 231) (b := 8) (hv126)
    rw [hv126] at w133
    obtain ⟨v136, hv136⟩ : ∃ v, gI g127 231 8 = v := ⟨_, rfl⟩
    rw [hv136] at w133
    refine At.enter rfl ?_
    refine r_aload_n rfl ?_
    refine r_iload_n rfl ?_
    refine r_callV 35 rfl [.ref 231, .int a3] [] (Nat.le_of_ble_eq_true rfl) rfl (T_X11_four_231 _ hI128 a3 (by rw [hv136]; omega)) ?_
    rintro _ _ ⟨g137, rfl, hI138, hF139, rfl, hr141⟩
    refine At.stn ?_
    have hF142 := Fr.tr hF132 hF139 rfl rfl
    obtain ⟨w143, w144⟩ := hr141
    have x145 := HI.eqI hI128 (p := 231) (b := 8) (hv136)
    rw [hv136] at w143
    obtain ⟨v146, hv146⟩ : ∃ v, gI g137 231 8 = v := ⟨_, rfl⟩
    rw [hv146] at w143
    refine At.enter rfl ?_
    refine r_aload_n rfl ?_
    refine r_iload rfl ?_
    refine r_callV 41 rfl [.ref 231, .int a4] [] (Nat.le_of_ble_eq_true rfl) rfl (T_X11_four_231 _ hI138 a4 (by rw [hv146]; omega)) ?_
    rintro _ _ ⟨g147, rfl, hI148, hF149, rfl, hr151⟩
    refine At.stn ?_
    have hF152 := Fr.tr hF142 hF149 rfl rfl
    obtain ⟨w153, w154⟩ := hr151
    have x155 := HI.eqI hI138 (p := 231) (b := 8) (hv146)
    rw [hv146] at w153
    obtain ⟨v156, hv156⟩ : ∃ v, gI g147 231 8 = v := ⟨_, rfl⟩
    rw [hv156] at w153
    refine At.enter rfl ?_
    refine r_aload_n rfl ?_
    refine r_iload rfl ?_
    refine r_callV 47 rfl [.ref 231, .int a5] [] (Nat.le_of_ble_eq_true rfl) rfl (T_X11_four_231 _ hI148 a5 (by rw [hv156]; omega)) ?_
    rintro _ _ ⟨g157, rfl, hI158, hF159, rfl, hr161⟩
    refine At.stn ?_
    have hF162 := Fr.tr hF152 hF159 rfl rfl
    obtain ⟨w163, w164⟩ := hr161
    have x165 := HI.eqI hI148 (p := 231) (b := 8) (hv156)
    rw [hv156] at w163
    obtain ⟨v166, hv166⟩ : ∃ v, gI g157 231 8 = v := ⟨_, rfl⟩
    rw [hv166] at w163
    refine At.enter rfl ?_
    refine r_aload_n rfl ?_
    refine q_getI (Sh.int hI158.1 kx_231 rfl) v166 hv166 ?_
    refine r_ireti ?_
    have x167 := HI.eqI hI158 (p := 231) (b := 8) (hv166)
    have x168 := HI.eqI hI0 (p := 231) (b := 8) (hv113)
    exact ⟨_, rfl, hI158, hF162, _, rfl, by omega, ⟨(by omega), (by intro i i0 i1; exact FEED5 (L := (gI g0 231 8).toInt) (F0 := (fun i => (eA g0 236 i).toInt)) (F1 := (fun i => (eA g116 236 i).toInt)) (F2 := (fun i => (eA g127 236 i).toInt)) (F3 := (fun i => (eA g137 236 i).toInt)) (F4 := (fun i => (eA g147 236 i).toInt)) (F5 := (fun i => (eA g157 236 i).toInt)) (by omega) (by omega) (by omega) (by omega) (by omega) fq125 w134 w144 w154 w164 (fun i => eA_ti ((gA_sI))) i i0 i1)⟩⟩
  · have c115_ : v114.toInt > 400 := en_i_le_f c115
    refine At.enter rfl ?_
    refine r_iconst (-1) rfl ?_
    refine r_ireti ?_
    have zv169 : ((-1) : Int32).toInt = (-1) := rfl
    have x170 := HI.eqI hI111 (p := 231) (b := 8) (((gI_sI_ne (by decide)).trans hv113))
    have x171 := HI.eqI hI0 (p := 231) (b := 8) (hv113)
    exact ⟨_, rfl, hI111, hF112, _, rfl, by decide, ⟨(by omega), (by intro i i0 i1; refine Eq.trans ?_ (if_neg (show ¬ ((gI g0 231 8).toInt ≤ 380 ∧ (gI g0 231 8).toInt + 0 ≤ i ∧ i < (gI g0 231 8).toInt + 4) from by omega)).symm; refine Eq.trans ?_ (if_neg (show ¬ ((gI g0 231 8).toInt ≤ 380 ∧ (gI g0 231 8).toInt + 4 ≤ i ∧ i < (gI g0 231 8).toInt + 8) from by omega)).symm; refine Eq.trans ?_ (if_neg (show ¬ ((gI g0 231 8).toInt ≤ 380 ∧ (gI g0 231 8).toInt + 8 ≤ i ∧ i < (gI g0 231 8).toInt + 12) from by omega)).symm; refine Eq.trans ?_ (if_neg (show ¬ ((gI g0 231 8).toInt ≤ 380 ∧ (gI g0 231 8).toInt + 12 ≤ i ∧ i < (gI g0 231 8).toInt + 16) from by omega)).symm; refine Eq.trans ?_ (if_neg (show ¬ ((gI g0 231 8).toInt ≤ 380 ∧ (gI g0 231 8).toInt + 16 ≤ i ∧ i < (gI g0 231 8).toInt + 20) from by omega)).symm; refine (eA_ti ((gA_sI))).trans ?_; (first | with_reducible rfl | omega | exact eA_ix (by omega) | rfl))⟩⟩

def F_X11_force_231 : List (Nat × Nat) := [(231, 0), (231, 1)]
def A_X11_force_231 : List Nat := [232, 233]
set_option maxRecDepth 100000 in
set_option maxHeartbeats 4000000 in
theorem T_X11_force_231 (d : Nat) {N : Nat} {g0 : List en_E} (hI0 : HI g0) (a1 : Int32) : Ev (d + 3) 211 [.ref 231, .int a1] (g0, N) (fun w h' => ∃ g', h' = (g', N) ∧ HI g' ∧ Fr F_X11_force_231 A_X11_force_231 g0 g' ∧ ∃ r : Int32, w = some (.int r) ∧ ((-2) ≤ r.toInt ∧ r.toInt ≤ 5) ∧ (((((a1.toInt = -1 ∨ (0 ≤ a1.toInt ∧ a1.toInt < (eA g0 233 2).toInt)) → r.toInt = (eA g0 233 3).toInt ∧ (eA g' 233 3).toInt = a1.toInt) ∧ (¬ (a1.toInt = -1 ∨ (0 ≤ a1.toInt ∧ a1.toInt < (eA g0 233 2).toInt)) → r.toInt = -2 ∧ (eA g' 233 3).toInt = (eA g0 233 3).toInt)) ∧ (eA g' 233 0).toInt = (eA g0 233 0).toInt ∧ (eA g' 233 4).toInt = (eA g0 233 4).toInt ∧ (eA g' 233 5).toInt = (eA g0 233 5).toInt ∧ (eA g' 233 6).toInt = (eA g0 233 6).toInt ∧ (eA g' 233 1).toInt = (eA g0 233 1).toInt ∧ (eA g' 233 2).toInt = (eA g0 233 2).toInt) ∧ (∀ i : Int, 10 ≤ i → i < 5510 → (eA g' 233 (i)).toInt = (eA g0 233 (i)).toInt))) := by
  have hF0 : Fr F_X11_force_231 A_X11_force_231 g0 g0 := Fr.rf
  refine Ev.mk rfl rfl ⟨Nat.le_of_ble_eq_true rfl, Or.inr (q_rc hI0.1 kx_231 rfl)⟩ ?_
  show At _ none _ _ (0, [(0, .ref 231), (1, .int a1)], [], (_, _)) _
  refine At.enter rfl ?_
  refine r_aload_n rfl ?_
  refine r_iconst 0 rfl ?_
  refine q_putI (Sh.int hI0.1 kx_231 rfl) rfl ?_
  have hI73 := HI.wI0 hI0 kx_231 rfl (p := 231) (b := 0) (v := 0) rfl
  have hF74 := Fr.wI (p := 231) (b := 0) (v := 0) hF0 rfl
  refine r_iload_n rfl ?_
  refine r_iconst (-1) rfl ?_
  refine r_ics 10 rfl (fun c75 => ?_) (fun c75 => ?_)
  · have c75_ : a1.toInt = (-1) := en_i_eq_t c75
    refine At.enter rfl ?_
    refine r_aload_n rfl ?_
    refine r_iconst 3 rfl ?_
    refine r_iload_n rfl ?_
    refine q_inlV 34 rfl [.ref 231, .int 3, .int a1] [] (Nat.le_of_ble_eq_true rfl) rfl ?_
    refine Ev.mk rfl rfl ⟨Nat.le_of_ble_eq_true rfl, Or.inr (q_rc hI73.1 kx_231 rfl)⟩ ?_
    show At _ none _ _ (0, [(0, .ref 231), (1, .int 3), (2, .int a1)], [], (_, _)) _
    refine At.enter rfl ?_
    refine r_aload_n rfl ?_
    refine q_getR (Sh.ref hI73.1 kx_231 rfl) ?_
    refine r_iload_n rfl ?_
    obtain ⟨v76, hv76⟩ : ∃ v, eA g0 233 3 = v := ⟨_, rfl⟩
    have wv76 := HI.t3 hI0
    rw [hv76] at wv76
    refine q_iald (Sh.arr hI73.1 ka_233) 3 rfl (by decide) v76 ((eA_c (gA_sI)).trans hv76) ?_
    refine r_istore_n ([(3, .int v76), (0, .ref 231), (1, .int 3), (2, .int a1)]) rfl ?_
    refine r_aload_n rfl ?_
    refine q_getR (Sh.ref hI73.1 kx_231 rfl) ?_
    refine r_iload_n rfl ?_
    refine r_iload_n rfl ?_
    refine q_iast (Sh.arr hI73.1 ka_233) (3) rfl (by decide) ?_
    obtain ⟨v79, hv79⟩ : ∃ v, eA g0 233 2 = v := ⟨_, rfl⟩
    have tv79 := congrArg Int32.toInt hv79
    have wv79 := HI.t2 hI0
    rw [hv79] at wv79
    have tv79 := congrArg Int32.toInt hv79
    have x80 := HI.eqA hI73 (p := 233) (j := 2) (((eA_c gA_sI).trans hv79))
    have hI77 := HI.wt hI73 (j := 3) (v := a1) (by omega) (by omega)
    have hF78 := Fr.wA (p := 233) (j := 3) (v := a1) hF74 rfl
    refine r_aload_n rfl ?_
    refine r_iload_n rfl ?_
    refine q_inlV 19 rfl [.ref 231, .int v76] [] (Nat.le_of_ble_eq_true rfl) rfl ?_
    refine Ev.mk rfl rfl ⟨Nat.le_of_ble_eq_true rfl, Or.inr (q_rc hI77.1 kx_231 rfl)⟩ ?_
    show At _ none _ _ (0, [(0, .ref 231), (1, .int v76)], [], (_, _)) _
    refine At.enter rfl ?_
    refine r_aload_n rfl ?_
    refine r_iconst 0 rfl ?_
    refine q_putI (Sh.int hI77.1 kx_231 rfl) rfl ?_
    have hI81 := HI.wI0 hI77 kx_231 rfl (p := 231) (b := 1) (v := 0) rfl
    have hF82 := Fr.wI (p := 231) (b := 1) (v := 0) hF78 rfl
    refine r_iload_n rfl ?_
    refine q_ireti ?_
    refine At.enter rfl ?_
    refine q_ireti ?_
    refine At.enter rfl ?_
    refine r_goto ?_
    refine At.enter rfl ?_
    refine r_ireti ?_
    have x83 := HI.eqA hI81 (p := 233) (j := 3) (((eA_c gA_sI).trans (eA_sA_eq hI73.1 ka_233 (by first | rfl | omega) (by first | decide | omega) (by first | decide | omega))))
    obtain ⟨v84, hv84⟩ : ∃ v, eA g0 233 0 = v := ⟨_, rfl⟩
    have tv84 := congrArg Int32.toInt hv84
    have wv84 := HI.t0 hI0
    rw [hv84] at wv84
    have tv84 := congrArg Int32.toInt hv84
    have x85 := HI.eqA hI81 (p := 233) (j := 0) ((((eA_c gA_sI).trans ((eA_sA_ne hI73.1 ka_233 (by first | decide | omega) (by first | decide | omega) (by first | decide | omega)).trans (eA_c gA_sI))).trans hv84))
    obtain ⟨v86, hv86⟩ : ∃ v, eA g0 233 4 = v := ⟨_, rfl⟩
    have wv86 := HI.t4 hI0
    rw [hv86] at wv86
    have tv86 := congrArg Int32.toInt hv86
    have x87 := HI.eqA hI81 (p := 233) (j := 4) ((((eA_c gA_sI).trans ((eA_sA_ne hI73.1 ka_233 (by first | decide | omega) (by first | decide | omega) (by first | decide | omega)).trans (eA_c gA_sI))).trans hv86))
    obtain ⟨v88, hv88⟩ : ∃ v, eA g0 233 5 = v := ⟨_, rfl⟩
    have wv88 := HI.t5 hI0
    rw [hv88] at wv88
    have tv88 := congrArg Int32.toInt hv88
    have x89 := HI.eqA hI81 (p := 233) (j := 5) ((((eA_c gA_sI).trans ((eA_sA_ne hI73.1 ka_233 (by first | decide | omega) (by first | decide | omega) (by first | decide | omega)).trans (eA_c gA_sI))).trans hv88))
    obtain ⟨v90, hv90⟩ : ∃ v, eA g0 233 6 = v := ⟨_, rfl⟩
    have wv90 := HI.t6 hI0
    rw [hv90] at wv90
    have tv90 := congrArg Int32.toInt hv90
    have x91 := HI.eqA hI81 (p := 233) (j := 6) ((((eA_c gA_sI).trans ((eA_sA_ne hI73.1 ka_233 (by first | decide | omega) (by first | decide | omega) (by first | decide | omega)).trans (eA_c gA_sI))).trans hv90))
    obtain ⟨v92, hv92⟩ : ∃ v, eA g0 233 1 = v := ⟨_, rfl⟩
    have tv92 := congrArg Int32.toInt hv92
    have wv92 := HI.t1 hI0
    rw [hv92] at wv92
    have tv92 := congrArg Int32.toInt hv92
    have x93 := HI.eqA hI81 (p := 233) (j := 1) ((((eA_c gA_sI).trans ((eA_sA_ne hI73.1 ka_233 (by first | decide | omega) (by first | decide | omega) (by first | decide | omega)).trans (eA_c gA_sI))).trans hv92))
    have x94 := HI.eqA hI81 (p := 233) (j := 2) ((((eA_c gA_sI).trans ((eA_sA_ne hI73.1 ka_233 (by first | decide | omega) (by first | decide | omega) (by first | decide | omega)).trans (eA_c gA_sI))).trans hv79))
    have x95 := HI.eqA hI0 (p := 233) (j := 3) (hv76)
    have x96 := HI.eqA hI0 (p := 233) (j := 2) (hv79)
    have x97 := HI.eqA hI0 (p := 233) (j := 0) (hv84)
    have x98 := HI.eqA hI0 (p := 233) (j := 4) (hv86)
    have x99 := HI.eqA hI0 (p := 233) (j := 5) (hv88)
    have x100 := HI.eqA hI0 (p := 233) (j := 6) (hv90)
    have x101 := HI.eqA hI0 (p := 233) (j := 1) (hv92)
    have x102 := HI.eqA hI0 (p := 233) (j := 2) (hv79)
    exact ⟨_, rfl, hI81, hF82, _, rfl, by omega, ⟨⟨by omega, by omega, by omega, by omega, by omega, by omega, by omega⟩, (by intro i i0 i1; refine (eA_ti ((gA_sI))).trans ?_; exact (Decidable.em (i = 3)).elim (fun k283_ => by refine (eA_eqT hI73.1 ka_233 k283_ (by first | decide | omega) (by first | decide | omega)).trans ?_; (first | (with_reducible rfl) | (omega) | (rfl))) (fun k283_ => by refine (eA_neT hI73.1 ka_233 k283_ (by first | decide | omega) (by omega)).trans ?_; refine (eA_ti ((gA_sI))).trans ?_; (first | with_reducible rfl | omega | exact eA_ix (by omega) | rfl)))⟩⟩
  · have c75_ : a1.toInt ≠ (-1) := en_i_eq_f c75
    refine At.enter rfl ?_
    refine r_iload_n rfl ?_
    refine q_i2l (fun v103 hv103 => ?_)
    refine r_lconst 0 rfl ?_
    refine r_aload_n rfl ?_
    refine q_getR (Sh.ref hI73.1 kx_231 rfl) ?_
    refine r_iconst 2 rfl ?_
    obtain ⟨v104, hv104⟩ : ∃ v, eA g0 233 2 = v := ⟨_, rfl⟩
    have tv104 := congrArg Int32.toInt hv104
    have wv104 := HI.t2 hI0
    rw [hv104] at wv104
    refine q_iald (Sh.arr hI73.1 ka_233) 2 rfl (by decide) v104 ((eA_c (gA_sI)).trans hv104) ?_
    refine q_i2l (fun v105 hv105 => ?_)
    refine r_lconst 1 rfl ?_
    refine q_lsub (v105.toInt - 1) rfl (by omega) (fun v106 hv106 => ?_)
    refine q_inlS 25 rfl [.long v103, .long 0, .long v106] [] (Nat.le_of_ble_eq_true rfl) rfl ?_
    refine Ev.mk rfl rfl ⟨Nat.le_of_ble_eq_true rfl, Or.inl rfl⟩ ?_
    show At _ none _ _ (0, [(0, .long v103), (2, .long 0), (4, .long v106)], [], (_, _)) _
    refine At.enter rfl ?_
    refine r_lload_n rfl ?_
    refine r_lload_n rfl ?_
    refine r_lcmp _ rfl ?_
    refine r_ifs 6 rfl (fun c107 => ?_) (fun c107 => ?_)
    · have c107_ : v103.toInt < 0 := en_j_lt_t c107
      refine At.enter rfl ?_
      refine r_iconst 0 rfl ?_
      refine Ar.fall 18 rfl ?_
      refine At.enter rfl ?_
      refine q_iretz (by decide) ?_
      refine At.enter rfl ?_
      refine r_ift (by decide) ?_
      refine At.enter rfl ?_
      refine r_aload_n rfl ?_
      refine r_bipush (-2) rfl ?_
      refine r_callV 43 rfl [.ref 231, .int (-2)] [] (Nat.le_of_ble_eq_true rfl) rfl (T_X11_tell_231 _ hI73 (-2) (by decide)) ?_
      rintro _ _ ⟨g108, rfl, hI109, hF110, v111, rfl, hr112⟩
      refine At.sti ?_
      have hF113 := Fr.tr hF74 hF110 rfl rfl
      have zv114 : ((-2) : Int32).toInt = (-2) := rfl
      refine At.enter rfl ?_
      refine r_ireti ?_
      obtain ⟨v115, hv115⟩ : ∃ v, eA g0 233 3 = v := ⟨_, rfl⟩
      have wv115 := HI.t3 hI0
      rw [hv115] at wv115
      have tv115 := congrArg Int32.toInt hv115
      have x116 := HI.eqA hI109 (p := 233) (j := 3) ((((eA_c (hF110.2.1 233 ma_X11_tell_231_233)).trans (eA_c gA_sI)).trans hv115))
      obtain ⟨v117, hv117⟩ : ∃ v, eA g0 233 0 = v := ⟨_, rfl⟩
      have tv117 := congrArg Int32.toInt hv117
      have wv117 := HI.t0 hI0
      rw [hv117] at wv117
      have tv117 := congrArg Int32.toInt hv117
      have x118 := HI.eqA hI109 (p := 233) (j := 0) ((((eA_c (hF110.2.1 233 ma_X11_tell_231_233)).trans (eA_c gA_sI)).trans hv117))
      obtain ⟨v119, hv119⟩ : ∃ v, eA g0 233 4 = v := ⟨_, rfl⟩
      have wv119 := HI.t4 hI0
      rw [hv119] at wv119
      have tv119 := congrArg Int32.toInt hv119
      have x120 := HI.eqA hI109 (p := 233) (j := 4) ((((eA_c (hF110.2.1 233 ma_X11_tell_231_233)).trans (eA_c gA_sI)).trans hv119))
      obtain ⟨v121, hv121⟩ : ∃ v, eA g0 233 5 = v := ⟨_, rfl⟩
      have wv121 := HI.t5 hI0
      rw [hv121] at wv121
      have tv121 := congrArg Int32.toInt hv121
      have x122 := HI.eqA hI109 (p := 233) (j := 5) ((((eA_c (hF110.2.1 233 ma_X11_tell_231_233)).trans (eA_c gA_sI)).trans hv121))
      obtain ⟨v123, hv123⟩ : ∃ v, eA g0 233 6 = v := ⟨_, rfl⟩
      have wv123 := HI.t6 hI0
      rw [hv123] at wv123
      have tv123 := congrArg Int32.toInt hv123
      have x124 := HI.eqA hI109 (p := 233) (j := 6) ((((eA_c (hF110.2.1 233 ma_X11_tell_231_233)).trans (eA_c gA_sI)).trans hv123))
      obtain ⟨v125, hv125⟩ : ∃ v, eA g0 233 1 = v := ⟨_, rfl⟩
      have tv125 := congrArg Int32.toInt hv125
      have wv125 := HI.t1 hI0
      rw [hv125] at wv125
      have tv125 := congrArg Int32.toInt hv125
      have x126 := HI.eqA hI109 (p := 233) (j := 1) ((((eA_c (hF110.2.1 233 ma_X11_tell_231_233)).trans (eA_c gA_sI)).trans hv125))
      have x127 := HI.eqA hI109 (p := 233) (j := 2) ((((eA_c (hF110.2.1 233 ma_X11_tell_231_233)).trans (eA_c gA_sI)).trans hv104))
      have x128 := HI.eqA hI0 (p := 233) (j := 3) (hv115)
      have x129 := HI.eqA hI0 (p := 233) (j := 2) (hv104)
      have x130 := HI.eqA hI0 (p := 233) (j := 0) (hv117)
      have x131 := HI.eqA hI0 (p := 233) (j := 4) (hv119)
      have x132 := HI.eqA hI0 (p := 233) (j := 5) (hv121)
      have x133 := HI.eqA hI0 (p := 233) (j := 6) (hv123)
      have x134 := HI.eqA hI0 (p := 233) (j := 1) (hv125)
      have x135 := HI.eqA hI0 (p := 233) (j := 2) (hv104)
      exact ⟨_, rfl, hI109, hF113, _, rfl, by omega, ⟨⟨by omega, by omega, by omega, by omega, by omega, by omega, by omega⟩, (by intro i i0 i1; refine (eA_ti (((hF110.2.1 233 ma_X11_tell_231_233).trans (gA_sI)))).trans ?_; (first | with_reducible rfl | omega | exact eA_ix (by omega) | rfl))⟩⟩
    · have c107_ : v103.toInt ≥ 0 := en_j_lt_f c107
      refine At.enter rfl ?_
      refine r_lload_n rfl ?_
      refine r_lload rfl ?_
      refine r_lcmp _ rfl ?_
      refine r_ifs 13 rfl (fun c136 => ?_) (fun c136 => ?_)
      · have c136_ : v103.toInt > v106.toInt := en_j_gt_t c136
        refine At.enter rfl ?_
        refine r_iconst 0 rfl ?_
        refine Ar.fall 18 rfl ?_
        refine At.enter rfl ?_
        refine q_iretz (by decide) ?_
        refine At.enter rfl ?_
        refine r_ift (by decide) ?_
        refine At.enter rfl ?_
        refine r_aload_n rfl ?_
        refine r_bipush (-2) rfl ?_
        refine r_callV 43 rfl [.ref 231, .int (-2)] [] (Nat.le_of_ble_eq_true rfl) rfl (T_X11_tell_231 _ hI73 (-2) (by decide)) ?_
        rintro _ _ ⟨g137, rfl, hI138, hF139, v140, rfl, hr141⟩
        refine At.sti ?_
        have hF142 := Fr.tr hF74 hF139 rfl rfl
        have zv143 : ((-2) : Int32).toInt = (-2) := rfl
        refine At.enter rfl ?_
        refine r_ireti ?_
        obtain ⟨v144, hv144⟩ : ∃ v, eA g0 233 3 = v := ⟨_, rfl⟩
        have wv144 := HI.t3 hI0
        rw [hv144] at wv144
        have tv144 := congrArg Int32.toInt hv144
        have x145 := HI.eqA hI138 (p := 233) (j := 3) ((((eA_c (hF139.2.1 233 ma_X11_tell_231_233)).trans (eA_c gA_sI)).trans hv144))
        obtain ⟨v146, hv146⟩ : ∃ v, eA g0 233 0 = v := ⟨_, rfl⟩
        have tv146 := congrArg Int32.toInt hv146
        have wv146 := HI.t0 hI0
        rw [hv146] at wv146
        have tv146 := congrArg Int32.toInt hv146
        have x147 := HI.eqA hI138 (p := 233) (j := 0) ((((eA_c (hF139.2.1 233 ma_X11_tell_231_233)).trans (eA_c gA_sI)).trans hv146))
        obtain ⟨v148, hv148⟩ : ∃ v, eA g0 233 4 = v := ⟨_, rfl⟩
        have wv148 := HI.t4 hI0
        rw [hv148] at wv148
        have tv148 := congrArg Int32.toInt hv148
        have x149 := HI.eqA hI138 (p := 233) (j := 4) ((((eA_c (hF139.2.1 233 ma_X11_tell_231_233)).trans (eA_c gA_sI)).trans hv148))
        obtain ⟨v150, hv150⟩ : ∃ v, eA g0 233 5 = v := ⟨_, rfl⟩
        have wv150 := HI.t5 hI0
        rw [hv150] at wv150
        have tv150 := congrArg Int32.toInt hv150
        have x151 := HI.eqA hI138 (p := 233) (j := 5) ((((eA_c (hF139.2.1 233 ma_X11_tell_231_233)).trans (eA_c gA_sI)).trans hv150))
        obtain ⟨v152, hv152⟩ : ∃ v, eA g0 233 6 = v := ⟨_, rfl⟩
        have wv152 := HI.t6 hI0
        rw [hv152] at wv152
        have tv152 := congrArg Int32.toInt hv152
        have x153 := HI.eqA hI138 (p := 233) (j := 6) ((((eA_c (hF139.2.1 233 ma_X11_tell_231_233)).trans (eA_c gA_sI)).trans hv152))
        obtain ⟨v154, hv154⟩ : ∃ v, eA g0 233 1 = v := ⟨_, rfl⟩
        have tv154 := congrArg Int32.toInt hv154
        have wv154 := HI.t1 hI0
        rw [hv154] at wv154
        have tv154 := congrArg Int32.toInt hv154
        have x155 := HI.eqA hI138 (p := 233) (j := 1) ((((eA_c (hF139.2.1 233 ma_X11_tell_231_233)).trans (eA_c gA_sI)).trans hv154))
        have x156 := HI.eqA hI138 (p := 233) (j := 2) ((((eA_c (hF139.2.1 233 ma_X11_tell_231_233)).trans (eA_c gA_sI)).trans hv104))
        have x157 := HI.eqA hI0 (p := 233) (j := 3) (hv144)
        have x158 := HI.eqA hI0 (p := 233) (j := 2) (hv104)
        have x159 := HI.eqA hI0 (p := 233) (j := 0) (hv146)
        have x160 := HI.eqA hI0 (p := 233) (j := 4) (hv148)
        have x161 := HI.eqA hI0 (p := 233) (j := 5) (hv150)
        have x162 := HI.eqA hI0 (p := 233) (j := 6) (hv152)
        have x163 := HI.eqA hI0 (p := 233) (j := 1) (hv154)
        have x164 := HI.eqA hI0 (p := 233) (j := 2) (hv104)
        exact ⟨_, rfl, hI138, hF142, _, rfl, by omega, ⟨⟨by omega, by omega, by omega, by omega, by omega, by omega, by omega⟩, (by intro i i0 i1; refine (eA_ti (((hF139.2.1 233 ma_X11_tell_231_233).trans (gA_sI)))).trans ?_; (first | with_reducible rfl | omega | exact eA_ix (by omega) | rfl))⟩⟩
      · have c136_ : v103.toInt ≤ v106.toInt := en_j_gt_f c136
        refine At.enter rfl ?_
        refine r_iconst 1 rfl ?_
        refine r_goto ?_
        refine At.enter rfl ?_
        refine q_iretz (by decide) ?_
        refine At.enter rfl ?_
        refine r_iff 28 rfl (by decide) ?_
        refine At.enter rfl ?_
        refine r_aload_n rfl ?_
        refine r_iconst 3 rfl ?_
        refine r_iload_n rfl ?_
        refine q_inlV 34 rfl [.ref 231, .int 3, .int a1] [] (Nat.le_of_ble_eq_true rfl) rfl ?_
        refine Ev.mk rfl rfl ⟨Nat.le_of_ble_eq_true rfl, Or.inr (q_rc hI73.1 kx_231 rfl)⟩ ?_
        show At _ none _ _ (0, [(0, .ref 231), (1, .int 3), (2, .int a1)], [], (_, _)) _
        refine At.enter rfl ?_
        refine r_aload_n rfl ?_
        refine q_getR (Sh.ref hI73.1 kx_231 rfl) ?_
        refine r_iload_n rfl ?_
        obtain ⟨v165, hv165⟩ : ∃ v, eA g0 233 3 = v := ⟨_, rfl⟩
        have wv165 := HI.t3 hI0
        rw [hv165] at wv165
        refine q_iald (Sh.arr hI73.1 ka_233) 3 rfl (by decide) v165 ((eA_c (gA_sI)).trans hv165) ?_
        refine r_istore_n ([(3, .int v165), (0, .ref 231), (1, .int 3), (2, .int a1)]) rfl ?_
        refine r_aload_n rfl ?_
        refine q_getR (Sh.ref hI73.1 kx_231 rfl) ?_
        refine r_iload_n rfl ?_
        refine r_iload_n rfl ?_
        refine q_iast (Sh.arr hI73.1 ka_233) (3) rfl (by decide) ?_
        have x168 := HI.eqA hI73 (p := 233) (j := 2) (((eA_c gA_sI).trans hv104))
        have hI166 := HI.wt hI73 (j := 3) (v := a1) (by omega) (by omega)
        have hF167 := Fr.wA (p := 233) (j := 3) (v := a1) hF74 rfl
        refine r_aload_n rfl ?_
        refine r_iload_n rfl ?_
        refine q_inlV 19 rfl [.ref 231, .int v165] [] (Nat.le_of_ble_eq_true rfl) rfl ?_
        refine Ev.mk rfl rfl ⟨Nat.le_of_ble_eq_true rfl, Or.inr (q_rc hI166.1 kx_231 rfl)⟩ ?_
        show At _ none _ _ (0, [(0, .ref 231), (1, .int v165)], [], (_, _)) _
        refine At.enter rfl ?_
        refine r_aload_n rfl ?_
        refine r_iconst 0 rfl ?_
        refine q_putI (Sh.int hI166.1 kx_231 rfl) rfl ?_
        have hI169 := HI.wI0 hI166 kx_231 rfl (p := 231) (b := 1) (v := 0) rfl
        have hF170 := Fr.wI (p := 231) (b := 1) (v := 0) hF167 rfl
        refine r_iload_n rfl ?_
        refine q_ireti ?_
        refine At.enter rfl ?_
        refine q_ireti ?_
        refine At.enter rfl ?_
        refine r_goto ?_
        refine At.enter rfl ?_
        refine r_ireti ?_
        have x171 := HI.eqA hI169 (p := 233) (j := 3) (((eA_c gA_sI).trans (eA_sA_eq hI73.1 ka_233 (by first | rfl | omega) (by first | decide | omega) (by first | decide | omega))))
        obtain ⟨v172, hv172⟩ : ∃ v, eA g0 233 0 = v := ⟨_, rfl⟩
        have tv172 := congrArg Int32.toInt hv172
        have wv172 := HI.t0 hI0
        rw [hv172] at wv172
        have tv172 := congrArg Int32.toInt hv172
        have x173 := HI.eqA hI169 (p := 233) (j := 0) ((((eA_c gA_sI).trans ((eA_sA_ne hI73.1 ka_233 (by first | decide | omega) (by first | decide | omega) (by first | decide | omega)).trans (eA_c gA_sI))).trans hv172))
        obtain ⟨v174, hv174⟩ : ∃ v, eA g0 233 4 = v := ⟨_, rfl⟩
        have wv174 := HI.t4 hI0
        rw [hv174] at wv174
        have tv174 := congrArg Int32.toInt hv174
        have x175 := HI.eqA hI169 (p := 233) (j := 4) ((((eA_c gA_sI).trans ((eA_sA_ne hI73.1 ka_233 (by first | decide | omega) (by first | decide | omega) (by first | decide | omega)).trans (eA_c gA_sI))).trans hv174))
        obtain ⟨v176, hv176⟩ : ∃ v, eA g0 233 5 = v := ⟨_, rfl⟩
        have wv176 := HI.t5 hI0
        rw [hv176] at wv176
        have tv176 := congrArg Int32.toInt hv176
        have x177 := HI.eqA hI169 (p := 233) (j := 5) ((((eA_c gA_sI).trans ((eA_sA_ne hI73.1 ka_233 (by first | decide | omega) (by first | decide | omega) (by first | decide | omega)).trans (eA_c gA_sI))).trans hv176))
        obtain ⟨v178, hv178⟩ : ∃ v, eA g0 233 6 = v := ⟨_, rfl⟩
        have wv178 := HI.t6 hI0
        rw [hv178] at wv178
        have tv178 := congrArg Int32.toInt hv178
        have x179 := HI.eqA hI169 (p := 233) (j := 6) ((((eA_c gA_sI).trans ((eA_sA_ne hI73.1 ka_233 (by first | decide | omega) (by first | decide | omega) (by first | decide | omega)).trans (eA_c gA_sI))).trans hv178))
        obtain ⟨v180, hv180⟩ : ∃ v, eA g0 233 1 = v := ⟨_, rfl⟩
        have tv180 := congrArg Int32.toInt hv180
        have wv180 := HI.t1 hI0
        rw [hv180] at wv180
        have tv180 := congrArg Int32.toInt hv180
        have x181 := HI.eqA hI169 (p := 233) (j := 1) ((((eA_c gA_sI).trans ((eA_sA_ne hI73.1 ka_233 (by first | decide | omega) (by first | decide | omega) (by first | decide | omega)).trans (eA_c gA_sI))).trans hv180))
        have x182 := HI.eqA hI169 (p := 233) (j := 2) ((((eA_c gA_sI).trans ((eA_sA_ne hI73.1 ka_233 (by first | decide | omega) (by first | decide | omega) (by first | decide | omega)).trans (eA_c gA_sI))).trans hv104))
        have x183 := HI.eqA hI0 (p := 233) (j := 3) (hv165)
        have x184 := HI.eqA hI0 (p := 233) (j := 2) (hv104)
        have x185 := HI.eqA hI0 (p := 233) (j := 0) (hv172)
        have x186 := HI.eqA hI0 (p := 233) (j := 4) (hv174)
        have x187 := HI.eqA hI0 (p := 233) (j := 5) (hv176)
        have x188 := HI.eqA hI0 (p := 233) (j := 6) (hv178)
        have x189 := HI.eqA hI0 (p := 233) (j := 1) (hv180)
        have x190 := HI.eqA hI0 (p := 233) (j := 2) (hv104)
        exact ⟨_, rfl, hI169, hF170, _, rfl, by omega, ⟨⟨by omega, by omega, by omega, by omega, by omega, by omega, by omega⟩, (by intro i i0 i1; refine (eA_ti ((gA_sI))).trans ?_; exact (Decidable.em (i = 3)).elim (fun k284_ => by refine (eA_eqT hI73.1 ka_233 k284_ (by first | decide | omega) (by first | decide | omega)).trans ?_; (first | (with_reducible rfl) | (omega) | (rfl))) (fun k284_ => by refine (eA_neT hI73.1 ka_233 k284_ (by first | decide | omega) (by omega)).trans ?_; refine (eA_ti ((gA_sI))).trans ?_; (first | with_reducible rfl | omega | exact eA_ix (by omega) | rfl)))⟩⟩
