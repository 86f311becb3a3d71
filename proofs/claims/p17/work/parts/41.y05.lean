def F_X10_feed_0 : List (Nat × Nat) := [(174, 1)]
def A_X10_feed_0 : List Nat := [175]
set_option maxRecDepth 100000 in
set_option maxHeartbeats 4000000 in
theorem T_X10_feed_0 (d : Nat) {N : Nat} {g0 : List en_E} (hI0 : HI g0) (a1 : Int32) (a2 : Int32) (a3 : Int32) (a4 : Int32) (a5 : Int32) : Ev (d + 2) 111 [.ref 0, .int a1, .int a2, .int a3, .int a4, .int a5] (g0, N) (fun w h' => ∃ g', h' = (g', N) ∧ HI g' ∧ Fr F_X10_feed_0 A_X10_feed_0 g0 g' ∧ ∃ r : Int32, w = some (.int r) ∧ ((-1) ≤ r.toInt ∧ r.toInt ≤ 400) ∧ (((380 < (gI g0 174 1).toInt → r.toInt = -1 ∧ (gI g' 174 1).toInt = (gI g0 174 1).toInt) ∧ ((gI g0 174 1).toInt ≤ 380 → r.toInt = (gI g0 174 1).toInt + 20 ∧ (gI g' 174 1).toInt = (gI g0 174 1).toInt + 20)) ∧ (∀ i : Int, 0 ≤ i → i < 400 → (eA g' 175 (i)).toInt = if (gI g0 174 1).toInt ≤ 380 ∧ (gI g0 174 1).toInt + 0 ≤ i ∧ i < (gI g0 174 1).toInt + 4 then BYT a1 (i - (gI g0 174 1).toInt - 0) else if (gI g0 174 1).toInt ≤ 380 ∧ (gI g0 174 1).toInt + 4 ≤ i ∧ i < (gI g0 174 1).toInt + 8 then BYT a2 (i - (gI g0 174 1).toInt - 4) else if (gI g0 174 1).toInt ≤ 380 ∧ (gI g0 174 1).toInt + 8 ≤ i ∧ i < (gI g0 174 1).toInt + 12 then BYT a3 (i - (gI g0 174 1).toInt - 8) else if (gI g0 174 1).toInt ≤ 380 ∧ (gI g0 174 1).toInt + 12 ≤ i ∧ i < (gI g0 174 1).toInt + 16 then BYT a4 (i - (gI g0 174 1).toInt - 12) else if (gI g0 174 1).toInt ≤ 380 ∧ (gI g0 174 1).toInt + 16 ≤ i ∧ i < (gI g0 174 1).toInt + 20 then BYT a5 (i - (gI g0 174 1).toInt - 16) else (eA g0 175 (i)).toInt))) := by
  have hF0 : Fr F_X10_feed_0 A_X10_feed_0 g0 g0 := Fr.rf
  refine Ev.mk rfl rfl ⟨Nat.le_of_ble_eq_true rfl, Or.inr (q_rc hI0.1 kx_0 rfl)⟩ ?_
  show At _ none _ _ (0, [(0, .ref 0), (1, .int a1), (2, .int a2), (3, .int a3), (4, .int a4), (5, .int a5)], [], (_, _)) _
  refine At.enter rfl ?_
  refine r_aload_n rfl ?_
  refine q_getR (Sh.ref hI0.1 kx_0 rfl) ?_
  obtain ⟨v97, hv97⟩ : ∃ v, gI g0 174 1 = v := ⟨_, rfl⟩
  have rv97 := RgF.at hI0.2.1 (p := 174) (b := 1) rfl
  rw [hv97] at rv97
  dsimp only at rv97
  refine q_getI (Sh.int hI0.1 kx_174 rfl) v97 hv97 ?_
  refine r_bipush 20 rfl ?_
  refine q_iadd (v97.toInt + 20) rfl (by omega) (fun v98 hv98 => ?_)
  refine r_sipush 400 rfl ?_
  refine r_ics 16 rfl (fun c99 => ?_) (fun c99 => ?_)
  · have c99_ : v98.toInt ≤ 400 := en_i_le_t c99
    refine At.enter rfl ?_
    refine r_aload_n rfl ?_
    refine q_getR (Sh.ref hI0.1 kx_0 rfl) ?_
    refine r_iload_n rfl ?_
    refine r_callV 26 rfl [.ref 174, .int a1] [] (Nat.le_of_ble_eq_true rfl) rfl (T_X8_append_174 _ hI0 a1) ?_
    rintro _ _ ⟨g100, rfl, hI101, hF102, rfl, hr104⟩
    refine At.stn ?_
    have hF105 := Fr.tr hF0 hF102 rfl rfl
    have x106 := HI.eqI hI0 (p := 174) (b := 1) (hv97)
    obtain ⟨v107, hv107⟩ : ∃ v, gI g100 174 1 = v := ⟨_, rfl⟩
    have rv107 := RgF.at hI101.2.1 (p := 174) (b := 1) rfl
    rw [hv107] at rv107
    dsimp only at rv107
    have tv107 := congrArg Int32.toInt hv107
    have x108 := HI.eqI hI101 (p := 174) (b := 1) (hv107)
    refine At.enter rfl ?_
    refine r_aload_n rfl ?_
    refine q_getR (Sh.ref hI101.1 kx_0 rfl) ?_
    refine r_iload_n rfl ?_
    refine r_callV 34 rfl [.ref 174, .int a2] [] (Nat.le_of_ble_eq_true rfl) rfl (T_X8_append_174 _ hI101 a2) ?_
    rintro _ _ ⟨g109, rfl, hI110, hF111, rfl, hr113⟩
    refine At.stn ?_
    have hF114 := Fr.tr hF105 hF111 rfl rfl
    have x115 := HI.eqI hI101 (p := 174) (b := 1) (hv107)
    obtain ⟨v116, hv116⟩ : ∃ v, gI g109 174 1 = v := ⟨_, rfl⟩
    have rv116 := RgF.at hI110.2.1 (p := 174) (b := 1) rfl
    rw [hv116] at rv116
    dsimp only at rv116
    have tv116 := congrArg Int32.toInt hv116
    have x117 := HI.eqI hI110 (p := 174) (b := 1) (hv116)
    refine At.enter rfl ?_
    refine r_aload_n rfl ?_
    refine q_getR (Sh.ref hI110.1 kx_0 rfl) ?_
    refine r_iload_n rfl ?_
    refine r_callV 42 rfl [.ref 174, .int a3] [] (Nat.le_of_ble_eq_true rfl) rfl (T_X8_append_174 _ hI110 a3) ?_
    rintro _ _ ⟨g118, rfl, hI119, hF120, rfl, hr122⟩
    refine At.stn ?_
    have hF123 := Fr.tr hF114 hF120 rfl rfl
    have x124 := HI.eqI hI110 (p := 174) (b := 1) (hv116)
    obtain ⟨v125, hv125⟩ : ∃ v, gI g118 174 1 = v := ⟨_, rfl⟩
    have rv125 := RgF.at hI119.2.1 (p := 174) (b := 1) rfl
    rw [hv125] at rv125
    dsimp only at rv125
    have tv125 := congrArg Int32.toInt hv125
    have x126 := HI.eqI hI119 (p := 174) (b := 1) (hv125)
    refine At.enter rfl ?_
    refine r_aload_n rfl ?_
    refine q_getR (Sh.ref hI119.1 kx_0 rfl) ?_
    refine r_iload rfl ?_
    refine r_callV 51 rfl [.ref 174, .int a4] [] (Nat.le_of_ble_eq_true rfl) rfl (T_X8_append_174 _ hI119 a4) ?_
    rintro _ _ ⟨g127, rfl, hI128, hF129, rfl, hr131⟩
    refine At.stn ?_
    have hF132 := Fr.tr hF123 hF129 rfl rfl
    have x133 := HI.eqI hI119 (p := 174) (b := 1) (hv125)
    obtain ⟨v134, hv134⟩ : ∃ v, gI g127 174 1 = v := ⟨_, rfl⟩
    have rv134 := RgF.at hI128.2.1 (p := 174) (b := 1) rfl
    rw [hv134] at rv134
    dsimp only at rv134
    have tv134 := congrArg Int32.toInt hv134
    have x135 := HI.eqI hI128 (p := 174) (b := 1) (hv134)
    refine At.enter rfl ?_
    refine r_aload_n rfl ?_
    refine q_getR (Sh.ref hI128.1 kx_0 rfl) ?_
    refine r_iload rfl ?_
    refine r_callV 60 rfl [.ref 174, .int a5] [] (Nat.le_of_ble_eq_true rfl) rfl (T_X8_append_174 _ hI128 a5) ?_
    rintro _ _ ⟨g136, rfl, hI137, hF138, rfl, hr140⟩
    refine At.stn ?_
    have hF141 := Fr.tr hF132 hF138 rfl rfl
    have x142 := HI.eqI hI128 (p := 174) (b := 1) (hv134)
    obtain ⟨v143, hv143⟩ : ∃ v, gI g136 174 1 = v := ⟨_, rfl⟩
    have rv143 := RgF.at hI137.2.1 (p := 174) (b := 1) rfl
    rw [hv143] at rv143
    dsimp only at rv143
    have tv143 := congrArg Int32.toInt hv143
    have x144 := HI.eqI hI137 (p := 174) (b := 1) (hv143)
    refine At.enter rfl ?_
    refine r_aload_n rfl ?_
    refine q_getR (Sh.ref hI137.1 kx_0 rfl) ?_
    refine q_getI (Sh.int hI137.1 kx_174 rfl) v143 hv143 ?_
    refine r_ireti ?_
    have x145 := HI.eqI hI137 (p := 174) (b := 1) (hv143)
    have x146 := HI.eqI hI0 (p := 174) (b := 1) (hv97)
    exact ⟨_, rfl, hI137, hF141, _, rfl, by omega, ⟨(by omega), (by intro i i0 i1; rcases (show i < (gI g0 174 1).toInt ∨ ((gI g0 174 1).toInt + 0 ≤ i ∧ i < (gI g0 174 1).toInt + 4) ∨ ((gI g0 174 1).toInt + 4 ≤ i ∧ i < (gI g0 174 1).toInt + 8) ∨ ((gI g0 174 1).toInt + 8 ≤ i ∧ i < (gI g0 174 1).toInt + 12) ∨ ((gI g0 174 1).toInt + 12 ≤ i ∧ i < (gI g0 174 1).toInt + 16) ∨ ((gI g0 174 1).toInt + 16 ≤ i ∧ i < (gI g0 174 1).toInt + 20) ∨ (gI g0 174 1).toInt + 20 ≤ i from by omega) with k | k | k | k | k | k | k; (refine Eq.trans ?_ (if_neg (show ¬ ((gI g0 174 1).toInt ≤ 380 ∧ (gI g0 174 1).toInt + 0 ≤ i ∧ i < (gI g0 174 1).toInt + 4) from fun z => by omega)).symm; refine Eq.trans ?_ (if_neg (show ¬ ((gI g0 174 1).toInt ≤ 380 ∧ (gI g0 174 1).toInt + 4 ≤ i ∧ i < (gI g0 174 1).toInt + 8) from fun z => by omega)).symm; refine Eq.trans ?_ (if_neg (show ¬ ((gI g0 174 1).toInt ≤ 380 ∧ (gI g0 174 1).toInt + 8 ≤ i ∧ i < (gI g0 174 1).toInt + 12) from fun z => by omega)).symm; refine Eq.trans ?_ (if_neg (show ¬ ((gI g0 174 1).toInt ≤ 380 ∧ (gI g0 174 1).toInt + 12 ≤ i ∧ i < (gI g0 174 1).toInt + 16) from fun z => by omega)).symm; refine Eq.trans ?_ (if_neg (show ¬ ((gI g0 174 1).toInt ≤ 380 ∧ (gI g0 174 1).toInt + 16 ≤ i ∧ i < (gI g0 174 1).toInt + 20) from fun z => by omega)).symm; refine ((hr140.2 (by omega)) (i) (by omega) (by omega)).trans ?_; refine (if_neg (show ¬ ((gI g127 174 1).toInt ≤ (i) ∧ (i) < (gI g127 174 1).toInt + 4) from fun z => by omega)).trans ?_; refine ((hr131.2 (by omega)) (i) (by omega) (by omega)).trans ?_; refine (if_neg (show ¬ ((gI g118 174 1).toInt ≤ (i) ∧ (i) < (gI g118 174 1).toInt + 4) from fun z => by omega)).trans ?_; refine ((hr122.2 (by omega)) (i) (by omega) (by omega)).trans ?_; refine (if_neg (show ¬ ((gI g109 174 1).toInt ≤ (i) ∧ (i) < (gI g109 174 1).toInt + 4) from fun z => by omega)).trans ?_; refine ((hr113.2 (by omega)) (i) (by omega) (by omega)).trans ?_; refine (if_neg (show ¬ ((gI g100 174 1).toInt ≤ (i) ∧ (i) < (gI g100 174 1).toInt + 4) from fun z => by omega)).trans ?_; refine ((hr104.2 (by omega)) (i) (by omega) (by omega)).trans ?_; refine (if_neg (show ¬ ((gI g0 174 1).toInt ≤ (i) ∧ (i) < (gI g0 174 1).toInt + 4) from fun z => by omega)).trans ?_; rfl); (refine Eq.trans ?_ (if_pos (show (gI g0 174 1).toInt ≤ 380 ∧ (gI g0 174 1).toInt + 0 ≤ i ∧ i < (gI g0 174 1).toInt + 4 from ⟨by omega, by omega, by omega⟩)).symm; refine ((hr140.2 (by omega)) (i) (by omega) (by omega)).trans ?_; refine (if_neg (show ¬ ((gI g127 174 1).toInt ≤ (i) ∧ (i) < (gI g127 174 1).toInt + 4) from fun z => by omega)).trans ?_; refine ((hr131.2 (by omega)) (i) (by omega) (by omega)).trans ?_; refine (if_neg (show ¬ ((gI g118 174 1).toInt ≤ (i) ∧ (i) < (gI g118 174 1).toInt + 4) from fun z => by omega)).trans ?_; refine ((hr122.2 (by omega)) (i) (by omega) (by omega)).trans ?_; refine (if_neg (show ¬ ((gI g109 174 1).toInt ≤ (i) ∧ (i) < (gI g109 174 1).toInt + 4) from fun z => by omega)).trans ?_; refine ((hr113.2 (by omega)) (i) (by omega) (by omega)).trans ?_; refine (if_neg (show ¬ ((gI g100 174 1).toInt ≤ (i) ∧ (i) < (gI g100 174 1).toInt + 4) from fun z => by omega)).trans ?_; refine ((hr104.2 (by omega)) (i) (by omega) (by omega)).trans ?_; refine (if_pos (show (gI g0 174 1).toInt ≤ (i) ∧ (i) < (gI g0 174 1).toInt + 4 from ⟨by omega, by omega⟩)).trans ?_; exact congrArg (BYT _) (by omega)); (refine Eq.trans ?_ (if_neg (show ¬ ((gI g0 174 1).toInt ≤ 380 ∧ (gI g0 174 1).toInt + 0 ≤ i ∧ i < (gI g0 174 1).toInt + 4) from fun z => by omega)).symm; refine Eq.trans ?_ (if_pos (show (gI g0 174 1).toInt ≤ 380 ∧ (gI g0 174 1).toInt + 4 ≤ i ∧ i < (gI g0 174 1).toInt + 8 from ⟨by omega, by omega, by omega⟩)).symm; refine ((hr140.2 (by omega)) (i) (by omega) (by omega)).trans ?_; refine (if_neg (show ¬ ((gI g127 174 1).toInt ≤ (i) ∧ (i) < (gI g127 174 1).toInt + 4) from fun z => by omega)).trans ?_; refine ((hr131.2 (by omega)) (i) (by omega) (by omega)).trans ?_; refine (if_neg (show ¬ ((gI g118 174 1).toInt ≤ (i) ∧ (i) < (gI g118 174 1).toInt + 4) from fun z => by omega)).trans ?_; refine ((hr122.2 (by omega)) (i) (by omega) (by omega)).trans ?_; refine (if_neg (show ¬ ((gI g109 174 1).toInt ≤ (i) ∧ (i) < (gI g109 174 1).toInt + 4) from fun z => by omega)).trans ?_; refine ((hr113.2 (by omega)) (i) (by omega) (by omega)).trans ?_; refine (if_pos (show (gI g100 174 1).toInt ≤ (i) ∧ (i) < (gI g100 174 1).toInt + 4 from ⟨by omega, by omega⟩)).trans ?_; exact congrArg (BYT _) (by omega)); (refine Eq.trans ?_ (if_neg (show ¬ ((gI g0 174 1).toInt ≤ 380 ∧ (gI g0 174 1).toInt + 0 ≤ i ∧ i < (gI g0 174 1).toInt + 4) from fun z => by omega)).symm; refine Eq.trans ?_ (if_neg (show ¬ ((gI g0 174 1).toInt ≤ 380 ∧ (gI g0 174 1).toInt + 4 ≤ i ∧ i < (gI g0 174 1).toInt + 8) from fun z => by omega)).symm; refine Eq.trans ?_ (if_pos (show (gI g0 174 1).toInt ≤ 380 ∧ (gI g0 174 1).toInt + 8 ≤ i ∧ i < (gI g0 174 1).toInt + 12 from ⟨by omega, by omega, by omega⟩)).symm; refine ((hr140.2 (by omega)) (i) (by omega) (by omega)).trans ?_; refine (if_neg (show ¬ ((gI g127 174 1).toInt ≤ (i) ∧ (i) < (gI g127 174 1).toInt + 4) from fun z => by omega)).trans ?_; refine ((hr131.2 (by omega)) (i) (by omega) (by omega)).trans ?_; refine (if_neg (show ¬ ((gI g118 174 1).toInt ≤ (i) ∧ (i) < (gI g118 174 1).toInt + 4) from fun z => by omega)).trans ?_; refine ((hr122.2 (by omega)) (i) (by omega) (by omega)).trans ?_; refine (if_pos (show (gI g109 174 1).toInt ≤ (i) ∧ (i) < (gI g109 174 1).toInt + 4 from ⟨by omega, by omega⟩)).trans ?_; exact congrArg (BYT _) (by omega)); (refine Eq.trans ?_ (if_neg (show ¬ ((gI g0 174 1).toInt ≤ 380 ∧ (gI g0 174 1).toInt + 0 ≤ i ∧ i < (gI g0 174 1).toInt + 4) from fun z => by omega)).symm; refine Eq.trans ?_ (if_neg (show ¬ ((gI g0 174 1).toInt ≤ 380 ∧ (gI g0 174 1).toInt + 4 ≤ i ∧ i < (gI g0 174 1).toInt + 8) from fun z => by omega)).symm; refine Eq.trans ?_ (if_neg (show ¬ ((gI g0 174 1).toInt ≤ 380 ∧ (gI g0 174 1).toInt + 8 ≤ i ∧ i < (gI g0 174 1).toInt + 12) from fun z => by omega)).symm; refine Eq.trans ?_ (if_pos (show (gI g0 174 1).toInt ≤ 380 ∧ (gI g0 174 1).toInt + 12 ≤ i ∧ i < (gI g0 174 1).toInt + 16 from ⟨by omega, by omega, by omega⟩)).symm; refine ((hr140.2 (by omega)) (i) (by omega) (by omega)).trans ?_; refine (if_neg (show ¬ ((gI g127 174 1).toInt ≤ (i) ∧ (i) < (gI g127 174 1).toInt + 4) from fun z => by omega)).trans ?_; refine ((hr131.2 (by omega)) (i) (by omega) (by omega)).trans ?_; refine (if_pos (show (gI g118 174 1).toInt ≤ (i) ∧ (i) < (gI g118 174 1).toInt + 4 from ⟨by omega, by omega⟩)).trans ?_; exact congrArg (BYT _) (by omega)); (refine Eq.trans ?_ (if_neg (show ¬ ((gI g0 174 1).toInt ≤ 380 ∧ (gI g0 174 1).toInt + 0 ≤ i ∧ i < (gI g0 174 1).toInt + 4) from fun z => by omega)).symm; refine Eq.trans ?_ (if_neg (show ¬ ((gI g0 174 1).toInt ≤ 380 ∧ (gI g0 174 1).toInt + 4 ≤ i ∧ i < (gI g0 174 1).toInt + 8) from fun z => by omega)).symm; refine Eq.trans ?_ (if_neg (show ¬ ((gI g0 174 1).toInt ≤ 380 ∧ (gI g0 174 1).toInt + 8 ≤ i ∧ i < (gI g0 174 1).toInt + 12) from fun z => by omega)).symm; refine Eq.trans ?_ (if_neg (show ¬ ((gI g0 174 1).toInt ≤ 380 ∧ (gI g0 174 1).toInt + 12 ≤ i ∧ i < (gI g0 174 1).toInt + 16) from fun z => by omega)).symm; refine Eq.trans ?_ (if_pos (show (gI g0 174 1).toInt ≤ 380 ∧ (gI g0 174 1).toInt + 16 ≤ i ∧ i < (gI g0 174 1).toInt + 20 from ⟨by omega, by omega, by omega⟩)).symm; refine ((hr140.2 (by omega)) (i) (by omega) (by omega)).trans ?_; refine (if_pos (show (gI g127 174 1).toInt ≤ (i) ∧ (i) < (gI g127 174 1).toInt + 4 from ⟨by omega, by omega⟩)).trans ?_; exact congrArg (BYT _) (by omega)); (refine Eq.trans ?_ (if_neg (show ¬ ((gI g0 174 1).toInt ≤ 380 ∧ (gI g0 174 1).toInt + 0 ≤ i ∧ i < (gI g0 174 1).toInt + 4) from fun z => by omega)).symm; refine Eq.trans ?_ (if_neg (show ¬ ((gI g0 174 1).toInt ≤ 380 ∧ (gI g0 174 1).toInt + 4 ≤ i ∧ i < (gI g0 174 1).toInt + 8) from fun z => by omega)).symm; refine Eq.trans ?_ (if_neg (show ¬ ((gI g0 174 1).toInt ≤ 380 ∧ (gI g0 174 1).toInt + 8 ≤ i ∧ i < (gI g0 174 1).toInt + 12) from fun z => by omega)).symm; refine Eq.trans ?_ (if_neg (show ¬ ((gI g0 174 1).toInt ≤ 380 ∧ (gI g0 174 1).toInt + 12 ≤ i ∧ i < (gI g0 174 1).toInt + 16) from fun z => by omega)).symm; refine Eq.trans ?_ (if_neg (show ¬ ((gI g0 174 1).toInt ≤ 380 ∧ (gI g0 174 1).toInt + 16 ≤ i ∧ i < (gI g0 174 1).toInt + 20) from fun z => by omega)).symm; refine ((hr140.2 (by omega)) (i) (by omega) (by omega)).trans ?_; refine (if_neg (show ¬ ((gI g127 174 1).toInt ≤ (i) ∧ (i) < (gI g127 174 1).toInt + 4) from fun z => by omega)).trans ?_; refine ((hr131.2 (by omega)) (i) (by omega) (by omega)).trans ?_; refine (if_neg (show ¬ ((gI g118 174 1).toInt ≤ (i) ∧ (i) < (gI g118 174 1).toInt + 4) from fun z => by omega)).trans ?_; refine ((hr122.2 (by omega)) (i) (by omega) (by omega)).trans ?_; refine (if_neg (show ¬ ((gI g109 174 1).toInt ≤ (i) ∧ (i) < (gI g109 174 1).toInt + 4) from fun z => by omega)).trans ?_; refine ((hr113.2 (by omega)) (i) (by omega) (by omega)).trans ?_; refine (if_neg (show ¬ ((gI g100 174 1).toInt ≤ (i) ∧ (i) < (gI g100 174 1).toInt + 4) from fun z => by omega)).trans ?_; refine ((hr104.2 (by omega)) (i) (by omega) (by omega)).trans ?_; refine (if_neg (show ¬ ((gI g0 174 1).toInt ≤ (i) ∧ (i) < (gI g0 174 1).toInt + 4) from fun z => by omega)).trans ?_; rfl))⟩⟩
  · have c99_ : v98.toInt > 400 := en_i_le_f c99
    refine At.enter rfl ?_
    refine r_iconst (-1) rfl ?_
    refine r_ireti ?_
    have zv147 : ((-1) : Int32).toInt = (-1) := rfl
    have x148 := HI.eqI hI0 (p := 174) (b := 1) (hv97)
    have x149 := HI.eqI hI0 (p := 174) (b := 1) (hv97)
    exact ⟨_, rfl, hI0, hF0, _, rfl, by decide, ⟨(by omega), (by intro i i0 i1; refine Eq.trans ?_ (if_neg (show ¬ ((gI g0 174 1).toInt ≤ 380 ∧ (gI g0 174 1).toInt + 0 ≤ i ∧ i < (gI g0 174 1).toInt + 4) from by omega)).symm; refine Eq.trans ?_ (if_neg (show ¬ ((gI g0 174 1).toInt ≤ 380 ∧ (gI g0 174 1).toInt + 4 ≤ i ∧ i < (gI g0 174 1).toInt + 8) from by omega)).symm; refine Eq.trans ?_ (if_neg (show ¬ ((gI g0 174 1).toInt ≤ 380 ∧ (gI g0 174 1).toInt + 8 ≤ i ∧ i < (gI g0 174 1).toInt + 12) from by omega)).symm; refine Eq.trans ?_ (if_neg (show ¬ ((gI g0 174 1).toInt ≤ 380 ∧ (gI g0 174 1).toInt + 12 ≤ i ∧ i < (gI g0 174 1).toInt + 16) from by omega)).symm; refine Eq.trans ?_ (if_neg (show ¬ ((gI g0 174 1).toInt ≤ 380 ∧ (gI g0 174 1).toInt + 16 ≤ i ∧ i < (gI g0 174 1).toInt + 20) from by omega)).symm; (first | rfl | exact eA_ix (by omega) | omega))⟩⟩

def F_X10_end_0 : List (Nat × Nat) := [(174, 1)]
def A_X10_end_0 : List Nat := []
set_option maxRecDepth 100000 in
set_option maxHeartbeats 4000000 in
theorem T_X10_end_0 (d : Nat) {N : Nat} {g0 : List en_E} (hI0 : HI g0) (a1 : Int32) : Ev (d + 2) 112 [.ref 0, .int a1] (g0, N) (fun w h' => ∃ g', h' = (g', N) ∧ HI g' ∧ Fr F_X10_end_0 A_X10_end_0 g0 g' ∧ ∃ r : Int32, w = some (.int r) ∧ ((-1) ≤ r.toInt ∧ r.toInt ≤ 400) ∧ ((0 ≤ a1.toInt ∧ a1.toInt ≤ (gI g0 174 1).toInt → r.toInt = a1.toInt ∧ (gI g' 174 1).toInt = a1.toInt) ∧ (a1.toInt < 0 ∨ (gI g0 174 1).toInt < a1.toInt → r.toInt = -1 ∧ (gI g' 174 1).toInt = (gI g0 174 1).toInt))) := by
  have hF0 : Fr F_X10_end_0 A_X10_end_0 g0 g0 := Fr.rf
  refine Ev.mk rfl rfl ⟨Nat.le_of_ble_eq_true rfl, Or.inr (q_rc hI0.1 kx_0 rfl)⟩ ?_
  show At _ none _ _ (0, [(0, .ref 0), (1, .int a1)], [], (_, _)) _
  refine At.enter rfl ?_
  refine r_iload_n rfl ?_
  refine r_iconst 0 rfl ?_
  refine r_aload_n rfl ?_
  refine q_getR (Sh.ref hI0.1 kx_0 rfl) ?_
  obtain ⟨v15, hv15⟩ : ∃ v, gI g0 174 1 = v := ⟨_, rfl⟩
  have rv15 := RgF.at hI0.2.1 (p := 174) (b := 1) rfl
  rw [hv15] at rv15
  dsimp only at rv15
  refine q_getI (Sh.int hI0.1 kx_174 rfl) v15 hv15 ?_
  refine q_inlS 12 rfl [.int a1, .int 0, .int v15] [] (Nat.le_of_ble_eq_true rfl) rfl ?_
  refine Ev.mk rfl rfl ⟨Nat.le_of_ble_eq_true rfl, Or.inl rfl⟩ ?_
  show At _ none _ _ (0, [(0, .int a1), (1, .int 0), (2, .int v15)], [], (_, _)) _
  refine At.enter rfl ?_
  refine r_iload_n rfl ?_
  refine r_iload_n rfl ?_
  refine r_ics 5 rfl (fun c16 => ?_) (fun c16 => ?_)
  · have c16_ : a1.toInt < 0 := en_i_lt_t c16
    refine At.enter rfl ?_
    refine r_iconst 0 rfl ?_
    refine Ar.fall 15 rfl ?_
    refine At.enter rfl ?_
    refine q_iretz (by decide) ?_
    refine At.enter rfl ?_
    refine r_iff 15 rfl (by decide) ?_
    refine At.enter rfl ?_
    refine r_iconst (-1) rfl ?_
    refine r_ireti ?_
    have zv17 : ((-1) : Int32).toInt = (-1) := rfl
    have x18 := HI.eqI hI0 (p := 174) (b := 1) (hv15)
    have x19 := HI.eqI hI0 (p := 174) (b := 1) (hv15)
    exact ⟨_, rfl, hI0, hF0, _, rfl, by decide, (by omega)⟩
  · have c16_ : a1.toInt ≥ 0 := en_i_lt_f c16
    refine At.enter rfl ?_
    refine r_iload_n rfl ?_
    refine r_iload_n rfl ?_
    have bv21 := q_bnd a1
    have bv22 := q_bnd v15
    refine r_ics 10 rfl (fun c20 => ?_) (fun c20 => ?_)
    · have c20_ : a1.toInt > v15.toInt := en_i_gt_t c20
      refine At.enter rfl ?_
      refine r_iconst 0 rfl ?_
      refine Ar.fall 15 rfl ?_
      refine At.enter rfl ?_
      refine q_iretz (by decide) ?_
      refine At.enter rfl ?_
      refine r_iff 15 rfl (by decide) ?_
      refine At.enter rfl ?_
      refine r_iconst (-1) rfl ?_
      refine r_ireti ?_
      have zv23 : ((-1) : Int32).toInt = (-1) := rfl
      have x24 := HI.eqI hI0 (p := 174) (b := 1) (hv15)
      have x25 := HI.eqI hI0 (p := 174) (b := 1) (hv15)
      exact ⟨_, rfl, hI0, hF0, _, rfl, by decide, (by omega)⟩
    · have c20_ : a1.toInt ≤ v15.toInt := en_i_gt_f c20
      refine At.enter rfl ?_
      refine r_iconst 1 rfl ?_
      refine r_goto ?_
      refine At.enter rfl ?_
      refine q_iretz (by decide) ?_
      refine At.enter rfl ?_
      refine r_ift (by decide) ?_
      refine At.enter rfl ?_
      refine r_aload_n rfl ?_
      refine q_getR (Sh.ref hI0.1 kx_0 rfl) ?_
      refine r_iload_n rfl ?_
      refine q_putI (Sh.int hI0.1 kx_174 rfl) rfl ?_
      have hI26 := HI.wI1 hI0 kx_174 rfl (p := 174) (b := 1) (v := a1) rfl (by dsimp only; omega)
      have hF27 := Fr.wI (p := 174) (b := 1) (v := a1) hF0 rfl
      refine r_iload_n rfl ?_
      refine r_ireti ?_
      have x28 := HI.eqI hI26 (p := 174) (b := 1) ((gI_sI_eq hI0.1 kx_174 rfl _))
      have x29 := HI.eqI hI0 (p := 174) (b := 1) (hv15)
      exact ⟨_, rfl, hI26, hF27, _, rfl, by omega, (by omega)⟩

def F_X10_row_0 : List (Nat × Nat) := [(0, 14), (0, 16), (0, 17), (1, 4), (174, 1), (220, 2), (222, 2), (223, 5), (223, 10)]
def A_X10_row_0 : List Nat := [5, 230]
set_option maxRecDepth 100000 in
set_option maxHeartbeats 4000000 in
theorem T_X10_row_0 (d : Nat) {N : Nat} {g0 : List en_E} (hI0 : HI g0) : Ev (d + 4) 113 [.ref 0] (g0, N) (fun w h' => ∃ g', h' = (g', N) ∧ HI g' ∧ Fr F_X10_row_0 A_X10_row_0 g0 g' ∧ ∃ r : Int32, w = some (.int r) ∧ ((-6) ≤ r.toInt ∧ r.toInt ≤ 400) ∧ (((gI g' 1 4).toInt = RLI (fun i : Int => (eA g0 175 i).toInt) (gI g0 174 1).toInt (gI g0 1 0).toInt (gI g0 1 4).toInt (6 * (((gI g0 174 1).toInt + 5) / 6)) ∧ ((gI g0 174 1).toInt = 0 → r.toInt = -6 ∧ (gI g' 0 16).toInt = (gI g0 0 16).toInt) ∧ ((gI g0 174 1).toInt ≠ 0 → r.toInt = (gI g' 1 4).toInt - (gI g0 1 4).toInt ∧ (gI g' 0 16).toInt = (6 * (((gI g0 174 1).toInt + 5) / 6)) / 6 - r.toInt) ∧ (gI g' 174 1).toInt = 0) ∧ (∀ i : Int, 0 ≤ i → i < 48 → (eA g' 5 (i)).toInt = RFI (fun i : Int => (eA g0 175 i).toInt) (gI g0 174 1).toInt (gI g0 1 0).toInt (gI g0 1 4).toInt (fun i : Int => (eA g0 5 i).toInt) (6 * (((gI g0 174 1).toInt + 5) / 6)) (i)))) := by
  have hF0 : Fr F_X10_row_0 A_X10_row_0 g0 g0 := Fr.rf
  refine Ev.mk rfl rfl ⟨Nat.le_of_ble_eq_true rfl, Or.inr (q_rc hI0.1 kx_0 rfl)⟩ ?_
  show At _ none _ _ (0, [(0, .ref 0)], [], (_, _)) _
  refine At.enter rfl ?_
  refine r_aload_n rfl ?_
  refine q_getR (Sh.ref hI0.1 kx_0 rfl) ?_
  obtain ⟨v4760, hv4760⟩ : ∃ v, gI g0 174 1 = v := ⟨_, rfl⟩
  have rv4760 := RgF.at hI0.2.1 (p := 174) (b := 1) rfl
  rw [hv4760] at rv4760
  dsimp only at rv4760
  refine q_getI (Sh.int hI0.1 kx_174 rfl) v4760 hv4760 ?_
  refine r_istore_n ([(1, .int v4760), (0, .ref 0)]) rfl ?_
  refine r_iload_n rfl ?_
  refine r_ifs 12 rfl (fun c4761 => ?_) (fun c4761 => ?_)
  · have c4761_ : v4760.toInt ≠ 0 := en_k_ne_t c4761
    refine At.enter rfl ?_
    refine r_iconst 0 rfl ?_
    refine r_istore_n ([(2, .int 0), (1, .int v4760), (0, .ref 0)]) rfl ?_
    refine r_iconst 0 rfl ?_
    refine r_istore_n ([(3, .int 0), (2, .int 0), (1, .int v4760), (0, .ref 0)]) rfl ?_
    refine r_iconst 0 rfl ?_
    refine r_istore ([(4, .int 0), (3, .int 0), (2, .int 0), (1, .int v4760), (0, .ref 0)]) rfl ?_
    refine Ar.fall 26 rfl ?_
    obtain ⟨v4762, hv4762⟩ : ∃ v, gI g0 1 4 = v := ⟨_, rfl⟩
    have rv4762 := RgF.at hI0.2.1 (p := 1) (b := 4) rfl
    rw [hv4762] at rv4762
    dsimp only at rv4762
    have tv4762 := congrArg Int32.toInt hv4762
    have z_7035 : (0 : Int32).toInt = 0 := rfl
    have z_7036 : (0 : Int32).toInt = 0 := rfl
    have z_7037 : (0 : Int32).toInt = 0 := rfl
    have x7038 := HI.eqI hI0 (p := 1) (b := 4) (hv4762)
    obtain ⟨v7039, hv7039⟩ : ∃ v, gI g0 1 0 = v := ⟨_, rfl⟩
    have rv7039 := RgF.at hI0.2.1 (p := 1) (b := 0) rfl
    rw [hv7039] at rv7039
    dsimp only at rv7039
    have tv7039 := congrArg Int32.toInt hv7039
    have x7040 := HI.eqI hI0 (p := 1) (b := 0) (hv7039)
    have x7041 := HI.eqI hI0 (p := 174) (b := 1) (hv4760)
    refine w_loopI (fun n_ l_ g_ => ∃ x7007 : Int32, ∃ x7008 : Int32, ∃ x7009 : Int32, ∃ x7010 : Int32, n_ = 405 - x7009.toInt ∧ HI g_ ∧ Fr F_X10_row_0 A_X10_row_0 g0 g_ ∧ gI g_ 1 4 = x7010 ∧ gI g_ 174 1 = v4760 ∧ en_get 0 l_ = some (.ref 0) ∧ en_get 1 l_ = some (.int v4760) ∧ en_get 2 l_ = some (.int x7007) ∧ en_get 3 l_ = some (.int x7008) ∧ en_get 4 l_ = some (.int x7009) ∧ (0 ≤ x7007.toInt ∧ x7007.toInt ≤ 400) ∧ (0 ≤ x7008.toInt ∧ x7008.toInt ≤ 400) ∧ (0 ≤ x7009.toInt ∧ x7009.toInt ≤ 405) ∧ (0 ≤ x7010.toInt ∧ x7010.toInt ≤ 8) ∧ (x7009.toInt % 6 = 0) ∧ (0 ≤ x7009.toInt) ∧ (x7009.toInt < (gI g0 174 1).toInt + 6) ∧ (x7010.toInt = RLI (fun i : Int => (eA g0 175 i).toInt) (gI g0 174 1).toInt (gI g0 1 0).toInt (gI g0 1 4).toInt x7009.toInt) ∧ (x7007.toInt = x7010.toInt - (gI g0 1 4).toInt) ∧ (x7008.toInt = x7009.toInt / 6 - x7007.toInt) ∧ (∀ i : Int, 0 ≤ i → i < 48 → (eA g_ 5 (i)).toInt = RFI (fun i : Int => (eA g0 175 i).toInt) (gI g0 174 1).toInt (gI g0 1 0).toInt (gI g0 1 4).toInt (fun i : Int => (eA g0 5 i).toInt) x7009.toInt (i))) ?_ (405 - 0) ⟨0, 0, 0, v4762, by first | rfl | omega, hI0, hF0, hv4762, hv4760, rfl, rfl, rfl, rfl, rfl, by decide, by decide, by decide, by omega, by omega, by omega, by omega, (by refine Eq.trans ?_ (RLI.z _ _ _ _ (by first | rfl | decide | omega)); omega), by omega, by omega, (by intro i i0 i1; exact RFI.z _ _ _ _ (fun i : Int => (eA g0 5 i).toInt) (by first | rfl | decide | omega) _)⟩
    rintro n7015 l7014 g7011 ⟨x7007, x7008, x7009, x7010, hm7042, hI7012, hF7013, e7017, e7018, e7019, e7020, e7021, e7022, e7023, r7024, r7025, r7026, r7027, q7028, q7029, q7030, q7031, q7032, q7033, q7034⟩ ih7016
    have tv7043 := congrArg Int32.toInt e7018
    have tv7044 := congrArg Int32.toInt e7017
    refine At.enter rfl ?_
    refine r_iload e7023 ?_
    refine r_iload_n e7020 ?_
    have bv7046 := q_bnd x7009
    have bv7047 := q_bnd v4760
    refine r_ics 32 rfl (fun c7045 => ?_) (fun c7045 => ?_)
    · have c7045_ : x7009.toInt ≥ v4760.toInt := en_i_ge_t c7045
      refine At.enter rfl ?_
      refine r_aload_n e7019 ?_
      refine q_getR (Sh.ref hI7012.1 kx_0 rfl) ?_
      refine r_iconst 0 rfl ?_
      refine q_putI (Sh.int hI7012.1 kx_174 rfl) rfl ?_
      have hI7048 := HI.wI1 hI7012 kx_174 rfl (p := 174) (b := 1) (v := 0) rfl (by decide)
      have hF7049 := Fr.wI (p := 174) (b := 1) (v := 0) hF7013 rfl
      refine r_aload_n e7019 ?_
      refine r_iload_n e7022 ?_
      refine q_putI (Sh.int hI7048.1 kx_0 rfl) rfl ?_
      have hI7050 := HI.wI0 hI7048 kx_0 rfl (p := 0) (b := 16) (v := x7008) rfl
      have hF7051 := Fr.wI (p := 0) (b := 16) (v := x7008) hF7049 rfl
      refine r_aload_n e7019 ?_
      refine r_callV 82 rfl [.ref 0] [] (Nat.le_of_ble_eq_true rfl) rfl (T_X10_changed_0 _ hI7050) ?_
      rintro _ _ ⟨g7052, rfl, hI7053, hF7054, rfl⟩
      refine At.stn ?_
      have hF7057 := Fr.tr hF7051 hF7054 rfl rfl
      refine At.enter rfl ?_
      refine r_aload_n e7019 ?_
      refine r_iload_n e7021 ?_
      refine q_inlV 87 rfl [.ref 0, .int x7007] [] (Nat.le_of_ble_eq_true rfl) rfl ?_
      refine Ev.mk rfl rfl ⟨Nat.le_of_ble_eq_true rfl, Or.inr (q_rc hI7053.1 kx_0 rfl)⟩ ?_
      show At _ none _ _ (0, [(0, .ref 0), (1, .int x7007)], [], (_, _)) _
      refine At.enter rfl ?_
      refine r_aload_n rfl ?_
      refine r_iconst 0 rfl ?_
      refine q_putI (Sh.int hI7053.1 kx_0 rfl) rfl ?_
      have hI7058 := HI.wI0 hI7053 kx_0 rfl (p := 0) (b := 17) (v := 0) rfl
      have hF7059 := Fr.wI (p := 0) (b := 17) (v := 0) hF7057 rfl
      refine r_iload_n rfl ?_
      refine q_ireti ?_
      refine At.enter rfl ?_
      refine r_ireti ?_
      have x7060 := HI.eqI hI7058 (p := 1) (b := 4) ((((gI_sI_ne (by decide)).trans ((hF7054.1 1 4 (by decide)).trans ((gI_sI_ne (by decide)).trans (gI_sI_ne (by decide))))).trans e7017))
      have x7061 := HI.eqI hI0 (p := 1) (b := 4) (hv4762)
      have x7062 := HI.eqI hI7058 (p := 174) (b := 1) (((gI_sI_ne (by decide)).trans ((hF7054.1 174 1 (by decide)).trans ((gI_sI_ne (by decide)).trans (gI_sI_eq hI7012.1 kx_174 rfl _)))))
      have zv7063 : (0 : Int32).toInt = 0 := rfl
      have x7064 := HI.eqI hI0 (p := 174) (b := 1) (hv4760)
      have x7065 := HI.eqI hI7058 (p := 0) (b := 16) (((gI_sI_ne (by decide)).trans ((hF7054.1 0 16 (by decide)).trans (gI_sI_eq hI7048.1 kx_0 rfl _))))
      obtain ⟨v7066, hv7066⟩ : ∃ v, gI g0 0 16 = v := ⟨_, rfl⟩
      have tv7066 := congrArg Int32.toInt hv7066
      have x7067 := HI.eqI hI0 (p := 0) (b := 16) (hv7066)
      have x7068 := HI.eqI hI0 (p := 1) (b := 0) (hv7039)
      exact ⟨_, rfl, hI7058, hF7059, _, rfl, by omega, ⟨⟨(by rw [show (6 * (((gI g0 174 1).toInt + 5) / 6)) = x7009.toInt from by omega]; refine Eq.trans ?_ q7031; omega), by omega, by omega, by omega⟩, (by intro i i0 i1; rw [show (6 * (((gI g0 174 1).toInt + 5) / 6)) = x7009.toInt from by omega]; refine (eA_ti (((gA_sI).trans ((hF7054.2.1 5 (by decide)).trans ((gA_sI).trans (gA_sI)))))).trans ?_; exact q7034 i i0 i1)⟩⟩
    · have c7045_ : x7009.toInt < v4760.toInt := en_i_ge_f c7045
      refine At.enter rfl ?_
      refine r_iload e7023 ?_
      refine r_bipush 6 rfl ?_
      refine q_iadd (x7009.toInt + 6) rfl (by omega) (fun v7069 hv7069 => ?_)
      refine r_iload_n e7020 ?_
      have bv7071 := q_bnd v7069
      refine r_ics 41 rfl (fun c7070 => ?_) (fun c7070 => ?_)
      · have c7070_ : v7069.toInt > v4760.toInt := en_i_gt_t c7070
        refine At.enter rfl ?_
        refine q_iinc e7022 (x7008.toInt + 1) rfl (by omega) (fun v7072 hv7072 => ?_)
        refine Ar.fall 59 rfl ?_
        refine At.enter rfl ?_
        refine q_iinc (w_p1 (by decide) (Or.inr rfl) e7023) (x7009.toInt + 6) rfl (by omega) (fun v7073 hv7073 => ?_)
        refine r_goto ?_
        exact ih7016 (405 - v7073.toInt) _ _ ⟨x7007, v7072, v7073, x7010, by first | rfl | omega, hI7012, hF7013, e7017, e7018, (w_p1 (by decide) (Or.inr rfl) (w_p1 (by decide) (Or.inr rfl) e7019)), (w_p1 (by decide) (Or.inr rfl) (w_p1 (by decide) (Or.inr rfl) e7020)), (w_p1 (by decide) (Or.inr rfl) (w_p1 (by decide) (Or.inr rfl) e7021)), (w_p1 (by decide) (Or.inr rfl) (w_e1 _ _ _)), (w_e1 _ _ _), by omega, by omega, by omega, by omega, by omega, by omega, by omega, (RLI.n (by omega) (by omega) q7031 (fun h => by have h2 : x7009.toInt + 6 ≤ (gI g0 174 1).toInt ∧ x7010.toInt < 8 ∧ (1 ≤ (eA g0 175 x7009.toInt).toInt ∧ (eA g0 175 x7009.toInt).toInt ≤ 9) ∧ (0 ≤ (eA g0 175 (x7009.toInt + 3)).toInt ∧ (eA g0 175 (x7009.toInt + 3)).toInt ≤ 99) ∧ (0 ≤ (eA g0 175 (x7009.toInt + 4)).toInt ∧ (eA g0 175 (x7009.toInt + 4)).toInt ≤ 9) ∧ (0 ≤ (eA g0 175 (x7009.toInt + 5)).toInt ∧ (eA g0 175 (x7009.toInt + 5)).toInt ≤ 9999) ∧ (0 ≤ (eA g0 175 (x7009.toInt + 1)).toInt ∧ (eA g0 175 (x7009.toInt + 1)).toInt < (gI g0 1 0).toInt) ∧ (0 ≤ (eA g0 175 (x7009.toInt + 2)).toInt ∧ (eA g0 175 (x7009.toInt + 2)).toInt < (gI g0 1 0).toInt) := h; omega) (by omega) (by omega)), by omega, by omega, (by intro i i0 i1; refine (eA_ti (rfl)).trans ?_; refine (q7034 i i0 i1).trans ?_; exact RFI.n (by omega) (by omega) q7031 (by omega) rfl (fun k => absurd k.1 (fun h => by have h2 : x7009.toInt + 6 ≤ (gI g0 174 1).toInt ∧ x7010.toInt < 8 ∧ (1 ≤ (eA g0 175 x7009.toInt).toInt ∧ (eA g0 175 x7009.toInt).toInt ≤ 9) ∧ (0 ≤ (eA g0 175 (x7009.toInt + 3)).toInt ∧ (eA g0 175 (x7009.toInt + 3)).toInt ≤ 99) ∧ (0 ≤ (eA g0 175 (x7009.toInt + 4)).toInt ∧ (eA g0 175 (x7009.toInt + 4)).toInt ≤ 9) ∧ (0 ≤ (eA g0 175 (x7009.toInt + 5)).toInt ∧ (eA g0 175 (x7009.toInt + 5)).toInt ≤ 9999) ∧ (0 ≤ (eA g0 175 (x7009.toInt + 1)).toInt ∧ (eA g0 175 (x7009.toInt + 1)).toInt < (gI g0 1 0).toInt) ∧ (0 ≤ (eA g0 175 (x7009.toInt + 2)).toInt ∧ (eA g0 175 (x7009.toInt + 2)).toInt < (gI g0 1 0).toInt) := h; omega)))⟩ ⟨by omega, by omega⟩
      · have c7070_ : v7069.toInt ≤ v4760.toInt := en_i_gt_f c7070
        refine At.enter rfl ?_
        refine r_aload_n e7019 ?_
        refine r_iload e7023 ?_
        refine q_inlV 47 rfl [.ref 0, .int x7009] [] (Nat.le_of_ble_eq_true rfl) rfl ?_
        refine Ev.mk rfl rfl ⟨Nat.le_of_ble_eq_true rfl, Or.inr (q_rc hI7012.1 kx_0 rfl)⟩ ?_
        show At _ none _ _ (0, [(0, .ref 0), (1, .int x7009)], [], (_, _)) _
        refine At.enter rfl ?_
        refine r_aload_n rfl ?_
        refine q_getR (Sh.ref hI7012.1 kx_0 rfl) ?_
        refine r_iload_n rfl ?_
        refine r_iconst 0 rfl ?_
        refine q_iadd (x7009.toInt + 0) rfl (by omega) (fun v7074 hv7074 => ?_)
        refine r_callV 10 rfl [.ref 174, .int v7074] [] (Nat.le_of_ble_eq_true rfl) rfl (T_X8_at_174 _ hI7012 v7074) ?_
        rintro _ _ ⟨g7075, rfl, hI7076, hF7077, v7078, rfl, hr7079⟩
        refine At.sti ?_
        have hF7080 := Fr.tr hF7013 hF7077 rfl rfl
        have x7081 := HI.eqI hI7012 (p := 174) (b := 1) (e7018)
        have y7082 := (eA_ix (g := g0) (p := 175) (show x7009.toInt = v7074.toInt from by omega)).trans (eA_ti (j := v7074.toInt) ((hF7013.2.1 175 (by decide)))).symm
        have y7083 : v7078.toInt = (eA g0 175 x7009.toInt).toInt := (hr7079.2.2 ⟨by omega, by omega⟩).trans y7082.symm
        clear hr7079 y7082
        have x7084 := HI.eqI hI7012 (p := 174) (b := 1) (e7018)
        refine At.enter rfl ?_
        refine r_istore_n ([(2, .int v7078), (0, .ref 0), (1, .int x7009)]) rfl ?_
        refine r_aload_n rfl ?_
        refine q_getR (Sh.ref hI7076.1 kx_0 rfl) ?_
        refine r_iload_n rfl ?_
        refine r_iconst 1 rfl ?_
        refine q_iadd (x7009.toInt + 1) rfl (by omega) (fun v7085 hv7085 => ?_)
        refine r_callV 21 rfl [.ref 174, .int v7085] [] (Nat.le_of_ble_eq_true rfl) rfl (T_X8_at_174 _ hI7076 v7085) ?_
        rintro _ _ ⟨g7086, rfl, hI7087, hF7088, v7089, rfl, hr7090⟩
        refine At.sti ?_
        have hF7091 := Fr.tr hF7080 hF7088 rfl rfl
        have x7092 := HI.eqI hI7076 (p := 174) (b := 1) (((hF7077.1 174 1 (by decide)).trans e7018))
        have y7093 := (eA_ix (g := g0) (p := 175) (show (x7009.toInt + 1) = v7085.toInt from by omega)).trans (eA_ti (j := v7085.toInt) (((hF7077.2.1 175 (by decide)).trans (hF7013.2.1 175 (by decide))))).symm
        have y7094 : v7089.toInt = (eA g0 175 (x7009.toInt + 1)).toInt := (hr7090.2.2 ⟨by omega, by omega⟩).trans y7093.symm
        clear hr7090 y7093
        have x7095 := HI.eqI hI7076 (p := 174) (b := 1) (((hF7077.1 174 1 (by decide)).trans e7018))
        refine At.enter rfl ?_
        refine r_istore_n ([(3, .int v7089), (2, .int v7078), (0, .ref 0), (1, .int x7009)]) rfl ?_
        refine r_aload_n rfl ?_
        refine q_getR (Sh.ref hI7087.1 kx_0 rfl) ?_
        refine r_iload_n rfl ?_
        refine r_iconst 2 rfl ?_
        refine q_iadd (x7009.toInt + 2) rfl (by omega) (fun v7096 hv7096 => ?_)
        refine r_callV 32 rfl [.ref 174, .int v7096] [] (Nat.le_of_ble_eq_true rfl) rfl (T_X8_at_174 _ hI7087 v7096) ?_
        rintro _ _ ⟨g7097, rfl, hI7098, hF7099, v7100, rfl, hr7101⟩
        refine At.sti ?_
        have hF7102 := Fr.tr hF7091 hF7099 rfl rfl
        have x7103 := HI.eqI hI7087 (p := 174) (b := 1) ((((hF7088.1 174 1 (by decide)).trans (hF7077.1 174 1 (by decide))).trans e7018))
        have y7104 := (eA_ix (g := g0) (p := 175) (show (x7009.toInt + 2) = v7096.toInt from by omega)).trans (eA_ti (j := v7096.toInt) (((hF7088.2.1 175 (by decide)).trans ((hF7077.2.1 175 (by decide)).trans (hF7013.2.1 175 (by decide)))))).symm
        have y7105 : v7100.toInt = (eA g0 175 (x7009.toInt + 2)).toInt := (hr7101.2.2 ⟨by omega, by omega⟩).trans y7104.symm
        clear hr7101 y7104
        have x7106 := HI.eqI hI7087 (p := 174) (b := 1) ((((hF7088.1 174 1 (by decide)).trans (hF7077.1 174 1 (by decide))).trans e7018))
        refine At.enter rfl ?_
        refine r_istore ([(4, .int v7100), (3, .int v7089), (2, .int v7078), (0, .ref 0), (1, .int x7009)]) rfl ?_
        refine r_aload_n rfl ?_
        refine q_getR (Sh.ref hI7098.1 kx_0 rfl) ?_
        refine r_iload_n rfl ?_
        refine r_iconst 3 rfl ?_
        refine q_iadd (x7009.toInt + 3) rfl (by omega) (fun v7107 hv7107 => ?_)
        refine r_callV 44 rfl [.ref 174, .int v7107] [] (Nat.le_of_ble_eq_true rfl) rfl (T_X8_at_174 _ hI7098 v7107) ?_
        rintro _ _ ⟨g7108, rfl, hI7109, hF7110, v7111, rfl, hr7112⟩
        refine At.sti ?_
        have hF7113 := Fr.tr hF7102 hF7110 rfl rfl
        have x7114 := HI.eqI hI7098 (p := 174) (b := 1) ((((hF7099.1 174 1 (by decide)).trans ((hF7088.1 174 1 (by decide)).trans (hF7077.1 174 1 (by decide)))).trans e7018))
        have y7115 := (eA_ix (g := g0) (p := 175) (show (x7009.toInt + 3) = v7107.toInt from by omega)).trans (eA_ti (j := v7107.toInt) (((hF7099.2.1 175 (by decide)).trans ((hF7088.2.1 175 (by decide)).trans ((hF7077.2.1 175 (by decide)).trans (hF7013.2.1 175 (by decide))))))).symm
        have y7116 : v7111.toInt = (eA g0 175 (x7009.toInt + 3)).toInt := (hr7112.2.2 ⟨by omega, by omega⟩).trans y7115.symm
        clear hr7112 y7115
        have x7117 := HI.eqI hI7098 (p := 174) (b := 1) ((((hF7099.1 174 1 (by decide)).trans ((hF7088.1 174 1 (by decide)).trans (hF7077.1 174 1 (by decide)))).trans e7018))
        refine At.enter rfl ?_
        refine r_istore ([(5, .int v7111), (4, .int v7100), (3, .int v7089), (2, .int v7078), (0, .ref 0), (1, .int x7009)]) rfl ?_
        refine r_aload_n rfl ?_
        refine q_getR (Sh.ref hI7109.1 kx_0 rfl) ?_
        refine r_iload_n rfl ?_
        refine r_iconst 4 rfl ?_
        refine q_iadd (x7009.toInt + 4) rfl (by omega) (fun v7118 hv7118 => ?_)
        refine r_callV 56 rfl [.ref 174, .int v7118] [] (Nat.le_of_ble_eq_true rfl) rfl (T_X8_at_174 _ hI7109 v7118) ?_
        rintro _ _ ⟨g7119, rfl, hI7120, hF7121, v7122, rfl, hr7123⟩
        refine At.sti ?_
        have hF7124 := Fr.tr hF7113 hF7121 rfl rfl
        have x7125 := HI.eqI hI7109 (p := 174) (b := 1) ((((hF7110.1 174 1 (by decide)).trans ((hF7099.1 174 1 (by decide)).trans ((hF7088.1 174 1 (by decide)).trans (hF7077.1 174 1 (by decide))))).trans e7018))
        have y7126 := (eA_ix (g := g0) (p := 175) (show (x7009.toInt + 4) = v7118.toInt from by omega)).trans (eA_ti (j := v7118.toInt) (((hF7110.2.1 175 (by decide)).trans ((hF7099.2.1 175 (by decide)).trans ((hF7088.2.1 175 (by decide)).trans ((hF7077.2.1 175 (by decide)).trans (hF7013.2.1 175 (by decide)))))))).symm
        have y7127 : v7122.toInt = (eA g0 175 (x7009.toInt + 4)).toInt := (hr7123.2.2 ⟨by omega, by omega⟩).trans y7126.symm
        clear hr7123 y7126
        have x7128 := HI.eqI hI7109 (p := 174) (b := 1) ((((hF7110.1 174 1 (by decide)).trans ((hF7099.1 174 1 (by decide)).trans ((hF7088.1 174 1 (by decide)).trans (hF7077.1 174 1 (by decide))))).trans e7018))
        refine At.enter rfl ?_
        refine r_istore ([(6, .int v7122), (5, .int v7111), (4, .int v7100), (3, .int v7089), (2, .int v7078), (0, .ref 0), (1, .int x7009)]) rfl ?_
        refine r_aload_n rfl ?_
        refine q_getR (Sh.ref hI7120.1 kx_0 rfl) ?_
        refine r_iload_n rfl ?_
        refine r_iconst 5 rfl ?_
        refine q_iadd (x7009.toInt + 5) rfl (by omega) (fun v7129 hv7129 => ?_)
        refine r_callV 68 rfl [.ref 174, .int v7129] [] (Nat.le_of_ble_eq_true rfl) rfl (T_X8_at_174 _ hI7120 v7129) ?_
        rintro _ _ ⟨g7130, rfl, hI7131, hF7132, v7133, rfl, hr7134⟩
        refine At.sti ?_
        have hF7135 := Fr.tr hF7124 hF7132 rfl rfl
        have x7136 := HI.eqI hI7120 (p := 174) (b := 1) ((((hF7121.1 174 1 (by decide)).trans ((hF7110.1 174 1 (by decide)).trans ((hF7099.1 174 1 (by decide)).trans ((hF7088.1 174 1 (by decide)).trans (hF7077.1 174 1 (by decide)))))).trans e7018))
        have y7137 := (eA_ix (g := g0) (p := 175) (show (x7009.toInt + 5) = v7129.toInt from by omega)).trans (eA_ti (j := v7129.toInt) (((hF7121.2.1 175 (by decide)).trans ((hF7110.2.1 175 (by decide)).trans ((hF7099.2.1 175 (by decide)).trans ((hF7088.2.1 175 (by decide)).trans ((hF7077.2.1 175 (by decide)).trans (hF7013.2.1 175 (by decide))))))))).symm
        have y7138 : v7133.toInt = (eA g0 175 (x7009.toInt + 5)).toInt := (hr7134.2.2 ⟨by omega, by omega⟩).trans y7137.symm
        clear hr7134 y7137
        have x7139 := HI.eqI hI7120 (p := 174) (b := 1) ((((hF7121.1 174 1 (by decide)).trans ((hF7110.1 174 1 (by decide)).trans ((hF7099.1 174 1 (by decide)).trans ((hF7088.1 174 1 (by decide)).trans (hF7077.1 174 1 (by decide)))))).trans e7018))
        refine At.enter rfl ?_
        refine r_istore ([(7, .int v7133), (6, .int v7122), (5, .int v7111), (4, .int v7100), (3, .int v7089), (2, .int v7078), (0, .ref 0), (1, .int x7009)]) rfl ?_
        refine r_aload_n rfl ?_
        refine r_iload_n rfl ?_
        refine r_iload_n rfl ?_
        refine r_iload rfl ?_
        refine r_iload rfl ?_
        refine r_iload rfl ?_
        refine r_iload rfl ?_
        refine r_callV 84 rfl [.ref 0, .int v7078, .int v7089, .int v7100, .int v7111, .int v7122, .int v7133] [] (Nat.le_of_ble_eq_true rfl) rfl (T_X10_whyNoLoad_0 _ hI7131 v7078 v7089 v7100 v7111 v7122 v7133) ?_
        rintro _ _ ⟨g7140, rfl, hI7141, hF7142, v7143, rfl, hr7144⟩
        refine At.sti ?_
        have hF7145 := Fr.tr hF7135 hF7142 rfl rfl
        have x7146 := HI.eqI hI7131 (p := 1) (b := 0) ((((hF7132.1 1 0 (by decide)).trans ((hF7121.1 1 0 (by decide)).trans ((hF7110.1 1 0 (by decide)).trans ((hF7099.1 1 0 (by decide)).trans ((hF7088.1 1 0 (by decide)).trans ((hF7077.1 1 0 (by decide)).trans (hF7013.1 1 0 (by decide)))))))).trans hv7039))
        have x7147 := HI.eqI hI7131 (p := 1) (b := 4) ((((hF7132.1 1 4 (by decide)).trans ((hF7121.1 1 4 (by decide)).trans ((hF7110.1 1 4 (by decide)).trans ((hF7099.1 1 4 (by decide)).trans ((hF7088.1 1 4 (by decide)).trans (hF7077.1 1 4 (by decide))))))).trans e7017))
        refine At.enter rfl ?_
        refine r_ifs 87 rfl (fun c7148 => ?_) (fun c7148 => ?_)
        · have c7148_ : v7143.toInt = 0 := en_k_eq_t c7148
          refine At.enter rfl ?_
          refine r_aload_n rfl ?_
          refine q_getR (Sh.ref hI7141.1 kx_0 rfl) ?_
          refine r_iload_n rfl ?_
          refine r_iload_n rfl ?_
          refine r_iload rfl ?_
          refine r_iload rfl ?_
          refine r_iload rfl ?_
          refine r_iload rfl ?_
          refine r_callV 106 rfl [.ref 1, .int v7078, .int v7089, .int v7100, .int v7111, .int v7122, .int v7133] [] (Nat.le_of_ble_eq_true rfl) rfl (T_X0_addLoad_1 _ hI7141 v7078 v7089 v7100 v7111 v7122 v7133) ?_
          rintro _ _ ⟨g7149, rfl, hI7150, hF7151, v7152, rfl, hr7153⟩
          refine At.sti ?_
          have hF7154 := Fr.tr hF7145 hF7151 rfl rfl
          have x7155 := HI.eqI hI7141 (p := 1) (b := 4) ((((hF7142.1 1 4 (by decide)).trans ((hF7132.1 1 4 (by decide)).trans ((hF7121.1 1 4 (by decide)).trans ((hF7110.1 1 4 (by decide)).trans ((hF7099.1 1 4 (by decide)).trans ((hF7088.1 1 4 (by decide)).trans (hF7077.1 1 4 (by decide)))))))).trans e7017))
          obtain ⟨v7156, hv7156⟩ : ∃ v, gI g7149 1 4 = v := ⟨_, rfl⟩
          have rv7156 := RgF.at hI7150.2.1 (p := 1) (b := 4) rfl
          rw [hv7156] at rv7156
          dsimp only at rv7156
          have tv7156 := congrArg Int32.toInt hv7156
          have x7157 := HI.eqI hI7150 (p := 1) (b := 4) (hv7156)
          refine At.enter rfl ?_
          refine r_pop rfl ?_
          refine r_iconst 1 rfl ?_
          refine q_iretz (by decide) ?_
          refine At.enter rfl ?_
          refine r_iff 50 rfl (by decide) ?_
          refine At.enter rfl ?_
          refine q_iinc e7021 (x7007.toInt + 1) rfl (by omega) (fun v7158 hv7158 => ?_)
          refine r_goto ?_
          refine At.enter rfl ?_
          refine q_iinc (w_p1 (by decide) (Or.inr rfl) e7023) (x7009.toInt + 6) rfl (by omega) (fun v7159 hv7159 => ?_)
          refine r_goto ?_
          have c7160 := WNL.y hr7144.2 (by omega)
          exact ih7016 (405 - v7159.toInt) _ _ ⟨v7158, x7008, v7159, v7156, by first | rfl | omega, hI7150, hF7154, hv7156, (((hF7151.1 174 1 (by decide)).trans ((hF7142.1 174 1 (by decide)).trans ((hF7132.1 174 1 (by decide)).trans ((hF7121.1 174 1 (by decide)).trans ((hF7110.1 174 1 (by decide)).trans ((hF7099.1 174 1 (by decide)).trans ((hF7088.1 174 1 (by decide)).trans (hF7077.1 174 1 (by decide))))))))).trans e7018), (w_p1 (by decide) (Or.inr rfl) (w_p1 (by decide) (Or.inr rfl) e7019)), (w_p1 (by decide) (Or.inr rfl) (w_p1 (by decide) (Or.inr rfl) e7020)), (w_p1 (by decide) (Or.inr rfl) (w_e1 _ _ _)), (w_p1 (by decide) (Or.inr rfl) (w_p1 (by decide) (Or.inr rfl) e7022)), (w_e1 _ _ _), by omega, by omega, by omega, by omega, by omega, by omega, by omega, (RLI.y (by omega) (by omega) q7031 (show x7009.toInt + 6 ≤ (gI g0 174 1).toInt ∧ x7010.toInt < 8 ∧ (1 ≤ (eA g0 175 x7009.toInt).toInt ∧ (eA g0 175 x7009.toInt).toInt ≤ 9) ∧ (0 ≤ (eA g0 175 (x7009.toInt + 3)).toInt ∧ (eA g0 175 (x7009.toInt + 3)).toInt ≤ 99) ∧ (0 ≤ (eA g0 175 (x7009.toInt + 4)).toInt ∧ (eA g0 175 (x7009.toInt + 4)).toInt ≤ 9) ∧ (0 ≤ (eA g0 175 (x7009.toInt + 5)).toInt ∧ (eA g0 175 (x7009.toInt + 5)).toInt ≤ 9999) ∧ (0 ≤ (eA g0 175 (x7009.toInt + 1)).toInt ∧ (eA g0 175 (x7009.toInt + 1)).toInt < (gI g0 1 0).toInt) ∧ (0 ≤ (eA g0 175 (x7009.toInt + 2)).toInt ∧ (eA g0 175 (x7009.toInt + 2)).toInt < (gI g0 1 0).toInt) from by have c := WNL.y hr7144.2 (by omega); omega) (by omega) (by omega)), by omega, by omega, (by intro i i0 i1; refine (hr7153.2.2.2 i i0 i1).trans ?_; exact (Decidable.em ((gI g7140 1 4).toInt < 8 ∧ i = 6 * (gI g7140 1 4).toInt + 0)).elim (fun k84_ => by refine (if_pos k84_).trans ?_; refine Eq.trans ?_ (RFI.y (l := x7010.toInt) (by omega) (by omega) q7031 (show x7009.toInt + 6 ≤ (gI g0 174 1).toInt ∧ x7010.toInt < 8 ∧ (1 ≤ (eA g0 175 x7009.toInt).toInt ∧ (eA g0 175 x7009.toInt).toInt ≤ 9) ∧ (0 ≤ (eA g0 175 (x7009.toInt + 3)).toInt ∧ (eA g0 175 (x7009.toInt + 3)).toInt ≤ 99) ∧ (0 ≤ (eA g0 175 (x7009.toInt + 4)).toInt ∧ (eA g0 175 (x7009.toInt + 4)).toInt ≤ 9) ∧ (0 ≤ (eA g0 175 (x7009.toInt + 5)).toInt ∧ (eA g0 175 (x7009.toInt + 5)).toInt ≤ 9999) ∧ (0 ≤ (eA g0 175 (x7009.toInt + 1)).toInt ∧ (eA g0 175 (x7009.toInt + 1)).toInt < (gI g0 1 0).toInt) ∧ (0 ≤ (eA g0 175 (x7009.toInt + 2)).toInt ∧ (eA g0 175 (x7009.toInt + 2)).toInt < (gI g0 1 0).toInt) from by have c := WNL.y hr7144.2 (by omega); omega) (by omega) (by omega)); refine Eq.trans ?_ (eA_ix (g := g0) (p := 175) (show x7009.toInt = x7009.toInt + (i - 6 * x7010.toInt) from by omega)); omega) (fun k84_ => by refine (if_neg k84_).trans ?_; exact (Decidable.em ((gI g7140 1 4).toInt < 8 ∧ i = 6 * (gI g7140 1 4).toInt + 1)).elim (fun k85_ => by refine (if_pos k85_).trans ?_; refine Eq.trans ?_ (RFI.y (l := x7010.toInt) (by omega) (by omega) q7031 (show x7009.toInt + 6 ≤ (gI g0 174 1).toInt ∧ x7010.toInt < 8 ∧ (1 ≤ (eA g0 175 x7009.toInt).toInt ∧ (eA g0 175 x7009.toInt).toInt ≤ 9) ∧ (0 ≤ (eA g0 175 (x7009.toInt + 3)).toInt ∧ (eA g0 175 (x7009.toInt + 3)).toInt ≤ 99) ∧ (0 ≤ (eA g0 175 (x7009.toInt + 4)).toInt ∧ (eA g0 175 (x7009.toInt + 4)).toInt ≤ 9) ∧ (0 ≤ (eA g0 175 (x7009.toInt + 5)).toInt ∧ (eA g0 175 (x7009.toInt + 5)).toInt ≤ 9999) ∧ (0 ≤ (eA g0 175 (x7009.toInt + 1)).toInt ∧ (eA g0 175 (x7009.toInt + 1)).toInt < (gI g0 1 0).toInt) ∧ (0 ≤ (eA g0 175 (x7009.toInt + 2)).toInt ∧ (eA g0 175 (x7009.toInt + 2)).toInt < (gI g0 1 0).toInt) from by have c := WNL.y hr7144.2 (by omega); omega) (by omega) (by omega)); refine Eq.trans ?_ (eA_ix (g := g0) (p := 175) (show x7009.toInt + 1 = x7009.toInt + (i - 6 * x7010.toInt) from by omega)); omega) (fun k85_ => by refine (if_neg k85_).trans ?_; exact (Decidable.em ((gI g7140 1 4).toInt < 8 ∧ i = 6 * (gI g7140 1 4).toInt + 2)).elim (fun k86_ => by refine (if_pos k86_).trans ?_; refine Eq.trans ?_ (RFI.y (l := x7010.toInt) (by omega) (by omega) q7031 (show x7009.toInt + 6 ≤ (gI g0 174 1).toInt ∧ x7010.toInt < 8 ∧ (1 ≤ (eA g0 175 x7009.toInt).toInt ∧ (eA g0 175 x7009.toInt).toInt ≤ 9) ∧ (0 ≤ (eA g0 175 (x7009.toInt + 3)).toInt ∧ (eA g0 175 (x7009.toInt + 3)).toInt ≤ 99) ∧ (0 ≤ (eA g0 175 (x7009.toInt + 4)).toInt ∧ (eA g0 175 (x7009.toInt + 4)).toInt ≤ 9) ∧ (0 ≤ (eA g0 175 (x7009.toInt + 5)).toInt ∧ (eA g0 175 (x7009.toInt + 5)).toInt ≤ 9999) ∧ (0 ≤ (eA g0 175 (x7009.toInt + 1)).toInt ∧ (eA g0 175 (x7009.toInt + 1)).toInt < (gI g0 1 0).toInt) ∧ (0 ≤ (eA g0 175 (x7009.toInt + 2)).toInt ∧ (eA g0 175 (x7009.toInt + 2)).toInt < (gI g0 1 0).toInt) from by have c := WNL.y hr7144.2 (by omega); omega) (by omega) (by omega)); refine Eq.trans ?_ (eA_ix (g := g0) (p := 175) (show x7009.toInt + 2 = x7009.toInt + (i - 6 * x7010.toInt) from by omega)); omega) (fun k86_ => by refine (if_neg k86_).trans ?_; exact (Decidable.em ((gI g7140 1 4).toInt < 8 ∧ i = 6 * (gI g7140 1 4).toInt + 3)).elim (fun k87_ => by refine (if_pos k87_).trans ?_; refine Eq.trans ?_ (RFI.y (l := x7010.toInt) (by omega) (by omega) q7031 (show x7009.toInt + 6 ≤ (gI g0 174 1).toInt ∧ x7010.toInt < 8 ∧ (1 ≤ (eA g0 175 x7009.toInt).toInt ∧ (eA g0 175 x7009.toInt).toInt ≤ 9) ∧ (0 ≤ (eA g0 175 (x7009.toInt + 3)).toInt ∧ (eA g0 175 (x7009.toInt + 3)).toInt ≤ 99) ∧ (0 ≤ (eA g0 175 (x7009.toInt + 4)).toInt ∧ (eA g0 175 (x7009.toInt + 4)).toInt ≤ 9) ∧ (0 ≤ (eA g0 175 (x7009.toInt + 5)).toInt ∧ (eA g0 175 (x7009.toInt + 5)).toInt ≤ 9999) ∧ (0 ≤ (eA g0 175 (x7009.toInt + 1)).toInt ∧ (eA g0 175 (x7009.toInt + 1)).toInt < (gI g0 1 0).toInt) ∧ (0 ≤ (eA g0 175 (x7009.toInt + 2)).toInt ∧ (eA g0 175 (x7009.toInt + 2)).toInt < (gI g0 1 0).toInt) from by have c := WNL.y hr7144.2 (by omega); omega) (by omega) (by omega)); refine Eq.trans ?_ (eA_ix (g := g0) (p := 175) (show x7009.toInt + 3 = x7009.toInt + (i - 6 * x7010.toInt) from by omega)); omega) (fun k87_ => by refine (if_neg k87_).trans ?_; exact (Decidable.em ((gI g7140 1 4).toInt < 8 ∧ i = 6 * (gI g7140 1 4).toInt + 4)).elim (fun k88_ => by refine (if_pos k88_).trans ?_; refine Eq.trans ?_ (RFI.y (l := x7010.toInt) (by omega) (by omega) q7031 (show x7009.toInt + 6 ≤ (gI g0 174 1).toInt ∧ x7010.toInt < 8 ∧ (1 ≤ (eA g0 175 x7009.toInt).toInt ∧ (eA g0 175 x7009.toInt).toInt ≤ 9) ∧ (0 ≤ (eA g0 175 (x7009.toInt + 3)).toInt ∧ (eA g0 175 (x7009.toInt + 3)).toInt ≤ 99) ∧ (0 ≤ (eA g0 175 (x7009.toInt + 4)).toInt ∧ (eA g0 175 (x7009.toInt + 4)).toInt ≤ 9) ∧ (0 ≤ (eA g0 175 (x7009.toInt + 5)).toInt ∧ (eA g0 175 (x7009.toInt + 5)).toInt ≤ 9999) ∧ (0 ≤ (eA g0 175 (x7009.toInt + 1)).toInt ∧ (eA g0 175 (x7009.toInt + 1)).toInt < (gI g0 1 0).toInt) ∧ (0 ≤ (eA g0 175 (x7009.toInt + 2)).toInt ∧ (eA g0 175 (x7009.toInt + 2)).toInt < (gI g0 1 0).toInt) from by have c := WNL.y hr7144.2 (by omega); omega) (by omega) (by omega)); refine Eq.trans ?_ (eA_ix (g := g0) (p := 175) (show x7009.toInt + 4 = x7009.toInt + (i - 6 * x7010.toInt) from by omega)); omega) (fun k88_ => by refine (if_neg k88_).trans ?_; exact (Decidable.em ((gI g7140 1 4).toInt < 8 ∧ i = 6 * (gI g7140 1 4).toInt + 5)).elim (fun k89_ => by refine (if_pos k89_).trans ?_; refine Eq.trans ?_ (RFI.y (l := x7010.toInt) (by omega) (by omega) q7031 (show x7009.toInt + 6 ≤ (gI g0 174 1).toInt ∧ x7010.toInt < 8 ∧ (1 ≤ (eA g0 175 x7009.toInt).toInt ∧ (eA g0 175 x7009.toInt).toInt ≤ 9) ∧ (0 ≤ (eA g0 175 (x7009.toInt + 3)).toInt ∧ (eA g0 175 (x7009.toInt + 3)).toInt ≤ 99) ∧ (0 ≤ (eA g0 175 (x7009.toInt + 4)).toInt ∧ (eA g0 175 (x7009.toInt + 4)).toInt ≤ 9) ∧ (0 ≤ (eA g0 175 (x7009.toInt + 5)).toInt ∧ (eA g0 175 (x7009.toInt + 5)).toInt ≤ 9999) ∧ (0 ≤ (eA g0 175 (x7009.toInt + 1)).toInt ∧ (eA g0 175 (x7009.toInt + 1)).toInt < (gI g0 1 0).toInt) ∧ (0 ≤ (eA g0 175 (x7009.toInt + 2)).toInt ∧ (eA g0 175 (x7009.toInt + 2)).toInt < (gI g0 1 0).toInt) from by have c := WNL.y hr7144.2 (by omega); omega) (by omega) (by omega)); refine Eq.trans ?_ (eA_ix (g := g0) (p := 175) (show x7009.toInt + 5 = x7009.toInt + (i - 6 * x7010.toInt) from by omega)); omega) (fun k89_ => by refine (if_neg k89_).trans ?_; refine (eA_ti (((hF7142.2.1 5 (by decide)).trans ((hF7132.2.1 5 (by decide)).trans ((hF7121.2.1 5 (by decide)).trans ((hF7110.2.1 5 (by decide)).trans ((hF7099.2.1 5 (by decide)).trans ((hF7088.2.1 5 (by decide)).trans (hF7077.2.1 5 (by decide)))))))))).trans ?_; refine (q7034 i i0 i1).trans ?_; exact RFI.n (by omega) (by omega) q7031 (by omega) rfl (fun k => absurd k.2 (by omega)))))))))⟩ ⟨by omega, by omega⟩
        · have c7148_ : v7143.toInt ≠ 0 := en_k_eq_f c7148
          refine At.enter rfl ?_
          refine r_iconst 0 rfl ?_
          refine q_iretz (by decide) ?_
          refine At.enter rfl ?_
          refine r_ift (by decide) ?_
          refine At.enter rfl ?_
          refine q_iinc e7022 (x7008.toInt + 1) rfl (by omega) (fun v7161 hv7161 => ?_)
          refine Ar.fall 59 rfl ?_
          refine At.enter rfl ?_
          refine q_iinc (w_p1 (by decide) (Or.inr rfl) e7023) (x7009.toInt + 6) rfl (by omega) (fun v7162 hv7162 => ?_)
          refine r_goto ?_
          exact ih7016 (405 - v7162.toInt) _ _ ⟨x7007, v7161, v7162, x7010, by first | rfl | omega, hI7141, hF7145, (((hF7142.1 1 4 (by decide)).trans ((hF7132.1 1 4 (by decide)).trans ((hF7121.1 1 4 (by decide)).trans ((hF7110.1 1 4 (by decide)).trans ((hF7099.1 1 4 (by decide)).trans ((hF7088.1 1 4 (by decide)).trans (hF7077.1 1 4 (by decide)))))))).trans e7017), (((hF7142.1 174 1 (by decide)).trans ((hF7132.1 174 1 (by decide)).trans ((hF7121.1 174 1 (by decide)).trans ((hF7110.1 174 1 (by decide)).trans ((hF7099.1 174 1 (by decide)).trans ((hF7088.1 174 1 (by decide)).trans (hF7077.1 174 1 (by decide)))))))).trans e7018), (w_p1 (by decide) (Or.inr rfl) (w_p1 (by decide) (Or.inr rfl) e7019)), (w_p1 (by decide) (Or.inr rfl) (w_p1 (by decide) (Or.inr rfl) e7020)), (w_p1 (by decide) (Or.inr rfl) (w_p1 (by decide) (Or.inr rfl) e7021)), (w_p1 (by decide) (Or.inr rfl) (w_e1 _ _ _)), (w_e1 _ _ _), by omega, by omega, by omega, by omega, by omega, by omega, by omega, (RLI.n (by omega) (by omega) q7031 (fun h => by have h2 : x7009.toInt + 6 ≤ (gI g0 174 1).toInt ∧ x7010.toInt < 8 ∧ (1 ≤ (eA g0 175 x7009.toInt).toInt ∧ (eA g0 175 x7009.toInt).toInt ≤ 9) ∧ (0 ≤ (eA g0 175 (x7009.toInt + 3)).toInt ∧ (eA g0 175 (x7009.toInt + 3)).toInt ≤ 99) ∧ (0 ≤ (eA g0 175 (x7009.toInt + 4)).toInt ∧ (eA g0 175 (x7009.toInt + 4)).toInt ≤ 9) ∧ (0 ≤ (eA g0 175 (x7009.toInt + 5)).toInt ∧ (eA g0 175 (x7009.toInt + 5)).toInt ≤ 9999) ∧ (0 ≤ (eA g0 175 (x7009.toInt + 1)).toInt ∧ (eA g0 175 (x7009.toInt + 1)).toInt < (gI g0 1 0).toInt) ∧ (0 ≤ (eA g0 175 (x7009.toInt + 2)).toInt ∧ (eA g0 175 (x7009.toInt + 2)).toInt < (gI g0 1 0).toInt) := h; have c := WNL.n hr7144.2 (by omega); omega) (by omega) (by omega)), by omega, by omega, (by intro i i0 i1; refine (eA_ti (((hF7142.2.1 5 (by decide)).trans ((hF7132.2.1 5 (by decide)).trans ((hF7121.2.1 5 (by decide)).trans ((hF7110.2.1 5 (by decide)).trans ((hF7099.2.1 5 (by decide)).trans ((hF7088.2.1 5 (by decide)).trans (hF7077.2.1 5 (by decide)))))))))).trans ?_; refine (q7034 i i0 i1).trans ?_; exact RFI.n (by omega) (by omega) q7031 (by omega) rfl (fun k => absurd k.1 (fun h => by have h2 : x7009.toInt + 6 ≤ (gI g0 174 1).toInt ∧ x7010.toInt < 8 ∧ (1 ≤ (eA g0 175 x7009.toInt).toInt ∧ (eA g0 175 x7009.toInt).toInt ≤ 9) ∧ (0 ≤ (eA g0 175 (x7009.toInt + 3)).toInt ∧ (eA g0 175 (x7009.toInt + 3)).toInt ≤ 99) ∧ (0 ≤ (eA g0 175 (x7009.toInt + 4)).toInt ∧ (eA g0 175 (x7009.toInt + 4)).toInt ≤ 9) ∧ (0 ≤ (eA g0 175 (x7009.toInt + 5)).toInt ∧ (eA g0 175 (x7009.toInt + 5)).toInt ≤ 9999) ∧ (0 ≤ (eA g0 175 (x7009.toInt + 1)).toInt ∧ (eA g0 175 (x7009.toInt + 1)).toInt < (gI g0 1 0).toInt) ∧ (0 ≤ (eA g0 175 (x7009.toInt + 2)).toInt ∧ (eA g0 175 (x7009.toInt + 2)).toInt < (gI g0 1 0).toInt) := h; have c := WNL.n hr7144.2 (by omega); omega)))⟩ ⟨by omega, by omega⟩
  · have c4761_ : v4760.toInt = 0 := en_k_ne_f c4761
    refine At.enter rfl ?_
    refine r_aload_n rfl ?_
    refine r_bipush (-6) rfl ?_
    refine r_callV 18 rfl [.ref 0, .int (-6)] [] (Nat.le_of_ble_eq_true rfl) rfl (T_X10_refused_0 _ hI0 (-6) (by decide)) ?_
    rintro _ _ ⟨g7163, rfl, hI7164, hF7165, v7166, rfl, hr7167⟩
    refine At.sti ?_
    have hF7168 := Fr.tr hF0 hF7165 rfl rfl
    have zv7169 : ((-6) : Int32).toInt = (-6) := rfl
    refine At.enter rfl ?_
    refine r_ireti ?_
    obtain ⟨v7170, hv7170⟩ : ∃ v, gI g0 1 4 = v := ⟨_, rfl⟩
    have rv7170 := RgF.at hI0.2.1 (p := 1) (b := 4) rfl
    rw [hv7170] at rv7170
    dsimp only at rv7170
    have tv7170 := congrArg Int32.toInt hv7170
    have x7171 := HI.eqI hI7164 (p := 1) (b := 4) (((hF7165.1 1 4 (by decide)).trans hv7170))
    have x7172 := HI.eqI hI0 (p := 1) (b := 4) (hv7170)
    have x7173 := HI.eqI hI7164 (p := 174) (b := 1) (((hF7165.1 174 1 (by decide)).trans hv4760))
    have x7174 := HI.eqI hI0 (p := 174) (b := 1) (hv4760)
    obtain ⟨v7175, hv7175⟩ : ∃ v, gI g0 0 16 = v := ⟨_, rfl⟩
    have tv7175 := congrArg Int32.toInt hv7175
    have x7176 := HI.eqI hI7164 (p := 0) (b := 16) (((hF7165.1 0 16 (by decide)).trans hv7175))
    have x7177 := HI.eqI hI0 (p := 0) (b := 16) (hv7175)
    obtain ⟨v7178, hv7178⟩ : ∃ v, gI g0 1 0 = v := ⟨_, rfl⟩
    have rv7178 := RgF.at hI0.2.1 (p := 1) (b := 0) rfl
    rw [hv7178] at rv7178
    dsimp only at rv7178
    have tv7178 := congrArg Int32.toInt hv7178
    have x7179 := HI.eqI hI0 (p := 1) (b := 0) (hv7178)
    exact ⟨_, rfl, hI7164, hF7168, _, rfl, by omega, ⟨⟨(by refine Eq.trans ?_ (RLI.z _ _ _ _ (by omega)); omega), by omega, by omega, by omega⟩, (by intro i i0 i1; refine (eA_ti ((hF7165.2.1 5 (by decide)))).trans ?_; exact RFI.z _ _ _ _ (fun i : Int => (eA g0 5 i).toInt) (by omega) _)⟩⟩
