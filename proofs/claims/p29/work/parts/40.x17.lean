def F_X1_roundOf_188 : List (Nat × Nat) := []
def A_X1_roundOf_188 : List Nat := []
set_option maxRecDepth 100000 in
set_option maxHeartbeats 4000000 in
theorem T_X1_roundOf_188 (d : Nat) {N : Nat} {g0 : List en_E} (hI0 : HI g0) (a1 : Int32) (a2 : Int32) : Ev (d + 2) 36 [.ref 188, .int a1, .int a2] (g0, N) (fun w h' => ∃ g', h' = (g', N) ∧ HI g' ∧ Fr F_X1_roundOf_188 A_X1_roundOf_188 g0 g' ∧ ∃ r : Int32, w = some (.int r) ∧ True) := by
  have hF0 : Fr F_X1_roundOf_188 A_X1_roundOf_188 g0 g0 := Fr.rf
  refine Ev.mk rfl rfl ⟨Nat.le_of_ble_eq_true rfl, Or.inr (q_rc hI0.1 kx_188 rfl)⟩ ?_
  show At _ none _ _ (0, [(0, .ref 188), (1, .int a1), (2, .int a2)], [], (_, _)) _
  refine At.enter rfl ?_
  refine r_iconst 0 rfl ?_
  refine r_istore_n ([(3, .int 0), (0, .ref 188), (1, .int a1), (2, .int a2)]) rfl ?_
  refine r_iload_n rfl ?_
  refine r_istore ([(4, .int a1), (3, .int 0), (0, .ref 188), (1, .int a1), (2, .int a2)]) rfl ?_
  refine r_iconst 0 rfl ?_
  refine r_istore ([(5, .int 0), (4, .int a1), (3, .int 0), (0, .ref 188), (1, .int a1), (2, .int a2)]) rfl ?_
  refine Ar.fall 8 rfl ?_
  have z_569 : (0 : Int32).toInt = 0 := rfl
  have z_570 : (0 : Int32).toInt = 0 := rfl
  refine w_loopI (fun n_ l_ g_ => ∃ x553 : Int32, ∃ x554 : Int32, ∃ x555 : Int32, n_ = 12 - x555.toInt ∧ HI g_ ∧ Fr F_X1_roundOf_188 A_X1_roundOf_188 g0 g_ ∧ en_get 0 l_ = some (.ref 188) ∧ en_get 1 l_ = some (.int a1) ∧ en_get 2 l_ = some (.int a2) ∧ en_get 3 l_ = some (.int x553) ∧ en_get 4 l_ = some (.int x554) ∧ en_get 5 l_ = some (.int x555) ∧ (0 ≤ x555.toInt ∧ x555.toInt ≤ 12)) ?_ (12 - 0) ⟨0, a1, 0, by first | rfl | omega, hI0, hF0, rfl, rfl, rfl, rfl, rfl, rfl, by decide⟩
  rintro n560 l559 g556 ⟨x553, x554, x555, hm571, hI557, hF558, e562, e563, e564, e565, e566, e567, r568⟩ ih561
  refine At.enter rfl ?_
  refine r_iload e567 ?_
  refine r_bipush 12 rfl ?_
  refine r_ics 15 rfl (fun c572 => ?_) (fun c572 => ?_)
  · have c572_ : x555.toInt ≥ 12 := en_i_ge_t c572
    refine At.enter rfl ?_
    refine r_iconst 0 rfl ?_
    refine r_ireti ?_
    exact ⟨_, rfl, hI557, hF558, _, rfl, trivial⟩
  · have c572_ : x555.toInt < 12 := en_i_ge_f c572
    refine At.enter rfl ?_
    refine r_aload_n e562 ?_
    refine q_getR (Sh.ref hI557.1 kx_188 rfl) ?_
    refine r_iload e566 ?_
    refine q_inlV 24 rfl [.ref 1, .int x554] [] (Nat.le_of_ble_eq_true rfl) rfl ?_
    refine Ev.mk rfl rfl ⟨Nat.le_of_ble_eq_true rfl, Or.inr (q_rc hI557.1 kx_1 rfl)⟩ ?_
    show At _ none _ _ (0, [(0, .ref 1), (1, .int x554)], [], (_, _)) _
    refine At.enter rfl ?_
    refine r_iload_n rfl ?_
    refine r_ifs 4 rfl (fun c573 => ?_) (fun c573 => ?_)
    · have c573_ : x554.toInt < 0 := en_k_lt_t c573
      refine At.enter rfl ?_
      refine r_iconst 0 rfl ?_
      refine Ar.fall 17 rfl ?_
      refine At.enter rfl ?_
      refine q_iretz (by decide) ?_
      refine At.enter rfl ?_
      refine r_ift (by decide) ?_
      refine At.enter rfl ?_
      refine r_iconst 0 rfl ?_
      refine r_ireti ?_
      exact ⟨_, rfl, hI557, hF558, _, rfl, trivial⟩
    · have c573_ : x554.toInt ≥ 0 := en_k_lt_f c573
      refine At.enter rfl ?_
      refine r_iload_n rfl ?_
      refine r_aload_n rfl ?_
      obtain ⟨v574, hv574⟩ : ∃ v, gI g0 1 0 = v := ⟨_, rfl⟩
      have rv574 := RgF.at hI0.2.1 (p := 1) (b := 0) rfl
      rw [hv574] at rv574
      dsimp only at rv574
      refine q_getI (Sh.int hI557.1 kx_1 rfl) v574 ((hF558.1 1 0 (by decide)).trans hv574) ?_
      have bv576 := q_bnd x554
      have bv577 := q_bnd v574
      refine r_ics 12 rfl (fun c575 => ?_) (fun c575 => ?_)
      · have c575_ : x554.toInt ≥ v574.toInt := en_i_ge_t c575
        refine At.enter rfl ?_
        refine r_iconst 0 rfl ?_
        refine Ar.fall 17 rfl ?_
        refine At.enter rfl ?_
        refine q_iretz (by decide) ?_
        refine At.enter rfl ?_
        refine r_ift (by decide) ?_
        refine At.enter rfl ?_
        refine r_iconst 0 rfl ?_
        refine r_ireti ?_
        exact ⟨_, rfl, hI557, hF558, _, rfl, trivial⟩
      · have c575_ : x554.toInt < v574.toInt := en_i_ge_f c575
        refine At.enter rfl ?_
        refine r_iconst 1 rfl ?_
        refine r_goto ?_
        refine At.enter rfl ?_
        refine q_iretz (by decide) ?_
        refine At.enter rfl ?_
        refine r_iff 27 rfl (by decide) ?_
        refine At.enter rfl ?_
        refine r_iload_n e564 ?_
        refine r_iload e566 ?_
        refine q_inlS 33 rfl [.int a2, .int x554] [] (Nat.le_of_ble_eq_true rfl) rfl ?_
        refine Ev.mk rfl rfl ⟨Nat.le_of_ble_eq_true rfl, Or.inl rfl⟩ ?_
        show At _ none _ _ (0, [(0, .int a2), (1, .int x554)], [], (_, _)) _
        refine At.enter rfl ?_
        refine r_iload_n rfl ?_
        refine r_iload_n rfl ?_
        refine q_ishrO (fun v578 hv578 => ?_)
        refine r_iconst 1 rfl ?_
        refine q_iandO (fun v579 hv579 => ?_)
        refine r_ifs 8 rfl (fun c580 => ?_) (fun c580 => ?_)
        · have c580_ : v579.toInt = 0 := en_k_eq_t c580
          refine At.enter rfl ?_
          refine r_iconst 0 rfl ?_
          refine Ar.fall 13 rfl ?_
          refine At.enter rfl ?_
          refine q_iretz (by decide) ?_
          refine At.enter rfl ?_
          refine r_ift (by decide) ?_
          refine At.enter rfl ?_
          refine r_iconst 0 rfl ?_
          refine r_ireti ?_
          exact ⟨_, rfl, hI557, hF558, _, rfl, trivial⟩
        · have c580_ : v579.toInt ≠ 0 := en_k_eq_f c580
          refine At.enter rfl ?_
          refine r_iconst 1 rfl ?_
          refine r_goto ?_
          refine At.enter rfl ?_
          refine q_iretz (by decide) ?_
          refine At.enter rfl ?_
          refine r_iff 36 rfl (by decide) ?_
          refine At.enter rfl ?_
          refine r_iload_n e565 ?_
          refine r_iconst 1 rfl ?_
          refine r_iload e566 ?_
          refine q_ishlO (fun v581 hv581 => ?_)
          refine q_iorO (fun v582 hv582 => ?_)
          refine r_istore_n _ rfl ?_
          refine r_aload_n (w_p1 (by decide) (Or.inr rfl) e562) ?_
          refine q_getR (Sh.ref hI557.1 kx_188 rfl) ?_
          refine r_iload (w_p1 (by decide) (Or.inr rfl) e566) ?_
          obtain ⟨v583, hv583⟩ : ∃ v, eA g0 192 x554.toInt = v := ⟨_, rfl⟩
          refine q_iald (Sh.arr hI557.1 ka_192) x554.toInt rfl (by omega) v583 ((eA_c (hF558.2.1 192 (by decide))).trans hv583) ?_
          refine r_istore _ rfl ?_
          refine r_iload (w_e1 _ _ _) ?_
          refine r_iload_n (w_p1 (by decide) (Or.inr rfl) (w_p1 (by decide) (Or.inr rfl) e563)) ?_
          refine r_ics 58 rfl (fun c584 => ?_) (fun c584 => ?_)
          · have c584_ : v583.toInt ≠ a1.toInt := en_i_ne_t c584
            refine At.enter rfl ?_
            refine q_iinc (w_p1 (by decide) (Or.inr rfl) (w_p1 (by decide) (Or.inr rfl) e567)) (x555.toInt + 1) rfl (by omega) (fun v585 hv585 => ?_)
            refine r_goto ?_
            have bv586 := q_bnd v582
            have bv587 := q_bnd v583
            exact ih561 (12 - v585.toInt) _ _ ⟨v582, v583, v585, by first | rfl | omega, hI557, hF558, (w_p1 (by decide) (Or.inr rfl) (w_p1 (by decide) (Or.inr rfl) (w_p1 (by decide) (Or.inr rfl) e562))), (w_p1 (by decide) (Or.inr rfl) (w_p1 (by decide) (Or.inr rfl) (w_p1 (by decide) (Or.inr rfl) e563))), (w_p1 (by decide) (Or.inr rfl) (w_p1 (by decide) (Or.inr rfl) (w_p1 (by decide) (Or.inr rfl) e564))), (w_p1 (by decide) (Or.inr rfl) (w_p1 (by decide) (Or.inr rfl) (w_e1 _ _ _))), (w_p1 (by decide) (Or.inr rfl) (w_e1 _ _ _)), (w_e1 _ _ _), by omega⟩ ⟨by omega, by omega⟩
          · have c584_ : v583.toInt = a1.toInt := en_i_ne_f c584
            refine At.enter rfl ?_
            refine r_iload_n (w_p1 (by decide) (Or.inr rfl) (w_e1 _ _ _)) ?_
            refine r_ireti ?_
            exact ⟨_, rfl, hI557, hF558, _, rfl, trivial⟩

def F_X1_chokingRound_188 : List (Nat × Nat) := [(185, 3)]
def A_X1_chokingRound_188 : List Nat := []
theorem ma_X1_isStuck_188_195 : memA A_X1_isStuck_188 195 = false := by decide
set_option maxRecDepth 100000 in
set_option maxHeartbeats 4000000 in
theorem T_X1_chokingRound_188 (d : Nat) {N : Nat} {g0 : List en_E} (hI0 : HI g0) : Ev (d + 5) 34 [.ref 188] (g0, N) (fun w h' => ∃ g', h' = (g', N) ∧ HI g' ∧ Fr F_X1_chokingRound_188 A_X1_chokingRound_188 g0 g' ∧ ∃ r : Int32, w = some (.int r) ∧ True) := by
  have hF0 : Fr F_X1_chokingRound_188 A_X1_chokingRound_188 g0 g0 := Fr.rf
  refine Ev.mk rfl rfl ⟨Nat.le_of_ble_eq_true rfl, Or.inr (q_rc hI0.1 kx_188 rfl)⟩ ?_
  show At _ none _ _ (0, [(0, .ref 188)], [], (_, _)) _
  refine At.enter rfl ?_
  refine r_iconst 0 rfl ?_
  refine r_istore_n ([(1, .int 0), (0, .ref 188)]) rfl ?_
  refine r_iconst 0 rfl ?_
  refine r_istore_n ([(2, .int 0), (1, .int 0), (0, .ref 188)]) rfl ?_
  refine Ar.fall 4 rfl ?_
  have z_3947 : (0 : Int32).toInt = 0 := rfl
  have z_3948 : (0 : Int32).toInt = 0 := rfl
  refine w_loopI (fun n_ l_ g_ => ∃ x3935 : Int32, ∃ x3936 : Int32, n_ = 8 - x3936.toInt ∧ HI g_ ∧ Fr F_X1_chokingRound_188 A_X1_chokingRound_188 g0 g_ ∧ en_get 0 l_ = some (.ref 188) ∧ en_get 1 l_ = some (.int x3935) ∧ en_get 2 l_ = some (.int x3936) ∧ (0 ≤ x3936.toInt ∧ x3936.toInt ≤ 8)) ?_ (8 - 0) ⟨0, 0, by first | rfl | omega, hI0, hF0, rfl, rfl, rfl, by decide⟩
  rintro n3941 l3940 g3937 ⟨x3935, x3936, hm3949, hI3938, hF3939, e3943, e3944, e3945, r3946⟩ ih3942
  refine At.enter rfl ?_
  refine r_iload_n e3945 ?_
  refine r_aload_n e3943 ?_
  refine q_getR (Sh.ref hI3938.1 kx_188 rfl) ?_
  obtain ⟨v3950, hv3950⟩ : ∃ v, gI g0 1 4 = v := ⟨_, rfl⟩
  have rv3950 := RgF.at hI0.2.1 (p := 1) (b := 4) rfl
  rw [hv3950] at rv3950
  dsimp only at rv3950
  refine q_getI (Sh.int hI3938.1 kx_1 rfl) v3950 ((hF3939.1 1 4 (by decide)).trans hv3950) ?_
  have bv3952 := q_bnd x3936
  have bv3953 := q_bnd v3950
  refine r_ics 15 rfl (fun c3951 => ?_) (fun c3951 => ?_)
  · have c3951_ : x3936.toInt ≥ v3950.toInt := en_i_ge_t c3951
    refine At.enter rfl ?_
    refine r_iconst 0 rfl ?_
    refine r_istore_n _ rfl ?_
    refine Ar.fall 42 rfl ?_
    have z_4091 : (0 : Int32).toInt = 0 := rfl
    refine w_loopI (fun n_ l_ g_ => ∃ x4080 : Int32, n_ = 12 - x4080.toInt ∧ HI g_ ∧ Fr F_X1_chokingRound_188 A_X1_chokingRound_188 g0 g_ ∧ en_get 0 l_ = some (.ref 188) ∧ en_get 1 l_ = some (.int x3935) ∧ en_get 2 l_ = some (.int x4080) ∧ (0 ≤ x4080.toInt ∧ x4080.toInt ≤ 12)) ?_ (12 - 0) ⟨0, by first | rfl | omega, hI3938, hF3939, (w_p1 (by decide) (Or.inr rfl) e3943), (w_p1 (by decide) (Or.inr rfl) e3944), (w_e1 _ _ _), by decide⟩
    rintro n4085 l4084 g4081 ⟨x4080, hm4092, hI4082, hF4083, e4087, e4088, e4089, r4090⟩ ih4086
    refine At.enter rfl ?_
    refine r_iload_n e4089 ?_
    refine r_aload_n e4087 ?_
    refine q_getR (Sh.ref hI4082.1 kx_188 rfl) ?_
    obtain ⟨v4093, hv4093⟩ : ∃ v, gI g0 1 0 = v := ⟨_, rfl⟩
    have rv4093 := RgF.at hI0.2.1 (p := 1) (b := 0) rfl
    rw [hv4093] at rv4093
    dsimp only at rv4093
    refine q_getI (Sh.int hI4082.1 kx_1 rfl) v4093 ((hF4083.1 1 0 (by decide)).trans hv4093) ?_
    have bv4095 := q_bnd x4080
    have bv4096 := q_bnd v4093
    refine r_ics 53 rfl (fun c4094 => ?_) (fun c4094 => ?_)
    · have c4094_ : x4080.toInt ≥ v4093.toInt := en_i_ge_t c4094
      refine At.enter rfl ?_
      refine r_iconst 0 rfl ?_
      refine r_ireti ?_
      exact ⟨_, rfl, hI4082, hF4083, _, rfl, trivial⟩
    · have c4094_ : x4080.toInt < v4093.toInt := en_i_ge_f c4094
      refine At.enter rfl ?_
      refine r_aload_n e4087 ?_
      refine r_iload_n e4089 ?_
      refine r_iload_n e4088 ?_
      refine r_callV 59 rfl [.ref 188, .int x4080, .int x3935] [] (Nat.le_of_ble_eq_true rfl) rfl (T_X1_roundOf_188 _ hI4082 x4080 x3935) ?_
      rintro _ _ ⟨g4097, rfl, hI4098, hF4099, v4100, rfl, hr4101⟩
      refine At.sti ?_
      have hF4102 := Fr.tr hF4083 hF4099 rfl rfl
      refine At.enter rfl ?_
      refine r_istore_n _ rfl ?_
      refine r_iload_n (w_e1 _ _ _) ?_
      refine r_ifs 64 rfl (fun c4103 => ?_) (fun c4103 => ?_)
      · have c4103_ : v4100.toInt = 0 := en_k_eq_t c4103
        refine At.enter rfl ?_
        refine q_iinc (w_p1 (by decide) (Or.inr rfl) e4089) (x4080.toInt + 1) rfl (by omega) (fun v4104 hv4104 => ?_)
        refine r_goto ?_
        exact ih4086 (12 - v4104.toInt) _ _ ⟨v4104, by first | rfl | omega, hI4098, hF4102, (w_p1 (by decide) (Or.inr rfl) (w_p1 (by decide) (Or.inr rfl) e4087)), (w_p1 (by decide) (Or.inr rfl) (w_p1 (by decide) (Or.inr rfl) e4088)), (w_e1 _ _ _), by omega⟩ ⟨by omega, by omega⟩
      · have c4103_ : v4100.toInt ≠ 0 := en_k_eq_f c4103
        refine At.enter rfl ?_
        refine r_iload_n (w_e1 _ _ _) ?_
        refine r_ireti ?_
        exact ⟨_, rfl, hI4098, hF4102, _, rfl, trivial⟩
  · have c3951_ : x3936.toInt < v3950.toInt := en_i_ge_f c3951
    refine At.enter rfl ?_
    refine r_aload_n e3943 ?_
    refine r_iload_n e3945 ?_
    refine r_callV 20 rfl [.ref 188, .int x3936] [] (Nat.le_of_ble_eq_true rfl) rfl (T_X1_isStuck_188 _ hI3938 x3936 (by omega)) ?_
    rintro _ _ ⟨g4105, rfl, hI4106, hF4107, v4108, rfl, hr4109⟩
    refine At.sti ?_
    have hF4110 := Fr.tr hF3939 hF4107 rfl rfl
    refine At.enter rfl ?_
    refine r_ifs 23 rfl (fun c4111 => ?_) (fun c4111 => ?_)
    · have c4111_ : v4108.toInt = 0 := en_k_eq_t c4111
      refine At.enter rfl ?_
      refine q_iinc e3945 (x3936.toInt + 1) rfl (by omega) (fun v4112 hv4112 => ?_)
      refine r_goto ?_
      have bv4113 := q_bnd x3935
      exact ih3942 (8 - v4112.toInt) _ _ ⟨x3935, v4112, by first | rfl | omega, hI4106, hF4110, (w_p1 (by decide) (Or.inr rfl) e3943), (w_p1 (by decide) (Or.inr rfl) e3944), (w_e1 _ _ _), by omega⟩ ⟨by omega, by omega⟩
    · have c4111_ : v4108.toInt ≠ 0 := en_k_eq_f c4111
      refine At.enter rfl ?_
      refine r_iload_n e3944 ?_
      refine r_iconst 1 rfl ?_
      refine r_aload_n e3943 ?_
      refine q_getR (Sh.ref hI4106.1 kx_188 rfl) ?_
      refine r_iload_n e3945 ?_
      obtain ⟨v4114, hv4114⟩ : ∃ v, eA g0 195 x3936.toInt = v := ⟨_, rfl⟩
      refine q_iald (Sh.arr hI4106.1 ka_195) x3936.toInt rfl (by omega) v4114 ((eA_c ((hF4107.2.1 195 ma_X1_isStuck_188_195).trans (hF3939.2.1 195 (by decide)))).trans hv4114) ?_
      refine q_ishlO (fun v4115 hv4115 => ?_)
      refine q_iorO (fun v4116 hv4116 => ?_)
      refine r_istore_n _ rfl ?_
      refine Ar.fall 34 rfl ?_
      refine At.enter rfl ?_
      refine q_iinc (w_p1 (by decide) (Or.inr rfl) e3945) (x3936.toInt + 1) rfl (by omega) (fun v4117 hv4117 => ?_)
      refine r_goto ?_
      have bv4118 := q_bnd v4116
      exact ih3942 (8 - v4117.toInt) _ _ ⟨v4116, v4117, by first | rfl | omega, hI4106, hF4110, (w_p1 (by decide) (Or.inr rfl) (w_p1 (by decide) (Or.inr rfl) e3943)), (w_p1 (by decide) (Or.inr rfl) (w_e1 _ _ _)), (w_e1 _ _ _), by omega⟩ ⟨by omega, by omega⟩

def F_X1_lastStart_204 : List (Nat × Nat) := []
def A_X1_lastStart_204 : List Nat := []
set_option maxRecDepth 100000 in
set_option maxHeartbeats 4000000 in
theorem T_X1_lastStart_204 (d : Nat) {N : Nat} {g0 : List en_E} (hI0 : HI g0) : Ev (d + 1) 20 [.ref 204] (g0, N) (fun w h' => ∃ g', h' = (g', N) ∧ HI g' ∧ Fr F_X1_lastStart_204 A_X1_lastStart_204 g0 g' ∧ ∃ r : Int32, w = some (.int r) ∧ (0 ≤ r.toInt)) := by
  have hF0 : Fr F_X1_lastStart_204 A_X1_lastStart_204 g0 g0 := Fr.rf
  refine Ev.mk rfl rfl ⟨Nat.le_of_ble_eq_true rfl, Or.inr (q_rc hI0.1 kx_204 rfl)⟩ ?_
  show At _ none _ _ (0, [(0, .ref 204)], [], (_, _)) _
  refine At.enter rfl ?_
  refine r_iconst 0 rfl ?_
  refine r_istore_n ([(1, .int 0), (0, .ref 204)]) rfl ?_
  refine r_iconst 0 rfl ?_
  refine r_istore_n ([(2, .int 0), (1, .int 0), (0, .ref 204)]) rfl ?_
  refine Ar.fall 4 rfl ?_
  have z_270 : (0 : Int32).toInt = 0 := rfl
  have z_271 : (0 : Int32).toInt = 0 := rfl
  refine w_loopI (fun n_ l_ g_ => ∃ x257 : Int32, ∃ x258 : Int32, n_ = 8 - x258.toInt ∧ HI g_ ∧ Fr F_X1_lastStart_204 A_X1_lastStart_204 g0 g_ ∧ en_get 0 l_ = some (.ref 204) ∧ en_get 1 l_ = some (.int x257) ∧ en_get 2 l_ = some (.int x258) ∧ 0 ≤ x257.toInt ∧ (0 ≤ x258.toInt ∧ x258.toInt ≤ 8)) ?_ (8 - 0) ⟨0, 0, by first | rfl | omega, hI0, hF0, rfl, rfl, rfl, by decide, by decide⟩
  rintro n263 l262 g259 ⟨x257, x258, hm272, hI260, hF261, e265, e266, e267, r268, r269⟩ ih264
  refine At.enter rfl ?_
  refine r_iload_n e267 ?_
  refine r_aload_n e265 ?_
  refine q_getR (Sh.ref hI260.1 kx_204 rfl) ?_
  obtain ⟨v273, hv273⟩ : ∃ v, gI g0 1 4 = v := ⟨_, rfl⟩
  have rv273 := RgF.at hI0.2.1 (p := 1) (b := 4) rfl
  rw [hv273] at rv273
  dsimp only at rv273
  refine q_getI (Sh.int hI260.1 kx_1 rfl) v273 ((hF261.1 1 4 (by decide)).trans hv273) ?_
  have bv275 := q_bnd x258
  have bv276 := q_bnd v273
  refine r_ics 15 rfl (fun c274 => ?_) (fun c274 => ?_)
  · have c274_ : x258.toInt ≥ v273.toInt := en_i_ge_t c274
    refine At.enter rfl ?_
    refine r_iload_n e266 ?_
    refine r_ireti ?_
    exact ⟨_, rfl, hI260, hF261, _, rfl, by omega⟩
  · have c274_ : x258.toInt < v273.toInt := en_i_ge_f c274
    refine At.enter rfl ?_
    refine r_iload_n e266 ?_
    refine r_aload_n e265 ?_
    refine q_getR (Sh.ref hI260.1 kx_204 rfl) ?_
    refine r_iload_n e267 ?_
    obtain ⟨v277, hv277⟩ : ∃ v, eA g0 207 x258.toInt = v := ⟨_, rfl⟩
    refine q_iald (Sh.arr hI260.1 ka_207) x258.toInt rfl (by omega) v277 ((eA_c (hF261.2.1 207 (by decide))).trans hv277) ?_
    refine q_mmax rfl (Nat.le_of_ble_eq_true rfl) (fun v278 hv278 => ?_)
    refine r_istore_n _ rfl ?_
    refine q_iinc (w_p1 (by decide) (Or.inr rfl) e267) (x258.toInt + 1) rfl (by omega) (fun v279 hv279 => ?_)
    refine r_goto ?_
    have bv280 := q_bnd v278
    exact ih264 (8 - v279.toInt) _ _ ⟨v278, v279, by first | rfl | omega, hI260, hF261, (w_p1 (by decide) (Or.inr rfl) (w_p1 (by decide) (Or.inr rfl) e265)), (w_p1 (by decide) (Or.inr rfl) (w_e1 _ _ _)), (w_e1 _ _ _), by omega, by omega⟩ ⟨by omega, by omega⟩
