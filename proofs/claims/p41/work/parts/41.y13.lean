def F_X10_thieves_0 : List (Nat × Nat) := []
def A_X10_thieves_0 : List Nat := []
set_option maxRecDepth 100000 in
set_option maxHeartbeats 4000000 in
theorem T_X10_thieves_0 (d : Nat) {N : Nat} {g0 : List en_E} (hI0 : HI g0) : Ev (d + 6) 136 [.ref 0] (g0, N) (fun w h' => ∃ g', h' = (g', N) ∧ HI g' ∧ Fr F_X10_thieves_0 A_X10_thieves_0 g0 g' ∧ ∃ r : Int32, w = some (.int r) ∧ True ∧ (r.toInt = (ACI (FITX g0) (gI g0 1 0).toInt).toInt)) := by
  have hF0 : Fr F_X10_thieves_0 A_X10_thieves_0 g0 g0 := Fr.rf
  refine Ev.mk rfl rfl ⟨Nat.le_of_ble_eq_true rfl, Or.inr (q_rc hI0.1 kx_0 rfl)⟩ ?_
  show At _ none _ _ (0, [(0, .ref 0)], [], (_, _)) _
  refine At.enter rfl ?_
  refine r_aload_n rfl ?_
  refine q_getR (Sh.ref hI0.1 kx_0 rfl) ?_
  refine r_callV 7 rfl [.ref 184] [] (Nat.le_of_ble_eq_true rfl) rfl (T_X9_suspects_184 _ hI0) ?_
  rintro _ _ ⟨g13, rfl, hI14, hF15, v16, rfl, hr17⟩
  refine At.sti ?_
  have hF18 := Fr.tr hF0 hF15 rfl rfl
  refine At.enter rfl ?_
  refine r_ireti ?_
  exact ⟨_, rfl, hI14, hF18, _, rfl, trivial, hr17.2⟩

def F_X10_meet_0 : List (Nat × Nat) := []
def A_X10_meet_0 : List Nat := []
set_option maxRecDepth 100000 in
set_option maxHeartbeats 4000000 in
theorem T_X10_meet_0 (d : Nat) {N : Nat} {g0 : List en_E} (hI0 : HI g0) (a1 : Int32) (a2 : Int32) (a3 : Int32) : Ev (d + 4) 137 [.ref 0, .int a1, .int a2, .int a3] (g0, N) (fun w h' => ∃ g', h' = (g', N) ∧ HI g' ∧ Fr F_X10_meet_0 A_X10_meet_0 g0 g' ∧ ∃ r : Int32, w = some (.int r) ∧ True ∧ (((0 ≤ a1.toInt ∧ a1.toInt < (gI g0 1 0).toInt ∧ 0 ≤ a2.toInt ∧ a2.toInt < (gI g0 1 0).toInt ∧ 0 ≤ a3.toInt ∧ a3.toInt ≤ 1) → MEET (NX g0) 144 a1.toInt a2.toInt a3.toInt r.toInt) ∧ (¬ (0 ≤ a1.toInt ∧ a1.toInt < (gI g0 1 0).toInt ∧ 0 ≤ a2.toInt ∧ a2.toInt < (gI g0 1 0).toInt ∧ 0 ≤ a3.toInt ∧ a3.toInt ≤ 1) → r.toInt = -1))) := by
  have hF0 : Fr F_X10_meet_0 A_X10_meet_0 g0 g0 := Fr.rf
  refine Ev.mk rfl rfl ⟨Nat.le_of_ble_eq_true rfl, Or.inr (q_rc hI0.1 kx_0 rfl)⟩ ?_
  show At _ none _ _ (0, [(0, .ref 0), (1, .int a1), (2, .int a2), (3, .int a3)], [], (_, _)) _
  refine At.enter rfl ?_
  refine r_aload_n rfl ?_
  refine q_getR (Sh.ref hI0.1 kx_0 rfl) ?_
  refine r_iload_n rfl ?_
  refine q_inlV 8 rfl [.ref 1, .int a1] [] (Nat.le_of_ble_eq_true rfl) rfl ?_
  refine Ev.mk rfl rfl ⟨Nat.le_of_ble_eq_true rfl, Or.inr (q_rc hI0.1 kx_1 rfl)⟩ ?_
  show At _ none _ _ (0, [(0, .ref 1), (1, .int a1)], [], (_, _)) _
  refine At.enter rfl ?_
  refine r_iload_n rfl ?_
  refine r_ifs 4 rfl (fun c33 => ?_) (fun c33 => ?_)
  · have c33_ : a1.toInt < 0 := en_k_lt_t c33
    refine At.enter rfl ?_
    refine r_iconst 0 rfl ?_
    refine Ar.fall 17 rfl ?_
    refine At.enter rfl ?_
    refine q_iretz (by decide) ?_
    refine At.enter rfl ?_
    refine r_ift (by decide) ?_
    refine At.enter rfl ?_
    refine r_iconst (-1) rfl ?_
    refine r_ireti ?_
    have zv34 : ((-1) : Int32).toInt = (-1) := rfl
    obtain ⟨v35, hv35⟩ : ∃ v, gI g0 1 0 = v := ⟨_, rfl⟩
    have rv35 := RgF.at hI0.2.1 (p := 1) (b := 0) rfl
    rw [hv35] at rv35
    dsimp only at rv35
    have tv35 := congrArg Int32.toInt hv35
    exact ⟨_, rfl, hI0, hF0, _, rfl, trivial, ⟨fun h => absurd h (by omega), fun _ => by omega⟩⟩
  · have c33_ : a1.toInt ≥ 0 := en_k_lt_f c33
    refine At.enter rfl ?_
    refine r_iload_n rfl ?_
    refine r_aload_n rfl ?_
    obtain ⟨v37, hv37⟩ : ∃ v, gI g0 1 0 = v := ⟨_, rfl⟩
    have rv37 := RgF.at hI0.2.1 (p := 1) (b := 0) rfl
    rw [hv37] at rv37
    dsimp only at rv37
    refine q_getI (Sh.int hI0.1 kx_1 rfl) v37 hv37 ?_
    have bv39 := q_bnd a1
    have bv40 := q_bnd v37
    refine r_ics 12 rfl (fun c38 => ?_) (fun c38 => ?_)
    · have c38_ : a1.toInt ≥ v37.toInt := en_i_ge_t c38
      refine At.enter rfl ?_
      refine r_iconst 0 rfl ?_
      refine Ar.fall 17 rfl ?_
      refine At.enter rfl ?_
      refine q_iretz (by decide) ?_
      refine At.enter rfl ?_
      refine r_ift (by decide) ?_
      refine At.enter rfl ?_
      refine r_iconst (-1) rfl ?_
      refine r_ireti ?_
      have zv41 : ((-1) : Int32).toInt = (-1) := rfl
      have x42 := HI.eqI hI0 (p := 1) (b := 0) (hv37)
      exact ⟨_, rfl, hI0, hF0, _, rfl, trivial, ⟨fun h => absurd h (by omega), fun _ => by omega⟩⟩
    · have c38_ : a1.toInt < v37.toInt := en_i_ge_f c38
      refine At.enter rfl ?_
      refine r_iconst 1 rfl ?_
      refine r_goto ?_
      refine At.enter rfl ?_
      refine q_iretz (by decide) ?_
      refine At.enter rfl ?_
      refine r_iff 11 rfl (by decide) ?_
      refine At.enter rfl ?_
      refine r_aload_n rfl ?_
      refine q_getR (Sh.ref hI0.1 kx_0 rfl) ?_
      refine r_iload_n rfl ?_
      refine q_inlV 19 rfl [.ref 1, .int a2] [] (Nat.le_of_ble_eq_true rfl) rfl ?_
      refine Ev.mk rfl rfl ⟨Nat.le_of_ble_eq_true rfl, Or.inr (q_rc hI0.1 kx_1 rfl)⟩ ?_
      show At _ none _ _ (0, [(0, .ref 1), (1, .int a2)], [], (_, _)) _
      refine At.enter rfl ?_
      refine r_iload_n rfl ?_
      refine r_ifs 4 rfl (fun c43 => ?_) (fun c43 => ?_)
      · have c43_ : a2.toInt < 0 := en_k_lt_t c43
        refine At.enter rfl ?_
        refine r_iconst 0 rfl ?_
        refine Ar.fall 17 rfl ?_
        refine At.enter rfl ?_
        refine q_iretz (by decide) ?_
        refine At.enter rfl ?_
        refine r_ift (by decide) ?_
        refine At.enter rfl ?_
        refine r_iconst (-1) rfl ?_
        refine r_ireti ?_
        have zv44 : ((-1) : Int32).toInt = (-1) := rfl
        have x45 := HI.eqI hI0 (p := 1) (b := 0) (hv37)
        exact ⟨_, rfl, hI0, hF0, _, rfl, trivial, ⟨fun h => absurd h (by omega), fun _ => by omega⟩⟩
      · have c43_ : a2.toInt ≥ 0 := en_k_lt_f c43
        refine At.enter rfl ?_
        refine r_iload_n rfl ?_
        refine r_aload_n rfl ?_
        refine q_getI (Sh.int hI0.1 kx_1 rfl) v37 hv37 ?_
        have bv47 := q_bnd a2
        refine r_ics 12 rfl (fun c46 => ?_) (fun c46 => ?_)
        · have c46_ : a2.toInt ≥ v37.toInt := en_i_ge_t c46
          refine At.enter rfl ?_
          refine r_iconst 0 rfl ?_
          refine Ar.fall 17 rfl ?_
          refine At.enter rfl ?_
          refine q_iretz (by decide) ?_
          refine At.enter rfl ?_
          refine r_ift (by decide) ?_
          refine At.enter rfl ?_
          refine r_iconst (-1) rfl ?_
          refine r_ireti ?_
          have zv48 : ((-1) : Int32).toInt = (-1) := rfl
          have x49 := HI.eqI hI0 (p := 1) (b := 0) (hv37)
          exact ⟨_, rfl, hI0, hF0, _, rfl, trivial, ⟨fun h => absurd h (by omega), fun _ => by omega⟩⟩
        · have c46_ : a2.toInt < v37.toInt := en_i_ge_f c46
          refine At.enter rfl ?_
          refine r_iconst 1 rfl ?_
          refine r_goto ?_
          refine At.enter rfl ?_
          refine q_iretz (by decide) ?_
          refine At.enter rfl ?_
          refine r_iff 22 rfl (by decide) ?_
          refine At.enter rfl ?_
          refine r_iload_n rfl ?_
          refine r_iconst 0 rfl ?_
          refine r_iconst 1 rfl ?_
          refine q_inlS 28 rfl [.int a3, .int 0, .int 1] [] (Nat.le_of_ble_eq_true rfl) rfl ?_
          refine Ev.mk rfl rfl ⟨Nat.le_of_ble_eq_true rfl, Or.inl rfl⟩ ?_
          show At _ none _ _ (0, [(0, .int a3), (1, .int 0), (2, .int 1)], [], (_, _)) _
          refine At.enter rfl ?_
          refine r_iload_n rfl ?_
          refine r_iload_n rfl ?_
          refine r_ics 5 rfl (fun c50 => ?_) (fun c50 => ?_)
          · have c50_ : a3.toInt < 0 := en_i_lt_t c50
            refine At.enter rfl ?_
            refine r_iconst 0 rfl ?_
            refine Ar.fall 15 rfl ?_
            refine At.enter rfl ?_
            refine q_iretz (by decide) ?_
            refine At.enter rfl ?_
            refine r_iff 31 rfl (by decide) ?_
            refine At.enter rfl ?_
            refine r_iconst (-1) rfl ?_
            refine r_ireti ?_
            have zv51 : ((-1) : Int32).toInt = (-1) := rfl
            have x52 := HI.eqI hI0 (p := 1) (b := 0) (hv37)
            exact ⟨_, rfl, hI0, hF0, _, rfl, trivial, ⟨fun h => absurd h (by omega), fun _ => by omega⟩⟩
          · have c50_ : a3.toInt ≥ 0 := en_i_lt_f c50
            refine At.enter rfl ?_
            refine r_iload_n rfl ?_
            refine r_iload_n rfl ?_
            refine r_ics 10 rfl (fun c53 => ?_) (fun c53 => ?_)
            · have c53_ : a3.toInt > 1 := en_i_gt_t c53
              refine At.enter rfl ?_
              refine r_iconst 0 rfl ?_
              refine Ar.fall 15 rfl ?_
              refine At.enter rfl ?_
              refine q_iretz (by decide) ?_
              refine At.enter rfl ?_
              refine r_iff 31 rfl (by decide) ?_
              refine At.enter rfl ?_
              refine r_iconst (-1) rfl ?_
              refine r_ireti ?_
              have zv54 : ((-1) : Int32).toInt = (-1) := rfl
              have x55 := HI.eqI hI0 (p := 1) (b := 0) (hv37)
              exact ⟨_, rfl, hI0, hF0, _, rfl, trivial, ⟨fun h => absurd h (by omega), fun _ => by omega⟩⟩
            · have c53_ : a3.toInt ≤ 1 := en_i_gt_f c53
              refine At.enter rfl ?_
              refine r_iconst 1 rfl ?_
              refine r_goto ?_
              refine At.enter rfl ?_
              refine q_iretz (by decide) ?_
              refine At.enter rfl ?_
              refine r_ift (by decide) ?_
              refine At.enter rfl ?_
              refine r_aload_n rfl ?_
              refine q_getR (Sh.ref hI0.1 kx_0 rfl) ?_
              refine r_iload_n rfl ?_
              refine r_iload_n rfl ?_
              refine r_iload_n rfl ?_
              refine r_callV 43 rfl [.ref 184, .int a1, .int a2, .int a3] [] (Nat.le_of_ble_eq_true rfl) rfl (T_X9_meeting_184 _ hI0 a1 a2 a3) ?_
              rintro _ _ ⟨g56, rfl, hI57, hF58, v59, rfl, hr60⟩
              refine At.sti ?_
              have hF61 := Fr.tr hF0 hF58 rfl rfl
              refine At.enter rfl ?_
              refine r_ireti ?_
              have x62 := HI.eqI hI0 (p := 1) (b := 0) (hv37)
              exact ⟨_, rfl, hI57, hF61, _, rfl, trivial, ⟨fun _ => hr60.2, fun h => absurd (by omega) h⟩⟩

def F_X10_draw_0 : List (Nat × Nat) := [(0, 15), (0, 17), (185, 3), (204, 16), (204, 18)]
def A_X10_draw_0 : List Nat := [205, 206, 207, 208, 209, 210, 211, 212, 213, 214, 215, 216, 218, 219, 228, 229, 230]
theorem mf_X1_runWhole_204_1_4 : memF F_X1_runWhole_204 1 4 = false := by decide
set_option maxRecDepth 100000 in
set_option maxHeartbeats 4000000 in
theorem T_X10_draw_0 (d : Nat) {N : Nat} {g0 : List en_E} (hI0 : HI g0) (a1 : Int32) : Ev (d + 6) 138 [.ref 0, .int a1] (g0, N) (fun w h' => ∃ g', h' = (g', N) ∧ HI g' ∧ Fr F_X10_draw_0 A_X10_draw_0 g0 g' ∧ ∃ r : Int32, w = some (.int r) ∧ True ∧ (SU3 (0 ≤ a1.toInt ∧ a1.toInt ≤ 1000000) True (gI g' 0 17).toInt)) := by
  have hF0 : Fr F_X10_draw_0 A_X10_draw_0 g0 g0 := Fr.rf
  refine Ev.mk rfl rfl ⟨Nat.le_of_ble_eq_true rfl, Or.inr (q_rc hI0.1 kx_0 rfl)⟩ ?_
  show At _ none _ _ (0, [(0, .ref 0), (1, .int a1)], [], (_, _)) _
  refine At.enter rfl ?_
  refine r_iload_n rfl ?_
  refine r_iconst 0 rfl ?_
  refine r_ldcw 1000000 rfl ?_
  refine q_inlS 8 rfl [.int a1, .int 0, .int 1000000] [] (Nat.le_of_ble_eq_true rfl) rfl ?_
  refine Ev.mk rfl rfl ⟨Nat.le_of_ble_eq_true rfl, Or.inl rfl⟩ ?_
  show At _ none _ _ (0, [(0, .int a1), (1, .int 0), (2, .int 1000000)], [], (_, _)) _
  refine At.enter rfl ?_
  refine r_iload_n rfl ?_
  refine r_iload_n rfl ?_
  refine r_ics 5 rfl (fun c7925 => ?_) (fun c7925 => ?_)
  · have c7925_ : a1.toInt < 0 := en_i_lt_t c7925
    refine At.enter rfl ?_
    refine r_iconst 0 rfl ?_
    refine Ar.fall 15 rfl ?_
    refine At.enter rfl ?_
    refine q_iretz (by decide) ?_
    refine At.enter rfl ?_
    refine r_iff 11 rfl (by decide) ?_
    refine At.enter rfl ?_
    refine r_aload_n rfl ?_
    refine r_iconst (-1) rfl ?_
    refine r_callV 16 rfl [.ref 0, .int (-1)] [] (Nat.le_of_ble_eq_true rfl) rfl (T_X10_refused_0 _ hI0 (-1) (by decide)) ?_
    rintro _ _ ⟨g7926, rfl, hI7927, hF7928, v7929, rfl, hr7930⟩
    refine At.sti ?_
    have hF7931 := Fr.tr hF0 hF7928 rfl rfl
    have zv7932 : ((-1) : Int32).toInt = (-1) := rfl
    refine At.enter rfl ?_
    refine r_ireti ?_
    obtain ⟨v7933, hv7933⟩ : ∃ v, gI g7926 0 17 = v := ⟨_, rfl⟩
    have tv7933 := congrArg Int32.toInt hv7933
    exact ⟨_, rfl, hI7927, hF7931, _, rfl, trivial, (SU3.mk (by simp only [not_true_eq_false, true_and, and_true, false_and, false_or, or_false]; omega))⟩
  · have c7925_ : a1.toInt ≥ 0 := en_i_lt_f c7925
    refine At.enter rfl ?_
    refine r_iload_n rfl ?_
    refine r_iload_n rfl ?_
    refine r_ics 10 rfl (fun c7935 => ?_) (fun c7935 => ?_)
    · have c7935_ : a1.toInt > 1000000 := en_i_gt_t c7935
      refine At.enter rfl ?_
      refine r_iconst 0 rfl ?_
      refine Ar.fall 15 rfl ?_
      refine At.enter rfl ?_
      refine q_iretz (by decide) ?_
      refine At.enter rfl ?_
      refine r_iff 11 rfl (by decide) ?_
      refine At.enter rfl ?_
      refine r_aload_n rfl ?_
      refine r_iconst (-1) rfl ?_
      refine r_callV 16 rfl [.ref 0, .int (-1)] [] (Nat.le_of_ble_eq_true rfl) rfl (T_X10_refused_0 _ hI0 (-1) (by decide)) ?_
      rintro _ _ ⟨g7936, rfl, hI7937, hF7938, v7939, rfl, hr7940⟩
      refine At.sti ?_
      have hF7941 := Fr.tr hF0 hF7938 rfl rfl
      have zv7942 : ((-1) : Int32).toInt = (-1) := rfl
      refine At.enter rfl ?_
      refine r_ireti ?_
      obtain ⟨v7943, hv7943⟩ : ∃ v, gI g7936 0 17 = v := ⟨_, rfl⟩
      have tv7943 := congrArg Int32.toInt hv7943
      exact ⟨_, rfl, hI7937, hF7941, _, rfl, trivial, (SU3.mk (by simp only [not_true_eq_false, true_and, and_true, false_and, false_or, or_false]; omega))⟩
    · have c7935_ : a1.toInt ≤ 1000000 := en_i_gt_f c7935
      refine At.enter rfl ?_
      refine r_iconst 1 rfl ?_
      refine r_goto ?_
      refine At.enter rfl ?_
      refine q_iretz (by decide) ?_
      refine At.enter rfl ?_
      refine r_ift (by decide) ?_
      refine At.enter rfl ?_
      refine r_aload_n rfl ?_
      refine q_getR (Sh.ref hI0.1 kx_0 rfl) ?_
      refine r_iconst 0 rfl ?_
      refine r_callV 25 rfl [.ref 204, .int 0] [] (Nat.le_of_ble_eq_true rfl) rfl (T_X1_layOut_204 _ hI0 0) ?_
      rintro _ _ ⟨g7945, rfl, hI7946, hF7947, rfl⟩
      refine At.stn ?_
      have hF7950 := Fr.tr hF0 hF7947 rfl rfl
      refine At.enter rfl ?_
      refine r_iload_n rfl ?_
      refine r_istore_n ([(2, .int a1), (0, .ref 0), (1, .int a1)]) rfl ?_
      refine r_iconst 0 rfl ?_
      refine r_istore_n ([(3, .int 0), (2, .int a1), (0, .ref 0), (1, .int a1)]) rfl ?_
      refine Ar.fall 29 rfl ?_
      have z_11366 : (0 : Int32).toInt = 0 := rfl
      refine w_loopI (fun n_ l_ g_ => ∃ x11353 : Int32, ∃ x11354 : Int32, n_ = 8 - x11354.toInt ∧ HI g_ ∧ Fr F_X10_draw_0 A_X10_draw_0 g0 g_ ∧ en_get 0 l_ = some (.ref 0) ∧ en_get 1 l_ = some (.int a1) ∧ en_get 2 l_ = some (.int x11353) ∧ en_get 3 l_ = some (.int x11354) ∧ (0 ≤ x11354.toInt ∧ x11354.toInt ≤ 8)) ?_ (8 - 0) ⟨a1, 0, by first | rfl | omega, hI7946, hF7950, rfl, rfl, rfl, rfl, by decide⟩
      rintro n11359 l11358 g11355 ⟨x11353, x11354, hm11367, hI11356, hF11357, e11361, e11362, e11363, e11364, r11365⟩ ih11360
      refine At.enter rfl ?_
      refine r_iload_n e11364 ?_
      refine r_aload_n e11361 ?_
      refine q_getR (Sh.ref hI11356.1 kx_0 rfl) ?_
      obtain ⟨v11368, hv11368⟩ : ∃ v, gI g0 1 4 = v := ⟨_, rfl⟩
      have rv11368 := RgF.at hI0.2.1 (p := 1) (b := 4) rfl
      rw [hv11368] at rv11368
      dsimp only at rv11368
      refine q_getI (Sh.int hI11356.1 kx_1 rfl) v11368 ((hF11357.1 1 4 (by decide)).trans hv11368) ?_
      have bv11370 := q_bnd x11354
      have bv11371 := q_bnd v11368
      refine r_ics 40 rfl (fun c11369 => ?_) (fun c11369 => ?_)
      · have c11369_ : x11354.toInt ≥ v11368.toInt := en_i_ge_t c11369
        refine At.enter rfl ?_
        refine r_iconst 0 rfl ?_
        refine r_istore_n _ rfl ?_
        refine Ar.fall 66 rfl ?_
        have z_11799 : (0 : Int32).toInt = 0 := rfl
        refine w_loopI (fun n_ l_ g_ => ∃ x11786 : Int32, ∃ x11787 : Int32, n_ = 12 - x11787.toInt ∧ HI g_ ∧ Fr F_X10_draw_0 A_X10_draw_0 g0 g_ ∧ en_get 0 l_ = some (.ref 0) ∧ en_get 1 l_ = some (.int a1) ∧ en_get 2 l_ = some (.int x11786) ∧ en_get 3 l_ = some (.int x11787) ∧ (0 ≤ x11787.toInt ∧ x11787.toInt ≤ 12)) ?_ (12 - 0) ⟨x11353, 0, by first | rfl | omega, hI11356, hF11357, (w_p1 (by decide) (Or.inr rfl) e11361), (w_p1 (by decide) (Or.inr rfl) e11362), (w_p1 (by decide) (Or.inr rfl) e11363), (w_e1 _ _ _), by decide⟩
        rintro n11792 l11791 g11788 ⟨x11786, x11787, hm11800, hI11789, hF11790, e11794, e11795, e11796, e11797, r11798⟩ ih11793
        refine At.enter rfl ?_
        refine r_iload_n e11797 ?_
        refine r_aload_n e11794 ?_
        refine q_getR (Sh.ref hI11789.1 kx_0 rfl) ?_
        obtain ⟨v11801, hv11801⟩ : ∃ v, gI g0 1 0 = v := ⟨_, rfl⟩
        have rv11801 := RgF.at hI0.2.1 (p := 1) (b := 0) rfl
        rw [hv11801] at rv11801
        dsimp only at rv11801
        refine q_getI (Sh.int hI11789.1 kx_1 rfl) v11801 ((hF11790.1 1 0 (by decide)).trans hv11801) ?_
        have bv11803 := q_bnd x11787
        have bv11804 := q_bnd v11801
        refine r_ics 77 rfl (fun c11802 => ?_) (fun c11802 => ?_)
        · have c11802_ : x11787.toInt ≥ v11801.toInt := en_i_ge_t c11802
          refine At.enter rfl ?_
          refine r_aload_n e11794 ?_
          refine q_getR (Sh.ref hI11789.1 kx_0 rfl) ?_
          refine r_callV 125 rfl [.ref 204] [] (Nat.le_of_ble_eq_true rfl) rfl (T_X1_runWhole_204 _ hI11789) ?_
          rintro _ _ ⟨g11805, rfl, hI11806, hF11807, rfl⟩
          refine At.stn ?_
          have hF11810 := Fr.tr hF11790 hF11807 rfl rfl
          refine At.enter rfl ?_
          refine r_aload_n e11794 ?_
          refine r_aload_n e11794 ?_
          refine q_getR (Sh.ref hI11806.1 kx_0 rfl) ?_
          refine q_getI (Sh.int hI11806.1 kx_1 rfl) v11368 (((hF11807.1 1 4 mf_X1_runWhole_204_1_4).trans (hF11790.1 1 4 (by decide))).trans hv11368) ?_
          refine q_putI (Sh.int hI11806.1 kx_0 rfl) rfl ?_
          have hI11811 := HI.wI1 hI11806 kx_0 rfl (p := 0) (b := 15) (v := v11368) rfl (by dsimp only; omega)
          have hF11812 := Fr.wI (p := 0) (b := 15) (v := v11368) hF11810 rfl
          refine r_aload_n e11794 ?_
          refine q_getR (Sh.ref hI11811.1 kx_0 rfl) ?_
          refine q_getR (Sh.ref hI11811.1 kx_204 rfl) ?_
          refine r_iconst 0 rfl ?_
          refine r_aload_n e11794 ?_
          refine q_getR (Sh.ref hI11811.1 kx_0 rfl) ?_
          refine r_iconst 0 rfl ?_
          refine r_bipush 8 rfl ?_
          have zv11813 : (0 : Int32).toInt = 0 := rfl
          have zv11814 : (0 : Int32).toInt = 0 := rfl
          have zv11815 : (8 : Int32).toInt = 8 := rfl
          refine q_cpy rfl (Nat.le_of_ble_eq_true rfl) (Sh.arr hI11811.1 ka_212) (Sh.arr hI11811.1 ka_228) ⟨by omega, by omega, by omega, by omega, by omega⟩ ?_
          have hI11816 := HI.cpy0 hI11811 ka_212 ka_228 rfl rfl ((0 : Int32).toInt.toNat) ((0 : Int32).toInt.toNat) ((8 : Int32).toInt.toNat) (by omega) (by omega)
          have hF11817 := Fr.cpy (p0 := 212) (p1 := 228) hF11812 rfl ((0 : Int32).toInt.toNat) ((0 : Int32).toInt.toNat) ((8 : Int32).toInt.toNat)
          refine r_aload_n e11794 ?_
          refine q_getR (Sh.ref hI11816.1 kx_0 rfl) ?_
          refine q_getR (Sh.ref hI11816.1 kx_204 rfl) ?_
          refine r_iconst 0 rfl ?_
          refine r_aload_n e11794 ?_
          refine q_getR (Sh.ref hI11816.1 kx_0 rfl) ?_
          refine r_iconst 0 rfl ?_
          refine r_bipush 8 rfl ?_
          have zv11818 : (0 : Int32).toInt = 0 := rfl
          have zv11819 : (0 : Int32).toInt = 0 := rfl
          have zv11820 : (8 : Int32).toInt = 8 := rfl
          refine q_cpy rfl (Nat.le_of_ble_eq_true rfl) (Sh.arr hI11816.1 ka_207) (Sh.arr hI11816.1 ka_229) ⟨by omega, by omega, by omega, by omega, by omega⟩ ?_
          have hI11821 := HI.cpy0 hI11816 ka_207 ka_229 rfl rfl ((0 : Int32).toInt.toNat) ((0 : Int32).toInt.toNat) ((8 : Int32).toInt.toNat) (by omega) (by omega)
          have hF11822 := Fr.cpy (p0 := 207) (p1 := 229) hF11817 rfl ((0 : Int32).toInt.toNat) ((0 : Int32).toInt.toNat) ((8 : Int32).toInt.toNat)
          refine r_aload_n e11794 ?_
          refine r_aload_n e11794 ?_
          refine q_getR (Sh.ref hI11821.1 kx_0 rfl) ?_
          refine r_callV 180 rfl [.ref 204] [.ref 0] (Nat.le_of_ble_eq_true rfl) rfl (T_X1_comeByNoon_204 _ hI11821) ?_
          rintro _ _ ⟨g11823, rfl, hI11824, hF11825, v11826, rfl, hr11827⟩
          refine At.sti ?_
          have hF11828 := Fr.tr hF11822 hF11825 rfl rfl
          refine At.enter rfl ?_
          refine q_inlV 183 rfl [.ref 0, .int v11826] [] (Nat.le_of_ble_eq_true rfl) rfl ?_
          refine Ev.mk rfl rfl ⟨Nat.le_of_ble_eq_true rfl, Or.inr (q_rc hI11824.1 kx_0 rfl)⟩ ?_
          show At _ none _ _ (0, [(0, .ref 0), (1, .int v11826)], [], (_, _)) _
          refine At.enter rfl ?_
          refine r_aload_n rfl ?_
          refine r_iconst 0 rfl ?_
          refine q_putI (Sh.int hI11824.1 kx_0 rfl) rfl ?_
          have hI11829 := HI.wI0 hI11824 kx_0 rfl (p := 0) (b := 17) (v := 0) rfl
          have hF11830 := Fr.wI (p := 0) (b := 17) (v := 0) hF11828 rfl
          refine r_iload_n rfl ?_
          refine q_ireti ?_
          refine At.enter rfl ?_
          refine r_ireti ?_
          have x11831 := HI.eqI hI11829 (p := 0) (b := 17) ((gI_sI_eq hI11824.1 kx_0 rfl _))
          have zv11832 : (0 : Int32).toInt = 0 := rfl
          exact ⟨_, rfl, hI11829, hF11830, _, rfl, trivial, (SU3.mk (by simp only [not_true_eq_false, true_and, and_true, false_and, false_or, or_false]; omega))⟩
        · have c11802_ : x11787.toInt < v11801.toInt := en_i_ge_f c11802
          refine At.enter rfl ?_
          refine r_iload_n e11796 ?_
          refine q_inlS 81 rfl [.int x11786] [] (Nat.le_of_ble_eq_true rfl) rfl ?_
          refine Ev.mk rfl rfl ⟨Nat.le_of_ble_eq_true rfl, Or.inl rfl⟩ ?_
          show At _ none _ _ (0, [(0, .int x11786)], [], (_, _)) _
          refine At.enter rfl ?_
          refine r_iload_n rfl ?_
          refine r_sipush 1103 rfl ?_
          refine q_imulO (fun v11833 _ => ?_)
          refine r_sipush 12345 rfl ?_
          refine q_iaddO (fun v11834 _ => ?_)
          refine r_ldcw 1000003 rfl ?_
          refine q_iremO (by decide) (fun v11835 _ => ?_)
          refine q_ireti ?_
          refine At.enter rfl ?_
          refine r_istore_n _ rfl ?_
          refine r_iload_n (w_e1 _ _ _) ?_
          refine r_iconst 3 rfl ?_
          refine q_iremO (by decide) (fun v11836 _ => ?_)
          refine r_ifs 88 rfl (fun c11837 => ?_) (fun c11837 => ?_)
          · have c11837_ : v11836.toInt ≠ 0 := en_k_ne_t c11837
            refine At.enter rfl ?_
            refine q_iinc (w_p1 (by decide) (Or.inr rfl) e11797) (x11787.toInt + 1) rfl (by omega) (fun v11838 hv11838 => ?_)
            refine r_goto ?_
            have bv11839 := q_bnd v11835
            exact ih11793 (12 - v11838.toInt) _ _ ⟨v11835, v11838, by first | rfl | omega, hI11789, hF11790, (w_p1 (by decide) (Or.inr rfl) (w_p1 (by decide) (Or.inr rfl) e11794)), (w_p1 (by decide) (Or.inr rfl) (w_p1 (by decide) (Or.inr rfl) e11795)), (w_p1 (by decide) (Or.inr rfl) (w_e1 _ _ _)), (w_e1 _ _ _), by omega⟩ ⟨by omega, by omega⟩
          · have c11837_ : v11836.toInt = 0 := en_k_ne_f c11837
            refine At.enter rfl ?_
            refine r_aload_n (w_p1 (by decide) (Or.inr rfl) e11794) ?_
            refine q_getR (Sh.ref hI11789.1 kx_0 rfl) ?_
            refine q_getR (Sh.ref hI11789.1 kx_204 rfl) ?_
            refine r_iload_n (w_p1 (by decide) (Or.inr rfl) e11797) ?_
            refine r_iconst 1 rfl ?_
            refine r_aload_n (w_p1 (by decide) (Or.inr rfl) e11794) ?_
            refine q_getR (Sh.ref hI11789.1 kx_0 rfl) ?_
            refine q_getR (Sh.ref hI11789.1 kx_204 rfl) ?_
            refine r_iload_n (w_p1 (by decide) (Or.inr rfl) e11797) ?_
            obtain ⟨v11840, hv11840⟩ : ∃ v, eA g11788 205 x11787.toInt = v := ⟨_, rfl⟩
            refine q_iald (Sh.arr hI11789.1 ka_205) x11787.toInt rfl (by omega) v11840 hv11840 ?_
            refine r_iconst 1 rfl ?_
            refine q_isubO (fun v11841 _ => ?_)
            refine q_mmax rfl (Nat.le_of_ble_eq_true rfl) (fun v11842 hv11842 => ?_)
            have zv11843 : (1 : Int32).toInt = 1 := rfl
            refine q_iast (Sh.arr hI11789.1 ka_205) (x11787.toInt) rfl (by omega) ?_
            have hI11844 := HI.wA0 hI11789 ka_205 (p := 205) rfl rfl (x11787.toInt) (v11842)
            have hF11845 := Fr.wA (p := 205) (j := x11787.toInt) (v := v11842) hF11790 rfl
            refine Ar.fall 112 rfl ?_
            refine At.enter rfl ?_
            refine q_iinc (w_p1 (by decide) (Or.inr rfl) e11797) (x11787.toInt + 1) rfl (by omega) (fun v11846 hv11846 => ?_)
            refine r_goto ?_
            have bv11847 := q_bnd v11835
            exact ih11793 (12 - v11846.toInt) _ _ ⟨v11835, v11846, by first | rfl | omega, hI11844, hF11845, (w_p1 (by decide) (Or.inr rfl) (w_p1 (by decide) (Or.inr rfl) e11794)), (w_p1 (by decide) (Or.inr rfl) (w_p1 (by decide) (Or.inr rfl) e11795)), (w_p1 (by decide) (Or.inr rfl) (w_e1 _ _ _)), (w_e1 _ _ _), by omega⟩ ⟨by omega, by omega⟩
      · have c11369_ : x11354.toInt < v11368.toInt := en_i_ge_f c11369
        refine At.enter rfl ?_
        refine r_iload_n e11363 ?_
        refine q_inlS 44 rfl [.int x11353] [] (Nat.le_of_ble_eq_true rfl) rfl ?_
        refine Ev.mk rfl rfl ⟨Nat.le_of_ble_eq_true rfl, Or.inl rfl⟩ ?_
        show At _ none _ _ (0, [(0, .int x11353)], [], (_, _)) _
        refine At.enter rfl ?_
        refine r_iload_n rfl ?_
        refine r_sipush 1103 rfl ?_
        refine q_imulO (fun v11848 _ => ?_)
        refine r_sipush 12345 rfl ?_
        refine q_iaddO (fun v11849 _ => ?_)
        refine r_ldcw 1000003 rfl ?_
        refine q_iremO (by decide) (fun v11850 _ => ?_)
        refine q_ireti ?_
        refine At.enter rfl ?_
        refine r_istore_n _ rfl ?_
        refine r_aload_n (w_p1 (by decide) (Or.inr rfl) e11361) ?_
        refine q_getR (Sh.ref hI11356.1 kx_0 rfl) ?_
        refine q_getR (Sh.ref hI11356.1 kx_204 rfl) ?_
        refine r_iload_n (w_p1 (by decide) (Or.inr rfl) e11364) ?_
        refine r_iload_n (w_e1 _ _ _) ?_
        refine r_bipush 30 rfl ?_
        refine q_iremO (by decide) (fun v11851 _ => ?_)
        refine q_iast (Sh.arr hI11356.1 ka_207) (x11354.toInt) rfl (by omega) ?_
        have hI11852 := HI.wA0 hI11356 ka_207 (p := 207) rfl rfl (x11354.toInt) (v11851)
        have hF11853 := Fr.wA (p := 207) (j := x11354.toInt) (v := v11851) hF11357 rfl
        refine q_iinc (w_p1 (by decide) (Or.inr rfl) e11364) (x11354.toInt + 1) rfl (by omega) (fun v11854 hv11854 => ?_)
        refine r_goto ?_
        have bv11855 := q_bnd v11850
        exact ih11360 (8 - v11854.toInt) _ _ ⟨v11850, v11854, by first | rfl | omega, hI11852, hF11853, (w_p1 (by decide) (Or.inr rfl) (w_p1 (by decide) (Or.inr rfl) e11361)), (w_p1 (by decide) (Or.inr rfl) (w_p1 (by decide) (Or.inr rfl) e11362)), (w_p1 (by decide) (Or.inr rfl) (w_e1 _ _ _)), (w_e1 _ _ _), by omega⟩ ⟨by omega, by omega⟩
