def F_X10_thieves_0 : List (Nat × Nat) := []
def A_X10_thieves_0 : List Nat := []
set_option maxRecDepth 100000 in
set_option maxHeartbeats 4000000 in
theorem T_X10_thieves_0 (d : Nat) {N : Nat} {g0 : List en_E} (hI0 : HI g0) : Ev (d + 6) 136 [.ref 0] (g0, N) (fun w h' => ∃ g', h' = (g', N) ∧ HI g' ∧ Fr F_X10_thieves_0 A_X10_thieves_0 g0 g' ∧ ∃ r : Int32, w = some (.int r) ∧ True ∧ (r.toInt = (ACI (FITX g0) (gI g0 1 0).toInt).toInt)) := by
  have hF0 : Fr F_X10_thieves_0 A_X10_thieves_0 g0 g0 := Fr.rf
  refine Ev.mk rfl rfl ⟨Nat.le_of_ble_eq_true rfl, Or.inr (q_rc hI0.1 kx_0 rfl)⟩ ?_
  show At _ none _ _ (0, [(0, .ref 0)], [], (_, _)) _
  refine At.enter rfl ?_
  refine r_aload_n rfl ?_
  refine q_getR (Sh.ref hI0.1 kx_0 rfl) ?_
  refine r_callV 7 rfl [.ref 184] [] (Nat.le_of_ble_eq_true rfl) rfl (T_X9_suspects_184 _ hI0) ?_
  rintro _ _ ⟨g13, rfl, hI14, hF15, v16, rfl, hr17⟩
  refine At.sti ?_
  have hF18 := Fr.tr hF0 hF15 rfl rfl
  refine At.enter rfl ?_
  refine r_ireti ?_
  exact ⟨_, rfl, hI14, hF18, _, rfl, trivial, hr17.2⟩

def F_X10_meet_0 : List (Nat × Nat) := []
def A_X10_meet_0 : List Nat := []
set_option maxRecDepth 100000 in
set_option maxHeartbeats 4000000 in
theorem T_X10_meet_0 (d : Nat) {N : Nat} {g0 : List en_E} (hI0 : HI g0) (a1 : Int32) (a2 : Int32) (a3 : Int32) : Ev (d + 4) 137 [.ref 0, .int a1, .int a2, .int a3] (g0, N) (fun w h' => ∃ g', h' = (g', N) ∧ HI g' ∧ Fr F_X10_meet_0 A_X10_meet_0 g0 g' ∧ ∃ r : Int32, w = some (.int r) ∧ True ∧ (((0 ≤ a1.toInt ∧ a1.toInt < (gI g0 1 0).toInt ∧ 0 ≤ a2.toInt ∧ a2.toInt < (gI g0 1 0).toInt ∧ 0 ≤ a3.toInt ∧ a3.toInt ≤ 1) → MEET (NX g0) 144 a1.toInt a2.toInt a3.toInt r.toInt) ∧ (¬ (0 ≤ a1.toInt ∧ a1.toInt < (gI g0 1 0).toInt ∧ 0 ≤ a2.toInt ∧ a2.toInt < (gI g0 1 0).toInt ∧ 0 ≤ a3.toInt ∧ a3.toInt ≤ 1) → r.toInt = -1))) := by
  have hF0 : Fr F_X10_meet_0 A_X10_meet_0 g0 g0 := Fr.rf
  refine Ev.mk rfl rfl ⟨Nat.le_of_ble_eq_true rfl, Or.inr (q_rc hI0.1 kx_0 rfl)⟩ ?_
  show At _ none _ _ (0, [(0, .ref 0), (1, .int a1), (2, .int a2), (3, .int a3)], [], (_, _)) _
  refine At.enter rfl ?_
  refine r_aload_n rfl ?_
  refine q_getR (Sh.ref hI0.1 kx_0 rfl) ?_
  refine r_iload_n rfl ?_
  refine q_inlV 8 rfl [.ref 1, .int a1] [] (Nat.le_of_ble_eq_true rfl) rfl ?_
  refine Ev.mk rfl rfl ⟨Nat.le_of_ble_eq_true rfl, Or.inr (q_rc hI0.1 kx_1 rfl)⟩ ?_
  show At _ none _ _ (0, [(0, .ref 1), (1, .int a1)], [], (_, _)) _
  refine At.enter rfl ?_
  refine r_iload_n rfl ?_
  refine r_ifs 4 rfl (fun c33 => ?_) (fun c33 => ?_)
  · have c33_ : a1.toInt < 0 := en_k_lt_t c33
    refine At.enter rfl ?_
    refine r_iconst 0 rfl ?_
    refine Ar.fall 17 rfl ?_
    refine At.enter rfl ?_
    refine q_iretz (by decide) ?_
    refine At.enter rfl ?_
    refine r_ift (by decide) ?_
    refine At.enter rfl ?_
    refine r_iconst (-1) rfl ?_
    refine r_ireti ?_
    have zv34 : ((-1) : Int32).toInt = (-1) := rfl
    obtain ⟨v35, hv35⟩ : ∃ v, gI g0 1 0 = v := ⟨_, rfl⟩
    have rv35 := RgF.at hI0.2.1 (p := 1) (b := 0) rfl
    rw [hv35] at rv35
    dsimp only at rv35
    have tv35 := congrArg Int32.toInt hv35
    exact ⟨_, rfl, hI0, hF0, _, rfl, trivial, ⟨fun h => absurd h (by omega), fun _ => by omega⟩⟩
  · have c33_ : a1.toInt ≥ 0 := en_k_lt_f c33
    refine At.enter rfl ?_
    refine r_iload_n rfl ?_
    refine r_aload_n rfl ?_
    obtain ⟨v37, hv37⟩ : ∃ v, gI g0 1 0 = v := ⟨_, rfl⟩
    have rv37 := RgF.at hI0.2.1 (p := 1) (b := 0) rfl
    rw [hv37] at rv37
    dsimp only at rv37
    refine q_getI (Sh.int hI0.1 kx_1 rfl) v37 hv37 ?_
    have bv39 := q_bnd a1
    have bv40 := q_bnd v37
    refine r_ics 12 rfl (fun c38 => ?_) (fun c38 => ?_)
    · have c38_ : a1.toInt ≥ v37.toInt := en_i_ge_t c38
      refine At.enter rfl ?_
      refine r_iconst 0 rfl ?_
      refine Ar.fall 17 rfl ?_
      refine At.enter rfl ?_
      refine q_iretz (by decide) ?_
      refine At.enter rfl ?_
      refine r_ift (by decide) ?_
      refine At.enter rfl ?_
      refine r_iconst (-1) rfl ?_
      refine r_ireti ?_
      have zv41 : ((-1) : Int32).toInt = (-1) := rfl
      have x42 := HI.eqI hI0 (p := 1) (b := 0) (hv37)
      exact ⟨_, rfl, hI0, hF0, _, rfl, trivial, ⟨fun h => absurd h (by omega), fun _ => by omega⟩⟩
    · have c38_ : a1.toInt < v37.toInt := en_i_ge_f c38
      refine At.enter rfl ?_
      refine r_iconst 1 rfl ?_
      refine r_goto ?_
      refine At.enter rfl ?_
      refine q_iretz (by decide) ?_
      refine At.enter rfl ?_
      refine r_iff 11 rfl (by decide) ?_
      refine At.enter rfl ?_
      refine r_aload_n rfl ?_
      refine q_getR (Sh.ref hI0.1 kx_0 rfl) ?_
      refine r_iload_n rfl ?_
      refine q_inlV 19 rfl [.ref 1, .int a2] [] (Nat.le_of_ble_eq_true rfl) rfl ?_
      refine Ev.mk rfl rfl ⟨Nat.le_of_ble_eq_true rfl, Or.inr (q_rc hI0.1 kx_1 rfl)⟩ ?_
      show At _ none _ _ (0, [(0, .ref 1), (1, .int a2)], [], (_, _)) _
      refine At.enter rfl ?_
      refine r_iload_n rfl ?_
      refine r_ifs 4 rfl (fun c43 => ?_) (fun c43 => ?_)
      · have c43_ : a2.toInt < 0 := en_k_lt_t c43
        refine At.enter rfl ?_
        refine r_iconst 0 rfl ?_
        refine Ar.fall 17 rfl ?_
        refine At.enter rfl ?_
        refine q_iretz (by decide) ?_
        refine At.enter rfl ?_
        refine r_ift (by decide) ?_
        refine At.enter rfl ?_
        refine r_iconst (-1) rfl ?_
        refine r_ireti ?_
        have zv44 : ((-1) : Int32).toInt = (-1) := rfl
        have x45 := HI.eqI hI0 (p := 1) (b := 0) (hv37)
        exact ⟨_, rfl, hI0, hF0, _, rfl, trivial, ⟨fun h => absurd h (by omega), fun _ => by omega⟩⟩
      · have c43_ : a2.toInt ≥ 0 := en_k_lt_f c43
        refine At.enter rfl ?_
        refine r_iload_n rfl ?_
        refine r_aload_n rfl ?_
        refine q_getI (Sh.int hI0.1 kx_1 rfl) v37 hv37 ?_
        have bv47 := q_bnd a2
        refine r_ics 12 rfl (fun c46 => ?_) (fun c46 => ?_)
        · have c46_ : a2.toInt ≥ v37.toInt := en_i_ge_t c46
          refine At.enter rfl ?_
          refine r_iconst 0 rfl ?_
          refine Ar.fall 17 rfl ?_
          refine At.enter rfl ?_
          refine q_iretz (by decide) ?_
          refine At.enter rfl ?_
          refine r_ift (by decide) ?_
          refine At.enter rfl ?_
          refine r_iconst (-1) rfl ?_
          refine r_ireti ?_
          have zv48 : ((-1) : Int32).toInt = (-1) := rfl
          have x49 := HI.eqI hI0 (p := 1) (b := 0) (hv37)
          exact ⟨_, rfl, hI0, hF0, _, rfl, trivial, ⟨fun h => absurd h (by omega), fun _ => by omega⟩⟩
        · have c46_ : a2.toInt < v37.toInt := en_i_ge_f c46
          refine At.enter rfl ?_
          refine r_iconst 1 rfl ?_
          refine r_goto ?_
          refine At.enter rfl ?_
          refine q_iretz (by decide) ?_
          refine At.enter rfl ?_
          refine r_iff 22 rfl (by decide) ?_
          refine At.enter rfl ?_
          refine r_iload_n rfl ?_
          refine r_iconst 0 rfl ?_
          refine r_iconst 1 rfl ?_
          refine q_inlS 28 rfl [.int a3, .int 0, .int 1] [] (Nat.le_of_ble_eq_true rfl) rfl ?_
          refine Ev.mk rfl rfl ⟨Nat.le_of_ble_eq_true rfl, Or.inl rfl⟩ ?_
          show At _ none _ _ (0, [(0, .int a3), (1, .int 0), (2, .int 1)], [], (_, _)) _
          refine At.enter rfl ?_
          refine r_iload_n rfl ?_
          refine r_iload_n rfl ?_
          refine r_ics 5 rfl (fun c50 => ?_) (fun c50 => ?_)
          · have c50_ : a3.toInt < 0 := en_i_lt_t c50
            refine At.enter rfl ?_
            refine r_iconst 0 rfl ?_
            refine Ar.fall 15 rfl ?_
            refine At.enter rfl ?_
            refine q_iretz (by decide) ?_
            refine At.enter rfl ?_
            refine r_iff 31 rfl (by decide) ?_
            refine At.enter rfl ?_
            refine r_iconst (-1) rfl ?_
            refine r_ireti ?_
            have zv51 : ((-1) : Int32).toInt = (-1) := rfl
            have x52 := HI.eqI hI0 (p := 1) (b := 0) (hv37)
            exact ⟨_, rfl, hI0, hF0, _, rfl, trivial, ⟨fun h => absurd h (by omega), fun _ => by omega⟩⟩
          · have c50_ : a3.toInt ≥ 0 := en_i_lt_f c50
            refine At.enter rfl ?_
            refine r_iload_n rfl ?_
            refine r_iload_n rfl ?_
            refine r_ics 10 rfl (fun c53 => ?_) (fun c53 => ?_)
            · have c53_ : a3.toInt > 1 := en_i_gt_t c53
              refine At.enter rfl ?_
              refine r_iconst 0 rfl ?_
              refine Ar.fall 15 rfl ?_
              refine At.enter rfl ?_
              refine q_iretz (by decide) ?_
              refine At.enter rfl ?_
              refine r_iff 31 rfl (by decide) ?_
              refine At.enter rfl ?_
              refine r_iconst (-1) rfl ?_
              refine r_ireti ?_
              have zv54 : ((-1) : Int32).toInt = (-1) := rfl
              have x55 := HI.eqI hI0 (p := 1) (b := 0) (hv37)
              exact ⟨_, rfl, hI0, hF0, _, rfl, trivial, ⟨fun h => absurd h (by omega), fun _ => by omega⟩⟩
            · have c53_ : a3.toInt ≤ 1 := en_i_gt_f c53
              refine At.enter rfl ?_
              refine r_iconst 1 rfl ?_
              refine r_goto ?_
              refine At.enter rfl ?_
              refine q_iretz (by decide) ?_
              refine At.enter rfl ?_
              refine r_ift (by decide) ?_
              refine At.enter rfl ?_
              refine r_aload_n rfl ?_
              refine q_getR (Sh.ref hI0.1 kx_0 rfl) ?_
              refine r_iload_n rfl ?_
              refine r_iload_n rfl ?_
              refine r_iload_n rfl ?_
              refine r_callV 43 rfl [.ref 184, .int a1, .int a2, .int a3] [] (Nat.le_of_ble_eq_true rfl) rfl (T_X9_meeting_184 _ hI0 a1 a2 a3) ?_
              rintro _ _ ⟨g56, rfl, hI57, hF58, v59, rfl, hr60⟩
              refine At.sti ?_
              have hF61 := Fr.tr hF0 hF58 rfl rfl
              refine At.enter rfl ?_
              refine r_ireti ?_
              have x62 := HI.eqI hI0 (p := 1) (b := 0) (hv37)
              exact ⟨_, rfl, hI57, hF61, _, rfl, trivial, ⟨fun _ => hr60.2, fun h => absurd (by omega) h⟩⟩

def F_X10_draw_0 : List (Nat × Nat) := [(0, 15), (0, 17), (185, 3), (204, 16), (204, 18)]
def A_X10_draw_0 : List Nat := [205, 206, 207, 208, 209, 210, 211, 212, 213, 214, 215, 216, 218, 219, 228, 229, 230]
theorem mf_X1_runWhole_204_1_4 : memF F_X1_runWhole_204 1 4 = false := by decide
set_option maxRecDepth 100000 in
set_option maxHeartbeats 4000000 in
theorem T_X10_draw_0 (d : Nat) {N : Nat} {g0 : List en_E} (hI0 : HI g0) (a1 : Int32) : Ev (d + 6) 138 [.ref 0, .int a1] (g0, N) (fun w h' => ∃ g', h' = (g', N) ∧ HI g' ∧ Fr F_X10_draw_0 A_X10_draw_0 g0 g' ∧ ∃ r : Int32, w = some (.int r) ∧ True) := by
  have hF0 : Fr F_X10_draw_0 A_X10_draw_0 g0 g0 := Fr.rf
  refine Ev.mk rfl rfl ⟨Nat.le_of_ble_eq_true rfl, Or.inr (q_rc hI0.1 kx_0 rfl)⟩ ?_
  show At _ none _ _ (0, [(0, .ref 0), (1, .int a1)], [], (_, _)) _
  refine At.enter rfl ?_
  refine r_iload_n rfl ?_
  refine r_iconst 0 rfl ?_
  refine r_ldcw 1000000 rfl ?_
  refine q_inlS 8 rfl [.int a1, .int 0, .int 1000000] [] (Nat.le_of_ble_eq_true rfl) rfl ?_
  refine Ev.mk rfl rfl ⟨Nat.le_of_ble_eq_true rfl, Or.inl rfl⟩ ?_
  show At _ none _ _ (0, [(0, .int a1), (1, .int 0), (2, .int 1000000)], [], (_, _)) _
  refine At.enter rfl ?_
  refine r_iload_n rfl ?_
  refine r_iload_n rfl ?_
  refine r_ics 5 rfl (fun c7925 => ?_) (fun c7925 => ?_)
  · have c7925_ : a1.toInt < 0 := en_i_lt_t c7925
    refine At.enter rfl ?_
    refine r_iconst 0 rfl ?_
    refine Ar.fall 15 rfl ?_
    refine At.enter rfl ?_
    refine q_iretz (by decide) ?_
    refine At.enter rfl ?_
    refine r_iff 11 rfl (by decide) ?_
    refine At.enter rfl ?_
    refine r_aload_n rfl ?_
    refine r_iconst (-1) rfl ?_
    refine r_callV 16 rfl [.ref 0, .int (-1)] [] (Nat.le_of_ble_eq_true rfl) rfl (T_X10_refused_0 _ hI0 (-1) (by decide)) ?_
    rintro _ _ ⟨g7926, rfl, hI7927, hF7928, v7929, rfl, hr7930⟩
    refine At.sti ?_
    have hF7931 := Fr.tr hF0 hF7928 rfl rfl
    have zv7932 : ((-1) : Int32).toInt = (-1) := rfl
    refine At.enter rfl ?_
    refine r_ireti ?_
    exact ⟨_, rfl, hI7927, hF7931, _, rfl, trivial⟩
  · have c7925_ : a1.toInt ≥ 0 := en_i_lt_f c7925
    refine At.enter rfl ?_
    refine r_iload_n rfl ?_
    refine r_iload_n rfl ?_
    refine r_ics 10 rfl (fun c7933 => ?_) (fun c7933 => ?_)
    · have c7933_ : a1.toInt > 1000000 := en_i_gt_t c7933
      refine At.enter rfl ?_
      refine r_iconst 0 rfl ?_
      refine Ar.fall 15 rfl ?_
      refine At.enter rfl ?_
      refine q_iretz (by decide) ?_
      refine At.enter rfl ?_
      refine r_iff 11 rfl (by decide) ?_
      refine At.enter rfl ?_
      refine r_aload_n rfl ?_
      refine r_iconst (-1) rfl ?_
      refine r_callV 16 rfl [.ref 0, .int (-1)] [] (Nat.le_of_ble_eq_true rfl) rfl (T_X10_refused_0 _ hI0 (-1) (by decide)) ?_
      rintro _ _ ⟨g7934, rfl, hI7935, hF7936, v7937, rfl, hr7938⟩
      refine At.sti ?_
      have hF7939 := Fr.tr hF0 hF7936 rfl rfl
      have zv7940 : ((-1) : Int32).toInt = (-1) := rfl
      refine At.enter rfl ?_
      refine r_ireti ?_
      exact ⟨_, rfl, hI7935, hF7939, _, rfl, trivial⟩
    · have c7933_ : a1.toInt ≤ 1000000 := en_i_gt_f c7933
      refine At.enter rfl ?_
      refine r_iconst 1 rfl ?_
      refine r_goto ?_
      refine At.enter rfl ?_
      refine q_iretz (by decide) ?_
      refine At.enter rfl ?_
      refine r_ift (by decide) ?_
      refine At.enter rfl ?_
      refine r_aload_n rfl ?_
      refine q_getR (Sh.ref hI0.1 kx_0 rfl) ?_
      refine r_iconst 0 rfl ?_
      refine r_callV 25 rfl [.ref 204, .int 0] [] (Nat.le_of_ble_eq_true rfl) rfl (T_X1_layOut_204 _ hI0 0) ?_
      rintro _ _ ⟨g7941, rfl, hI7942, hF7943, rfl⟩
      refine At.stn ?_
      have hF7946 := Fr.tr hF0 hF7943 rfl rfl
      refine At.enter rfl ?_
      refine r_iload_n rfl ?_
      refine r_istore_n ([(2, .int a1), (0, .ref 0), (1, .int a1)]) rfl ?_
      refine r_iconst 0 rfl ?_
      refine r_istore_n ([(3, .int 0), (2, .int a1), (0, .ref 0), (1, .int a1)]) rfl ?_
      refine Ar.fall 29 rfl ?_
      have z_11362 : (0 : Int32).toInt = 0 := rfl
      refine w_loopI (fun n_ l_ g_ => ∃ x11349 : Int32, ∃ x11350 : Int32, n_ = 8 - x11350.toInt ∧ HI g_ ∧ Fr F_X10_draw_0 A_X10_draw_0 g0 g_ ∧ en_get 0 l_ = some (.ref 0) ∧ en_get 1 l_ = some (.int a1) ∧ en_get 2 l_ = some (.int x11349) ∧ en_get 3 l_ = some (.int x11350) ∧ (0 ≤ x11350.toInt ∧ x11350.toInt ≤ 8)) ?_ (8 - 0) ⟨a1, 0, by first | rfl | omega, hI7942, hF7946, rfl, rfl, rfl, rfl, by decide⟩
      rintro n11355 l11354 g11351 ⟨x11349, x11350, hm11363, hI11352, hF11353, e11357, e11358, e11359, e11360, r11361⟩ ih11356
      refine At.enter rfl ?_
      refine r_iload_n e11360 ?_
      refine r_aload_n e11357 ?_
      refine q_getR (Sh.ref hI11352.1 kx_0 rfl) ?_
      obtain ⟨v11364, hv11364⟩ : ∃ v, gI g0 1 4 = v := ⟨_, rfl⟩
      have rv11364 := RgF.at hI0.2.1 (p := 1) (b := 4) rfl
      rw [hv11364] at rv11364
      dsimp only at rv11364
      refine q_getI (Sh.int hI11352.1 kx_1 rfl) v11364 ((hF11353.1 1 4 (by decide)).trans hv11364) ?_
      have bv11366 := q_bnd x11350
      have bv11367 := q_bnd v11364
      refine r_ics 40 rfl (fun c11365 => ?_) (fun c11365 => ?_)
      · have c11365_ : x11350.toInt ≥ v11364.toInt := en_i_ge_t c11365
        refine At.enter rfl ?_
        refine r_iconst 0 rfl ?_
        refine r_istore_n _ rfl ?_
        refine Ar.fall 66 rfl ?_
        have z_11795 : (0 : Int32).toInt = 0 := rfl
        refine w_loopI (fun n_ l_ g_ => ∃ x11782 : Int32, ∃ x11783 : Int32, n_ = 12 - x11783.toInt ∧ HI g_ ∧ Fr F_X10_draw_0 A_X10_draw_0 g0 g_ ∧ en_get 0 l_ = some (.ref 0) ∧ en_get 1 l_ = some (.int a1) ∧ en_get 2 l_ = some (.int x11782) ∧ en_get 3 l_ = some (.int x11783) ∧ (0 ≤ x11783.toInt ∧ x11783.toInt ≤ 12)) ?_ (12 - 0) ⟨x11349, 0, by first | rfl | omega, hI11352, hF11353, (w_p1 (by decide) (Or.inr rfl) e11357), (w_p1 (by decide) (Or.inr rfl) e11358), (w_p1 (by decide) (Or.inr rfl) e11359), (w_e1 _ _ _), by decide⟩
        rintro n11788 l11787 g11784 ⟨x11782, x11783, hm11796, hI11785, hF11786, e11790, e11791, e11792, e11793, r11794⟩ ih11789
        refine At.enter rfl ?_
        refine r_iload_n e11793 ?_
        refine r_aload_n e11790 ?_
        refine q_getR (Sh.ref hI11785.1 kx_0 rfl) ?_
        obtain ⟨v11797, hv11797⟩ : ∃ v, gI g0 1 0 = v := ⟨_, rfl⟩
        have rv11797 := RgF.at hI0.2.1 (p := 1) (b := 0) rfl
        rw [hv11797] at rv11797
        dsimp only at rv11797
        refine q_getI (Sh.int hI11785.1 kx_1 rfl) v11797 ((hF11786.1 1 0 (by decide)).trans hv11797) ?_
        have bv11799 := q_bnd x11783
        have bv11800 := q_bnd v11797
        refine r_ics 77 rfl (fun c11798 => ?_) (fun c11798 => ?_)
        · have c11798_ : x11783.toInt ≥ v11797.toInt := en_i_ge_t c11798
          refine At.enter rfl ?_
          refine r_aload_n e11790 ?_
          refine q_getR (Sh.ref hI11785.1 kx_0 rfl) ?_
          refine r_callV 125 rfl [.ref 204] [] (Nat.le_of_ble_eq_true rfl) rfl (T_X1_runWhole_204 _ hI11785) ?_
          rintro _ _ ⟨g11801, rfl, hI11802, hF11803, rfl⟩
          refine At.stn ?_
          have hF11806 := Fr.tr hF11786 hF11803 rfl rfl
          refine At.enter rfl ?_
          refine r_aload_n e11790 ?_
          refine r_aload_n e11790 ?_
          refine q_getR (Sh.ref hI11802.1 kx_0 rfl) ?_
          refine q_getI (Sh.int hI11802.1 kx_1 rfl) v11364 (((hF11803.1 1 4 mf_X1_runWhole_204_1_4).trans (hF11786.1 1 4 (by decide))).trans hv11364) ?_
          refine q_putI (Sh.int hI11802.1 kx_0 rfl) rfl ?_
          have hI11807 := HI.wI1 hI11802 kx_0 rfl (p := 0) (b := 15) (v := v11364) rfl (by dsimp only; omega)
          have hF11808 := Fr.wI (p := 0) (b := 15) (v := v11364) hF11806 rfl
          refine r_aload_n e11790 ?_
          refine q_getR (Sh.ref hI11807.1 kx_0 rfl) ?_
          refine q_getR (Sh.ref hI11807.1 kx_204 rfl) ?_
          refine r_iconst 0 rfl ?_
          refine r_aload_n e11790 ?_
          refine q_getR (Sh.ref hI11807.1 kx_0 rfl) ?_
          refine r_iconst 0 rfl ?_
          refine r_bipush 8 rfl ?_
          have zv11809 : (0 : Int32).toInt = 0 := rfl
          have zv11810 : (0 : Int32).toInt = 0 := rfl
          have zv11811 : (8 : Int32).toInt = 8 := rfl
          refine q_cpy rfl (Nat.le_of_ble_eq_true rfl) (Sh.arr hI11807.1 ka_212) (Sh.arr hI11807.1 ka_228) ⟨by omega, by omega, by omega, by omega, by omega⟩ ?_
          have hI11812 := HI.cpy0 hI11807 ka_212 ka_228 rfl rfl ((0 : Int32).toInt.toNat) ((0 : Int32).toInt.toNat) ((8 : Int32).toInt.toNat) (by omega) (by omega)
          have hF11813 := Fr.cpy (p0 := 212) (p1 := 228) hF11808 rfl ((0 : Int32).toInt.toNat) ((0 : Int32).toInt.toNat) ((8 : Int32).toInt.toNat)
          refine r_aload_n e11790 ?_
          refine q_getR (Sh.ref hI11812.1 kx_0 rfl) ?_
          refine q_getR (Sh.ref hI11812.1 kx_204 rfl) ?_
          refine r_iconst 0 rfl ?_
          refine r_aload_n e11790 ?_
          refine q_getR (Sh.ref hI11812.1 kx_0 rfl) ?_
          refine r_iconst 0 rfl ?_
          refine r_bipush 8 rfl ?_
          have zv11814 : (0 : Int32).toInt = 0 := rfl
          have zv11815 : (0 : Int32).toInt = 0 := rfl
          have zv11816 : (8 : Int32).toInt = 8 := rfl
          refine q_cpy rfl (Nat.le_of_ble_eq_true rfl) (Sh.arr hI11812.1 ka_207) (Sh.arr hI11812.1 ka_229) ⟨by omega, by omega, by omega, by omega, by omega⟩ ?_
          have hI11817 := HI.cpy0 hI11812 ka_207 ka_229 rfl rfl ((0 : Int32).toInt.toNat) ((0 : Int32).toInt.toNat) ((8 : Int32).toInt.toNat) (by omega) (by omega)
          have hF11818 := Fr.cpy (p0 := 207) (p1 := 229) hF11813 rfl ((0 : Int32).toInt.toNat) ((0 : Int32).toInt.toNat) ((8 : Int32).toInt.toNat)
          refine r_aload_n e11790 ?_
          refine r_aload_n e11790 ?_
          refine q_getR (Sh.ref hI11817.1 kx_0 rfl) ?_
          refine r_callV 180 rfl [.ref 204] [.ref 0] (Nat.le_of_ble_eq_true rfl) rfl (T_X1_comeByNoon_204 _ hI11817) ?_
          rintro _ _ ⟨g11819, rfl, hI11820, hF11821, v11822, rfl, hr11823⟩
          refine At.sti ?_
          have hF11824 := Fr.tr hF11818 hF11821 rfl rfl
          refine At.enter rfl ?_
          refine q_inlV 183 rfl [.ref 0, .int v11822] [] (Nat.le_of_ble_eq_true rfl) rfl ?_
          refine Ev.mk rfl rfl ⟨Nat.le_of_ble_eq_true rfl, Or.inr (q_rc hI11820.1 kx_0 rfl)⟩ ?_
          show At _ none _ _ (0, [(0, .ref 0), (1, .int v11822)], [], (_, _)) _
          refine At.enter rfl ?_
          refine r_aload_n rfl ?_
          refine r_iconst 0 rfl ?_
          refine q_putI (Sh.int hI11820.1 kx_0 rfl) rfl ?_
          have hI11825 := HI.wI0 hI11820 kx_0 rfl (p := 0) (b := 17) (v := 0) rfl
          have hF11826 := Fr.wI (p := 0) (b := 17) (v := 0) hF11824 rfl
          refine r_iload_n rfl ?_
          refine q_ireti ?_
          refine At.enter rfl ?_
          refine r_ireti ?_
          exact ⟨_, rfl, hI11825, hF11826, _, rfl, trivial⟩
        · have c11798_ : x11783.toInt < v11797.toInt := en_i_ge_f c11798
          refine At.enter rfl ?_
          refine r_iload_n e11792 ?_
          refine q_inlS 81 rfl [.int x11782] [] (Nat.le_of_ble_eq_true rfl) rfl ?_
          refine Ev.mk rfl rfl ⟨Nat.le_of_ble_eq_true rfl, Or.inl rfl⟩ ?_
          show At _ none _ _ (0, [(0, .int x11782)], [], (_, _)) _
          refine At.enter rfl ?_
          refine r_iload_n rfl ?_
          refine r_sipush 1103 rfl ?_
          refine q_imulO (fun v11827 _ => ?_)
          refine r_sipush 12345 rfl ?_
          refine q_iaddO (fun v11828 _ => ?_)
          refine r_ldcw 1000003 rfl ?_
          refine q_iremO (by decide) (fun v11829 _ => ?_)
          refine q_ireti ?_
          refine At.enter rfl ?_
          refine r_istore_n _ rfl ?_
          refine r_iload_n (w_e1 _ _ _) ?_
          refine r_iconst 3 rfl ?_
          refine q_iremO (by decide) (fun v11830 _ => ?_)
          refine r_ifs 88 rfl (fun c11831 => ?_) (fun c11831 => ?_)
          · have c11831_ : v11830.toInt ≠ 0 := en_k_ne_t c11831
            refine At.enter rfl ?_
            refine q_iinc (w_p1 (by decide) (Or.inr rfl) e11793) (x11783.toInt + 1) rfl (by omega) (fun v11832 hv11832 => ?_)
            refine r_goto ?_
            have bv11833 := q_bnd v11829
            exact ih11789 (12 - v11832.toInt) _ _ ⟨v11829, v11832, by first | rfl | omega, hI11785, hF11786, (w_p1 (by decide) (Or.inr rfl) (w_p1 (by decide) (Or.inr rfl) e11790)), (w_p1 (by decide) (Or.inr rfl) (w_p1 (by decide) (Or.inr rfl) e11791)), (w_p1 (by decide) (Or.inr rfl) (w_e1 _ _ _)), (w_e1 _ _ _), by omega⟩ ⟨by omega, by omega⟩
          · have c11831_ : v11830.toInt = 0 := en_k_ne_f c11831
            refine At.enter rfl ?_
            refine r_aload_n (w_p1 (by decide) (Or.inr rfl) e11790) ?_
            refine q_getR (Sh.ref hI11785.1 kx_0 rfl) ?_
            refine q_getR (Sh.ref hI11785.1 kx_204 rfl) ?_
            refine r_iload_n (w_p1 (by decide) (Or.inr rfl) e11793) ?_
            refine r_iconst 1 rfl ?_
            refine r_aload_n (w_p1 (by decide) (Or.inr rfl) e11790) ?_
            refine q_getR (Sh.ref hI11785.1 kx_0 rfl) ?_
            refine q_getR (Sh.ref hI11785.1 kx_204 rfl) ?_
            refine r_iload_n (w_p1 (by decide) (Or.inr rfl) e11793) ?_
            obtain ⟨v11834, hv11834⟩ : ∃ v, eA g11784 205 x11783.toInt = v := ⟨_, rfl⟩
            refine q_iald (Sh.arr hI11785.1 ka_205) x11783.toInt rfl (by omega) v11834 hv11834 ?_
            refine r_iconst 1 rfl ?_
            refine q_isubO (fun v11835 _ => ?_)
            refine q_mmax rfl (Nat.le_of_ble_eq_true rfl) (fun v11836 hv11836 => ?_)
            have zv11837 : (1 : Int32).toInt = 1 := rfl
            refine q_iast (Sh.arr hI11785.1 ka_205) (x11783.toInt) rfl (by omega) ?_
            have hI11838 := HI.wA0 hI11785 ka_205 (p := 205) rfl rfl (x11783.toInt) (v11836)
            have hF11839 := Fr.wA (p := 205) (j := x11783.toInt) (v := v11836) hF11786 rfl
            refine Ar.fall 112 rfl ?_
            refine At.enter rfl ?_
            refine q_iinc (w_p1 (by decide) (Or.inr rfl) e11793) (x11783.toInt + 1) rfl (by omega) (fun v11840 hv11840 => ?_)
            refine r_goto ?_
            have bv11841 := q_bnd v11829
            exact ih11789 (12 - v11840.toInt) _ _ ⟨v11829, v11840, by first | rfl | omega, hI11838, hF11839, (w_p1 (by decide) (Or.inr rfl) (w_p1 (by decide) (Or.inr rfl) e11790)), (w_p1 (by decide) (Or.inr rfl) (w_p1 (by decide) (Or.inr rfl) e11791)), (w_p1 (by decide) (Or.inr rfl) (w_e1 _ _ _)), (w_e1 _ _ _), by omega⟩ ⟨by omega, by omega⟩
      · have c11365_ : x11350.toInt < v11364.toInt := en_i_ge_f c11365
        refine At.enter rfl ?_
        refine r_iload_n e11359 ?_
        refine q_inlS 44 rfl [.int x11349] [] (Nat.le_of_ble_eq_true rfl) rfl ?_
        refine Ev.mk rfl rfl ⟨Nat.le_of_ble_eq_true rfl, Or.inl rfl⟩ ?_
        show At _ none _ _ (0, [(0, .int x11349)], [], (_, _)) _
        refine At.enter rfl ?_
        refine r_iload_n rfl ?_
        refine r_sipush 1103 rfl ?_
        refine q_imulO (fun v11842 _ => ?_)
        refine r_sipush 12345 rfl ?_
        refine q_iaddO (fun v11843 _ => ?_)
        refine r_ldcw 1000003 rfl ?_
        refine q_iremO (by decide) (fun v11844 _ => ?_)
        refine q_ireti ?_
        refine At.enter rfl ?_
        refine r_istore_n _ rfl ?_
        refine r_aload_n (w_p1 (by decide) (Or.inr rfl) e11357) ?_
        refine q_getR (Sh.ref hI11352.1 kx_0 rfl) ?_
        refine q_getR (Sh.ref hI11352.1 kx_204 rfl) ?_
        refine r_iload_n (w_p1 (by decide) (Or.inr rfl) e11360) ?_
        refine r_iload_n (w_e1 _ _ _) ?_
        refine r_bipush 30 rfl ?_
        refine q_iremO (by decide) (fun v11845 _ => ?_)
        refine q_iast (Sh.arr hI11352.1 ka_207) (x11350.toInt) rfl (by omega) ?_
        have hI11846 := HI.wA0 hI11352 ka_207 (p := 207) rfl rfl (x11350.toInt) (v11845)
        have hF11847 := Fr.wA (p := 207) (j := x11350.toInt) (v := v11845) hF11353 rfl
        refine q_iinc (w_p1 (by decide) (Or.inr rfl) e11360) (x11350.toInt + 1) rfl (by omega) (fun v11848 hv11848 => ?_)
        refine r_goto ?_
        have bv11849 := q_bnd v11844
        exact ih11356 (8 - v11848.toInt) _ _ ⟨v11844, v11848, by first | rfl | omega, hI11846, hF11847, (w_p1 (by decide) (Or.inr rfl) (w_p1 (by decide) (Or.inr rfl) e11357)), (w_p1 (by decide) (Or.inr rfl) (w_p1 (by decide) (Or.inr rfl) e11358)), (w_p1 (by decide) (Or.inr rfl) (w_e1 _ _ _)), (w_e1 _ _ _), by omega⟩ ⟨by omega, by omega⟩
