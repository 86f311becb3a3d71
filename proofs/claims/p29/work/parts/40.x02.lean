def F_X0_next_1 : List (Nat × Nat) := []
def A_X0_next_1 : List Nat := []
set_option maxRecDepth 100000 in
set_option maxHeartbeats 4000000 in
theorem T_X0_next_1 (d : Nat) {N : Nat} {g0 : List en_E} (hI0 : HI g0) (a1 : Int32) : Ev (d + 2) 12 [.ref 1, .int a1] (g0, N) (fun w h' => ∃ g', h' = (g', N) ∧ HI g' ∧ Fr F_X0_next_1 A_X0_next_1 g0 g' ∧ ∃ r : Int32, w = some (.int r) ∧ ((-1) ≤ r.toInt ∧ r.toInt ≤ 11) ∧ (r.toInt = NX g0 a1.toInt) ∧ KSM g0 g') := by
  have hF0 : Fr F_X0_next_1 A_X0_next_1 g0 g0 := Fr.rf
  refine Ev.mk rfl rfl ⟨Nat.le_of_ble_eq_true rfl, Or.inr (q_rc hI0.1 kx_1 rfl)⟩ ?_
  show At _ none _ _ (0, [(0, .ref 1), (1, .int a1)], [], (_, _)) _
  refine At.enter rfl ?_
  refine r_aload_n rfl ?_
  refine r_iload_n rfl ?_
  refine q_inlV 5 rfl [.ref 1, .int a1] [] (Nat.le_of_ble_eq_true rfl) rfl ?_
  refine Ev.mk rfl rfl ⟨Nat.le_of_ble_eq_true rfl, Or.inr (q_rc hI0.1 kx_1 rfl)⟩ ?_
  show At _ none _ _ (0, [(0, .ref 1), (1, .int a1)], [], (_, _)) _
  refine At.enter rfl ?_
  refine r_iload_n rfl ?_
  refine r_ifs 4 rfl (fun c19 => ?_) (fun c19 => ?_)
  · have c19_ : a1.toInt < 0 := en_k_lt_t c19
    refine At.enter rfl ?_
    refine r_iconst 0 rfl ?_
    refine Ar.fall 17 rfl ?_
    refine At.enter rfl ?_
    refine q_iretz (by decide) ?_
    refine At.enter rfl ?_
    refine r_ift (by decide) ?_
    refine At.enter rfl ?_
    refine r_iconst (-1) rfl ?_
    refine Ar.fall 31 rfl ?_
    refine At.enter rfl ?_
    refine r_ireti ?_
    obtain ⟨v20, hv20⟩ : ∃ v, gI g0 1 0 = v := ⟨_, rfl⟩
    have rv20 := RgF.at hI0.2.1 (p := 1) (b := 0) rfl
    rw [hv20] at rv20
    dsimp only at rv20
    have tv20 := congrArg Int32.toInt hv20
    have zv22 : ((-1) : Int32).toInt = (-1) := rfl
    exact ⟨_, rfl, hI0, hF0, _, rfl, by decide, (by first | exact (NX.no (g := g0) (s := a1.toInt) (by omega)) | (have e := NX.yes (g := g0) (s := a1.toInt) (by omega); omega) | (have e := NX.no (g := g0) (s := a1.toInt) (by omega); omega)), KSM_rf⟩
  · have c19_ : a1.toInt ≥ 0 := en_k_lt_f c19
    refine At.enter rfl ?_
    refine r_iload_n rfl ?_
    refine r_aload_n rfl ?_
    obtain ⟨v23, hv23⟩ : ∃ v, gI g0 1 0 = v := ⟨_, rfl⟩
    have rv23 := RgF.at hI0.2.1 (p := 1) (b := 0) rfl
    rw [hv23] at rv23
    dsimp only at rv23
    refine q_getI (Sh.int hI0.1 kx_1 rfl) v23 hv23 ?_
    have bv25 := q_bnd a1
    have bv26 := q_bnd v23
    refine r_ics 12 rfl (fun c24 => ?_) (fun c24 => ?_)
    · have c24_ : a1.toInt ≥ v23.toInt := en_i_ge_t c24
      refine At.enter rfl ?_
      refine r_iconst 0 rfl ?_
      refine Ar.fall 17 rfl ?_
      refine At.enter rfl ?_
      refine q_iretz (by decide) ?_
      refine At.enter rfl ?_
      refine r_ift (by decide) ?_
      refine At.enter rfl ?_
      refine r_iconst (-1) rfl ?_
      refine Ar.fall 31 rfl ?_
      refine At.enter rfl ?_
      refine r_ireti ?_
      have x27 := HI.eqI hI0 (p := 1) (b := 0) (hv23)
      have zv28 : ((-1) : Int32).toInt = (-1) := rfl
      exact ⟨_, rfl, hI0, hF0, _, rfl, by decide, (by first | exact (NX.no (g := g0) (s := a1.toInt) (by omega)) | (have e := NX.yes (g := g0) (s := a1.toInt) (by omega); omega) | (have e := NX.no (g := g0) (s := a1.toInt) (by omega); omega)), KSM_rf⟩
    · have c24_ : a1.toInt < v23.toInt := en_i_ge_f c24
      refine At.enter rfl ?_
      refine r_iconst 1 rfl ?_
      refine r_goto ?_
      refine At.enter rfl ?_
      refine q_iretz (by decide) ?_
      refine At.enter rfl ?_
      refine r_iff 8 rfl (by decide) ?_
      refine At.enter rfl ?_
      refine r_aload_n rfl ?_
      refine r_aload_n rfl ?_
      refine q_getR (Sh.ref hI0.1 kx_1 rfl) ?_
      refine r_iload_n rfl ?_
      obtain ⟨v29, hv29⟩ : ∃ v, eA g0 2 a1.toInt = v := ⟨_, rfl⟩
      refine q_iald (Sh.arr hI0.1 ka_2) a1.toInt rfl (by omega) v29 hv29 ?_
      refine q_inlV 18 rfl [.ref 1, .int v29] [] (Nat.le_of_ble_eq_true rfl) rfl ?_
      refine Ev.mk rfl rfl ⟨Nat.le_of_ble_eq_true rfl, Or.inr (q_rc hI0.1 kx_1 rfl)⟩ ?_
      show At _ none _ _ (0, [(0, .ref 1), (1, .int v29)], [], (_, _)) _
      refine At.enter rfl ?_
      refine r_iload_n rfl ?_
      refine r_ifs 4 rfl (fun c30 => ?_) (fun c30 => ?_)
      · have c30_ : v29.toInt < 0 := en_k_lt_t c30
        refine At.enter rfl ?_
        refine r_iconst 0 rfl ?_
        refine Ar.fall 17 rfl ?_
        refine At.enter rfl ?_
        refine q_iretz (by decide) ?_
        refine At.enter rfl ?_
        refine r_ift (by decide) ?_
        refine At.enter rfl ?_
        refine r_iconst (-1) rfl ?_
        refine Ar.fall 31 rfl ?_
        refine At.enter rfl ?_
        refine r_ireti ?_
        have x31 := HI.eqI hI0 (p := 1) (b := 0) (hv23)
        have y32 := congrArg Int32.toInt hv29
        have zv33 : ((-1) : Int32).toInt = (-1) := rfl
        exact ⟨_, rfl, hI0, hF0, _, rfl, by decide, (by first | exact (NX.no (g := g0) (s := a1.toInt) (by omega)) | (have e := NX.yes (g := g0) (s := a1.toInt) (by omega); omega) | (have e := NX.no (g := g0) (s := a1.toInt) (by omega); omega)), KSM_rf⟩
      · have c30_ : v29.toInt ≥ 0 := en_k_lt_f c30
        refine At.enter rfl ?_
        refine r_iload_n rfl ?_
        refine r_aload_n rfl ?_
        refine q_getI (Sh.int hI0.1 kx_1 rfl) v23 hv23 ?_
        have bv35 := q_bnd v29
        refine r_ics 12 rfl (fun c34 => ?_) (fun c34 => ?_)
        · have c34_ : v29.toInt ≥ v23.toInt := en_i_ge_t c34
          refine At.enter rfl ?_
          refine r_iconst 0 rfl ?_
          refine Ar.fall 17 rfl ?_
          refine At.enter rfl ?_
          refine q_iretz (by decide) ?_
          refine At.enter rfl ?_
          refine r_ift (by decide) ?_
          refine At.enter rfl ?_
          refine r_iconst (-1) rfl ?_
          refine Ar.fall 31 rfl ?_
          refine At.enter rfl ?_
          refine r_ireti ?_
          have x36 := HI.eqI hI0 (p := 1) (b := 0) (hv23)
          have y37 := congrArg Int32.toInt hv29
          have zv38 : ((-1) : Int32).toInt = (-1) := rfl
          exact ⟨_, rfl, hI0, hF0, _, rfl, by decide, (by first | exact (NX.no (g := g0) (s := a1.toInt) (by omega)) | (have e := NX.yes (g := g0) (s := a1.toInt) (by omega); omega) | (have e := NX.no (g := g0) (s := a1.toInt) (by omega); omega)), KSM_rf⟩
        · have c34_ : v29.toInt < v23.toInt := en_i_ge_f c34
          refine At.enter rfl ?_
          refine r_iconst 1 rfl ?_
          refine r_goto ?_
          refine At.enter rfl ?_
          refine q_iretz (by decide) ?_
          refine At.enter rfl ?_
          refine r_iff 21 rfl (by decide) ?_
          refine At.enter rfl ?_
          refine r_aload_n rfl ?_
          refine q_getR (Sh.ref hI0.1 kx_1 rfl) ?_
          refine r_iload_n rfl ?_
          refine q_iald (Sh.arr hI0.1 ka_2) a1.toInt rfl (by omega) v29 hv29 ?_
          refine r_goto ?_
          refine At.enter rfl ?_
          refine r_ireti ?_
          have x39 := HI.eqI hI0 (p := 1) (b := 0) (hv23)
          have y40 := congrArg Int32.toInt hv29
          exact ⟨_, rfl, hI0, hF0, _, rfl, by omega, (by first | exact (NX.no (g := g0) (s := a1.toInt) (by omega)) | (have e := NX.yes (g := g0) (s := a1.toInt) (by omega); omega) | (have e := NX.no (g := g0) (s := a1.toInt) (by omega); omega)), KSM_rf⟩

def F_X0_nextPast_1 : List (Nat × Nat) := []
def A_X0_nextPast_1 : List Nat := []
set_option maxRecDepth 100000 in
set_option maxHeartbeats 4000000 in
theorem T_X0_nextPast_1 (d : Nat) {N : Nat} {g0 : List en_E} (hI0 : HI g0) (a1 : Int32) (a2 : Int32) : Ev (d + 3) 13 [.ref 1, .int a1, .int a2] (g0, N) (fun w h' => ∃ g', h' = (g', N) ∧ HI g' ∧ Fr F_X0_nextPast_1 A_X0_nextPast_1 g0 g' ∧ ∃ r : Int32, w = some (.int r) ∧ ((-1) ≤ r.toInt ∧ r.toInt ≤ 11)) := by
  have hF0 : Fr F_X0_nextPast_1 A_X0_nextPast_1 g0 g0 := Fr.rf
  refine Ev.mk rfl rfl ⟨Nat.le_of_ble_eq_true rfl, Or.inr (q_rc hI0.1 kx_1 rfl)⟩ ?_
  show At _ none _ _ (0, [(0, .ref 1), (1, .int a1), (2, .int a2)], [], (_, _)) _
  refine At.enter rfl ?_
  refine r_aload_n rfl ?_
  refine r_iload_n rfl ?_
  refine r_callV 5 rfl [.ref 1, .int a1] [] (Nat.le_of_ble_eq_true rfl) rfl (T_X0_next_1 _ hI0 a1) ?_
  rintro _ _ ⟨g501, rfl, hI502, hF503, v504, rfl, hr505⟩
  refine At.sti ?_
  have ks508 := hr505.2.2
  have hr507 : _ ∧ _ := ⟨hr505.1, hr505.2.1⟩
  have hF506 := Fr.tr hF0 hF503 rfl rfl
  refine At.enter rfl ?_
  refine r_istore_n ([(3, .int v504), (0, .ref 1), (1, .int a1), (2, .int a2)]) rfl ?_
  refine r_iconst 0 rfl ?_
  refine r_istore ([(4, .int 0), (3, .int v504), (0, .ref 1), (1, .int a1), (2, .int a2)]) rfl ?_
  refine Ar.fall 9 rfl ?_
  have z_726 : (0 : Int32).toInt = 0 := rfl
  refine w_loopI (fun n_ l_ g_ => ∃ x711 : Int32, ∃ x712 : Int32, n_ = 12 - x712.toInt ∧ HI g_ ∧ Fr F_X0_nextPast_1 A_X0_nextPast_1 g0 g_ ∧ en_get 0 l_ = some (.ref 1) ∧ en_get 1 l_ = some (.int a1) ∧ en_get 2 l_ = some (.int a2) ∧ en_get 3 l_ = some (.int x711) ∧ en_get 4 l_ = some (.int x712) ∧ ((-1) ≤ x711.toInt ∧ x711.toInt ≤ 11) ∧ (0 ≤ x712.toInt ∧ x712.toInt ≤ 12)) ?_ (12 - 0) ⟨v504, 0, by first | rfl | omega, hI502, hF506, rfl, rfl, rfl, rfl, rfl, by omega, by decide⟩
  rintro n717 l716 g713 ⟨x711, x712, hm727, hI714, hF715, e719, e720, e721, e722, e723, r724, r725⟩ ih718
  refine At.enter rfl ?_
  refine r_iload e723 ?_
  refine r_bipush 12 rfl ?_
  refine r_ics 16 rfl (fun c728 => ?_) (fun c728 => ?_)
  · have c728_ : x712.toInt ≥ 12 := en_i_ge_t c728
    refine At.enter rfl ?_
    refine r_iload_n e722 ?_
    refine r_iconst (-1) rfl ?_
    refine r_ics 46 rfl (fun c729 => ?_) (fun c729 => ?_)
    · have c729_ : x711.toInt = (-1) := en_i_eq_t c729
      refine At.enter rfl ?_
      refine r_iload_n e722 ?_
      refine Ar.fall 59 rfl ?_
      refine At.enter rfl ?_
      refine r_ireti ?_
      exact ⟨_, rfl, hI714, hF715, _, rfl, by omega⟩
    · have c729_ : x711.toInt ≠ (-1) := en_i_eq_f c729
      refine At.enter rfl ?_
      refine r_iload_n e721 ?_
      refine r_iload_n e722 ?_
      refine q_inlS 51 rfl [.int a2, .int x711] [] (Nat.le_of_ble_eq_true rfl) rfl ?_
      refine Ev.mk rfl rfl ⟨Nat.le_of_ble_eq_true rfl, Or.inl rfl⟩ ?_
      show At _ none _ _ (0, [(0, .int a2), (1, .int x711)], [], (_, _)) _
      refine At.enter rfl ?_
      refine r_iload_n rfl ?_
      refine r_iload_n rfl ?_
      refine q_ishrO (fun v730 hv730 => ?_)
      refine r_iconst 1 rfl ?_
      refine q_iandO (fun v731 hv731 => ?_)
      refine r_ifs 8 rfl (fun c732 => ?_) (fun c732 => ?_)
      · have c732_ : v731.toInt = 0 := en_k_eq_t c732
        refine At.enter rfl ?_
        refine r_iconst 0 rfl ?_
        refine Ar.fall 13 rfl ?_
        refine At.enter rfl ?_
        refine q_iretz (by decide) ?_
        refine At.enter rfl ?_
        refine r_ift (by decide) ?_
        refine At.enter rfl ?_
        refine r_iload_n e722 ?_
        refine Ar.fall 59 rfl ?_
        refine At.enter rfl ?_
        refine r_ireti ?_
        exact ⟨_, rfl, hI714, hF715, _, rfl, by omega⟩
      · have c732_ : v731.toInt ≠ 0 := en_k_eq_f c732
        refine At.enter rfl ?_
        refine r_iconst 1 rfl ?_
        refine r_goto ?_
        refine At.enter rfl ?_
        refine q_iretz (by decide) ?_
        refine At.enter rfl ?_
        refine r_iff 54 rfl (by decide) ?_
        refine At.enter rfl ?_
        refine r_iconst (-1) rfl ?_
        refine r_goto ?_
        refine At.enter rfl ?_
        refine r_ireti ?_
        exact ⟨_, rfl, hI714, hF715, _, rfl, by decide⟩
  · have c728_ : x712.toInt < 12 := en_i_ge_f c728
    refine At.enter rfl ?_
    refine r_iload_n e722 ?_
    refine r_iconst (-1) rfl ?_
    refine r_ics 21 rfl (fun c733 => ?_) (fun c733 => ?_)
    · have c733_ : x711.toInt = (-1) := en_i_eq_t c733
      refine At.enter rfl ?_
      refine r_iload_n e722 ?_
      refine r_iconst (-1) rfl ?_
      refine r_ics 46 rfl (fun c734 => ?_) (fun c734 => ?_)
      · have c734_ : x711.toInt = (-1) := en_i_eq_t c734
        refine At.enter rfl ?_
        refine r_iload_n e722 ?_
        refine Ar.fall 59 rfl ?_
        refine At.enter rfl ?_
        refine r_ireti ?_
        exact ⟨_, rfl, hI714, hF715, _, rfl, by omega⟩
      · have c734_ : x711.toInt ≠ (-1) := en_i_eq_f c734
        exfalso; omega
    · have c733_ : x711.toInt ≠ (-1) := en_i_eq_f c733
      refine At.enter rfl ?_
      refine r_iload_n e721 ?_
      refine r_iload_n e722 ?_
      refine q_inlS 26 rfl [.int a2, .int x711] [] (Nat.le_of_ble_eq_true rfl) rfl ?_
      refine Ev.mk rfl rfl ⟨Nat.le_of_ble_eq_true rfl, Or.inl rfl⟩ ?_
      show At _ none _ _ (0, [(0, .int a2), (1, .int x711)], [], (_, _)) _
      refine At.enter rfl ?_
      refine r_iload_n rfl ?_
      refine r_iload_n rfl ?_
      refine q_ishrO (fun v735 hv735 => ?_)
      refine r_iconst 1 rfl ?_
      refine q_iandO (fun v736 hv736 => ?_)
      refine r_ifs 8 rfl (fun c737 => ?_) (fun c737 => ?_)
      · have c737_ : v736.toInt = 0 := en_k_eq_t c737
        refine At.enter rfl ?_
        refine r_iconst 0 rfl ?_
        refine Ar.fall 13 rfl ?_
        refine At.enter rfl ?_
        refine q_iretz (by decide) ?_
        refine At.enter rfl ?_
        refine r_ift (by decide) ?_
        refine At.enter rfl ?_
        refine r_iload_n e722 ?_
        refine r_iconst (-1) rfl ?_
        refine r_ics 46 rfl (fun c738 => ?_) (fun c738 => ?_)
        · have c738_ : x711.toInt = (-1) := en_i_eq_t c738
          exfalso; omega
        · have c738_ : x711.toInt ≠ (-1) := en_i_eq_f c738
          refine At.enter rfl ?_
          refine r_iload_n e721 ?_
          refine r_iload_n e722 ?_
          refine q_inlS 51 rfl [.int a2, .int x711] [] (Nat.le_of_ble_eq_true rfl) rfl ?_
          refine Ev.mk rfl rfl ⟨Nat.le_of_ble_eq_true rfl, Or.inl rfl⟩ ?_
          show At _ none _ _ (0, [(0, .int a2), (1, .int x711)], [], (_, _)) _
          refine At.enter rfl ?_
          refine r_iload_n rfl ?_
          refine r_iload_n rfl ?_
          refine q_ishrO (fun v739 hv739 => ?_)
          refine r_iconst 1 rfl ?_
          refine q_iandO (fun v740 hv740 => ?_)
          refine r_ifs 8 rfl (fun c741 => ?_) (fun c741 => ?_)
          · have c741_ : v740.toInt = 0 := en_k_eq_t c741
            refine At.enter rfl ?_
            refine r_iconst 0 rfl ?_
            refine Ar.fall 13 rfl ?_
            refine At.enter rfl ?_
            refine q_iretz (by decide) ?_
            refine At.enter rfl ?_
            refine r_ift (by decide) ?_
            refine At.enter rfl ?_
            refine r_iload_n e722 ?_
            refine Ar.fall 59 rfl ?_
            refine At.enter rfl ?_
            refine r_ireti ?_
            exact ⟨_, rfl, hI714, hF715, _, rfl, by omega⟩
          · have c741_ : v740.toInt ≠ 0 := en_k_eq_f c741
            refine At.enter rfl ?_
            refine r_iconst 1 rfl ?_
            refine r_goto ?_
            refine At.enter rfl ?_
            refine q_iretz (by decide) ?_
            refine At.enter rfl ?_
            refine r_iff 54 rfl (by decide) ?_
            refine At.enter rfl ?_
            refine r_iconst (-1) rfl ?_
            refine r_goto ?_
            refine At.enter rfl ?_
            refine r_ireti ?_
            exact ⟨_, rfl, hI714, hF715, _, rfl, by decide⟩
      · have c737_ : v736.toInt ≠ 0 := en_k_eq_f c737
        refine At.enter rfl ?_
        refine r_iconst 1 rfl ?_
        refine r_goto ?_
        refine At.enter rfl ?_
        refine q_iretz (by decide) ?_
        refine At.enter rfl ?_
        refine r_iff 29 rfl (by decide) ?_
        refine At.enter rfl ?_
        refine r_aload_n e719 ?_
        refine r_iload_n e722 ?_
        refine r_callV 34 rfl [.ref 1, .int x711] [] (Nat.le_of_ble_eq_true rfl) rfl (T_X0_next_1 _ hI714 x711) ?_
        rintro _ _ ⟨g742, rfl, hI743, hF744, v745, rfl, hr746⟩
        refine At.sti ?_
        have ks749 := hr746.2.2
        have hr748 : _ ∧ _ := ⟨hr746.1, hr746.2.1⟩
        have hF747 := Fr.tr hF715 hF744 rfl rfl
        refine At.enter rfl ?_
        refine r_istore_n _ rfl ?_
        refine q_iinc (w_p1 (by decide) (Or.inr rfl) e723) (x712.toInt + 1) rfl (by omega) (fun v750 hv750 => ?_)
        refine r_goto ?_
        exact ih718 (12 - v750.toInt) _ _ ⟨v745, v750, by first | rfl | omega, hI743, hF747, (w_p1 (by decide) (Or.inr rfl) (w_p1 (by decide) (Or.inr rfl) e719)), (w_p1 (by decide) (Or.inr rfl) (w_p1 (by decide) (Or.inr rfl) e720)), (w_p1 (by decide) (Or.inr rfl) (w_p1 (by decide) (Or.inr rfl) e721)), (w_p1 (by decide) (Or.inr rfl) (w_e1 _ _ _)), (w_e1 _ _ _), by omega, by omega⟩ ⟨by omega, by omega⟩
