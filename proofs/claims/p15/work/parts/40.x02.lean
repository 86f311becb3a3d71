def F_X0_next_1 : List (Nat × Nat) := []
def A_X0_next_1 : List Nat := []
set_option maxRecDepth 100000 in
set_option maxHeartbeats 4000000 in
theorem T_X0_next_1 (d : Nat) {N : Nat} {g0 : List en_E} (hI0 : HI g0) (a1 : Int32) : Ev (d + 2) 12 [.ref 1, .int a1] (g0, N) (fun w h' => ∃ g', h' = (g', N) ∧ HI g' ∧ Fr F_X0_next_1 A_X0_next_1 g0 g' ∧ ∃ r : Int32, w = some (.int r) ∧ ((-1) ≤ r.toInt ∧ r.toInt ≤ 11)) := by
  have hF0 : Fr F_X0_next_1 A_X0_next_1 g0 g0 := Fr.rf
  refine Ev.mk rfl rfl ⟨Nat.le_of_ble_eq_true rfl, Or.inr (q_rc hI0.1 kx_1 rfl)⟩ ?_
  show At _ none _ _ (0, [(0, .ref 1), (1, .int a1)], [], (_, _)) _
  refine At.enter rfl ?_
  refine r_aload_n rfl ?_
  refine r_iload_n rfl ?_
  refine q_inlV 5 rfl [.ref 1, .int a1] [] (Nat.le_of_ble_eq_true rfl) rfl ?_
  refine Ev.mk rfl rfl ⟨Nat.le_of_ble_eq_true rfl, Or.inr (q_rc hI0.1 kx_1 rfl)⟩ ?_
  show At _ none _ _ (0, [(0, .ref 1), (1, .int a1)], [], (_, _)) _
  refine At.enter rfl ?_
  refine r_iload_n rfl ?_
  refine r_ifs 4 rfl (fun c19 => ?_) (fun c19 => ?_)
  · have c19_ : a1.toInt < 0 := en_k_lt_t c19
    refine At.enter rfl ?_
    refine r_iconst 0 rfl ?_
    refine Ar.fall 17 rfl ?_
    refine At.enter rfl ?_
    refine q_iretz (by decide) ?_
    refine At.enter rfl ?_
    refine r_ift (by decide) ?_
    refine At.enter rfl ?_
    refine r_iconst (-1) rfl ?_
    refine Ar.fall 31 rfl ?_
    refine At.enter rfl ?_
    refine r_ireti ?_
    exact ⟨_, rfl, hI0, hF0, _, rfl, by decide⟩
  · have c19_ : a1.toInt ≥ 0 := en_k_lt_f c19
    refine At.enter rfl ?_
    refine r_iload_n rfl ?_
    refine r_aload_n rfl ?_
    obtain ⟨v20, hv20⟩ : ∃ v, gI g0 1 0 = v := ⟨_, rfl⟩
    have rv20 := RgF.at hI0.2.1 (p := 1) (b := 0) rfl
    rw [hv20] at rv20
    dsimp only at rv20
    refine q_getI (Sh.int hI0.1 kx_1 rfl) v20 hv20 ?_
    have bv22 := q_bnd a1
    have bv23 := q_bnd v20
    refine r_ics 12 rfl (fun c21 => ?_) (fun c21 => ?_)
    · have c21_ : a1.toInt ≥ v20.toInt := en_i_ge_t c21
      refine At.enter rfl ?_
      refine r_iconst 0 rfl ?_
      refine Ar.fall 17 rfl ?_
      refine At.enter rfl ?_
      refine q_iretz (by decide) ?_
      refine At.enter rfl ?_
      refine r_ift (by decide) ?_
      refine At.enter rfl ?_
      refine r_iconst (-1) rfl ?_
      refine Ar.fall 31 rfl ?_
      refine At.enter rfl ?_
      refine r_ireti ?_
      exact ⟨_, rfl, hI0, hF0, _, rfl, by decide⟩
    · have c21_ : a1.toInt < v20.toInt := en_i_ge_f c21
      refine At.enter rfl ?_
      refine r_iconst 1 rfl ?_
      refine r_goto ?_
      refine At.enter rfl ?_
      refine q_iretz (by decide) ?_
      refine At.enter rfl ?_
      refine r_iff 8 rfl (by decide) ?_
      refine At.enter rfl ?_
      refine r_aload_n rfl ?_
      refine r_aload_n rfl ?_
      refine q_getR (Sh.ref hI0.1 kx_1 rfl) ?_
      refine r_iload_n rfl ?_
      obtain ⟨v24, hv24⟩ : ∃ v, eA g0 2 a1.toInt = v := ⟨_, rfl⟩
      refine q_iald (Sh.arr hI0.1 ka_2) a1.toInt rfl (by omega) v24 hv24 ?_
      refine q_inlV 18 rfl [.ref 1, .int v24] [] (Nat.le_of_ble_eq_true rfl) rfl ?_
      refine Ev.mk rfl rfl ⟨Nat.le_of_ble_eq_true rfl, Or.inr (q_rc hI0.1 kx_1 rfl)⟩ ?_
      show At _ none _ _ (0, [(0, .ref 1), (1, .int v24)], [], (_, _)) _
      refine At.enter rfl ?_
      refine r_iload_n rfl ?_
      refine r_ifs 4 rfl (fun c25 => ?_) (fun c25 => ?_)
      · have c25_ : v24.toInt < 0 := en_k_lt_t c25
        refine At.enter rfl ?_
        refine r_iconst 0 rfl ?_
        refine Ar.fall 17 rfl ?_
        refine At.enter rfl ?_
        refine q_iretz (by decide) ?_
        refine At.enter rfl ?_
        refine r_ift (by decide) ?_
        refine At.enter rfl ?_
        refine r_iconst (-1) rfl ?_
        refine Ar.fall 31 rfl ?_
        refine At.enter rfl ?_
        refine r_ireti ?_
        exact ⟨_, rfl, hI0, hF0, _, rfl, by decide⟩
      · have c25_ : v24.toInt ≥ 0 := en_k_lt_f c25
        refine At.enter rfl ?_
        refine r_iload_n rfl ?_
        refine r_aload_n rfl ?_
        refine q_getI (Sh.int hI0.1 kx_1 rfl) v20 hv20 ?_
        have bv27 := q_bnd v24
        refine r_ics 12 rfl (fun c26 => ?_) (fun c26 => ?_)
        · have c26_ : v24.toInt ≥ v20.toInt := en_i_ge_t c26
          refine At.enter rfl ?_
          refine r_iconst 0 rfl ?_
          refine Ar.fall 17 rfl ?_
          refine At.enter rfl ?_
          refine q_iretz (by decide) ?_
          refine At.enter rfl ?_
          refine r_ift (by decide) ?_
          refine At.enter rfl ?_
          refine r_iconst (-1) rfl ?_
          refine Ar.fall 31 rfl ?_
          refine At.enter rfl ?_
          refine r_ireti ?_
          exact ⟨_, rfl, hI0, hF0, _, rfl, by decide⟩
        · have c26_ : v24.toInt < v20.toInt := en_i_ge_f c26
          refine At.enter rfl ?_
          refine r_iconst 1 rfl ?_
          refine r_goto ?_
          refine At.enter rfl ?_
          refine q_iretz (by decide) ?_
          refine At.enter rfl ?_
          refine r_iff 21 rfl (by decide) ?_
          refine At.enter rfl ?_
          refine r_aload_n rfl ?_
          refine q_getR (Sh.ref hI0.1 kx_1 rfl) ?_
          refine r_iload_n rfl ?_
          refine q_iald (Sh.arr hI0.1 ka_2) a1.toInt rfl (by omega) v24 hv24 ?_
          refine r_goto ?_
          refine At.enter rfl ?_
          refine r_ireti ?_
          exact ⟨_, rfl, hI0, hF0, _, rfl, by omega⟩

def F_X0_nextPast_1 : List (Nat × Nat) := []
def A_X0_nextPast_1 : List Nat := []
set_option maxRecDepth 100000 in
set_option maxHeartbeats 4000000 in
theorem T_X0_nextPast_1 (d : Nat) {N : Nat} {g0 : List en_E} (hI0 : HI g0) (a1 : Int32) (a2 : Int32) : Ev (d + 3) 13 [.ref 1, .int a1, .int a2] (g0, N) (fun w h' => ∃ g', h' = (g', N) ∧ HI g' ∧ Fr F_X0_nextPast_1 A_X0_nextPast_1 g0 g' ∧ ∃ r : Int32, w = some (.int r) ∧ ((-1) ≤ r.toInt ∧ r.toInt ≤ 11)) := by
  have hF0 : Fr F_X0_nextPast_1 A_X0_nextPast_1 g0 g0 := Fr.rf
  refine Ev.mk rfl rfl ⟨Nat.le_of_ble_eq_true rfl, Or.inr (q_rc hI0.1 kx_1 rfl)⟩ ?_
  show At _ none _ _ (0, [(0, .ref 1), (1, .int a1), (2, .int a2)], [], (_, _)) _
  refine At.enter rfl ?_
  refine r_aload_n rfl ?_
  refine r_iload_n rfl ?_
  refine r_callV 5 rfl [.ref 1, .int a1] [] (Nat.le_of_ble_eq_true rfl) rfl (T_X0_next_1 _ hI0 a1) ?_
  rintro _ _ ⟨g457, rfl, hI458, hF459, v460, rfl, hr461⟩
  refine At.sti ?_
  have hF462 := Fr.tr hF0 hF459 rfl rfl
  refine At.enter rfl ?_
  refine r_istore_n ([(3, .int v460), (0, .ref 1), (1, .int a1), (2, .int a2)]) rfl ?_
  refine r_iconst 0 rfl ?_
  refine r_istore ([(4, .int 0), (3, .int v460), (0, .ref 1), (1, .int a1), (2, .int a2)]) rfl ?_
  refine Ar.fall 9 rfl ?_
  have z_662 : (0 : Int32).toInt = 0 := rfl
  refine w_loopI (fun n_ l_ g_ => ∃ x647 : Int32, ∃ x648 : Int32, n_ = 12 - x648.toInt ∧ HI g_ ∧ Fr F_X0_nextPast_1 A_X0_nextPast_1 g0 g_ ∧ en_get 0 l_ = some (.ref 1) ∧ en_get 1 l_ = some (.int a1) ∧ en_get 2 l_ = some (.int a2) ∧ en_get 3 l_ = some (.int x647) ∧ en_get 4 l_ = some (.int x648) ∧ ((-1) ≤ x647.toInt ∧ x647.toInt ≤ 11) ∧ (0 ≤ x648.toInt ∧ x648.toInt ≤ 12)) ?_ (12 - 0) ⟨v460, 0, by first | rfl | omega, hI458, hF462, rfl, rfl, rfl, rfl, rfl, by omega, by decide⟩
  rintro n653 l652 g649 ⟨x647, x648, hm663, hI650, hF651, e655, e656, e657, e658, e659, r660, r661⟩ ih654
  refine At.enter rfl ?_
  refine r_iload e659 ?_
  refine r_bipush 12 rfl ?_
  refine r_ics 16 rfl (fun c664 => ?_) (fun c664 => ?_)
  · have c664_ : x648.toInt ≥ 12 := en_i_ge_t c664
    refine At.enter rfl ?_
    refine r_iload_n e658 ?_
    refine r_iconst (-1) rfl ?_
    refine r_ics 46 rfl (fun c665 => ?_) (fun c665 => ?_)
    · have c665_ : x647.toInt = (-1) := en_i_eq_t c665
      refine At.enter rfl ?_
      refine r_iload_n e658 ?_
      refine Ar.fall 59 rfl ?_
      refine At.enter rfl ?_
      refine r_ireti ?_
      exact ⟨_, rfl, hI650, hF651, _, rfl, by omega⟩
    · have c665_ : x647.toInt ≠ (-1) := en_i_eq_f c665
      refine At.enter rfl ?_
      refine r_iload_n e657 ?_
      refine r_iload_n e658 ?_
      refine q_inlS 51 rfl [.int a2, .int x647] [] (Nat.le_of_ble_eq_true rfl) rfl ?_
      refine Ev.mk rfl rfl ⟨Nat.le_of_ble_eq_true rfl, Or.inl rfl⟩ ?_
      show At _ none _ _ (0, [(0, .int a2), (1, .int x647)], [], (_, _)) _
      refine At.enter rfl ?_
      refine r_iload_n rfl ?_
      refine r_iload_n rfl ?_
      refine q_ishrO (fun v666 hv666 => ?_)
      refine r_iconst 1 rfl ?_
      refine q_iandO (fun v667 hv667 => ?_)
      refine r_ifs 8 rfl (fun c668 => ?_) (fun c668 => ?_)
      · have c668_ : v667.toInt = 0 := en_k_eq_t c668
        refine At.enter rfl ?_
        refine r_iconst 0 rfl ?_
        refine Ar.fall 13 rfl ?_
        refine At.enter rfl ?_
        refine q_iretz (by decide) ?_
        refine At.enter rfl ?_
        refine r_ift (by decide) ?_
        refine At.enter rfl ?_
        refine r_iload_n e658 ?_
        refine Ar.fall 59 rfl ?_
        refine At.enter rfl ?_
        refine r_ireti ?_
        exact ⟨_, rfl, hI650, hF651, _, rfl, by omega⟩
      · have c668_ : v667.toInt ≠ 0 := en_k_eq_f c668
        refine At.enter rfl ?_
        refine r_iconst 1 rfl ?_
        refine r_goto ?_
        refine At.enter rfl ?_
        refine q_iretz (by decide) ?_
        refine At.enter rfl ?_
        refine r_iff 54 rfl (by decide) ?_
        refine At.enter rfl ?_
        refine r_iconst (-1) rfl ?_
        refine r_goto ?_
        refine At.enter rfl ?_
        refine r_ireti ?_
        exact ⟨_, rfl, hI650, hF651, _, rfl, by decide⟩
  · have c664_ : x648.toInt < 12 := en_i_ge_f c664
    refine At.enter rfl ?_
    refine r_iload_n e658 ?_
    refine r_iconst (-1) rfl ?_
    refine r_ics 21 rfl (fun c669 => ?_) (fun c669 => ?_)
    · have c669_ : x647.toInt = (-1) := en_i_eq_t c669
      refine At.enter rfl ?_
      refine r_iload_n e658 ?_
      refine r_iconst (-1) rfl ?_
      refine r_ics 46 rfl (fun c670 => ?_) (fun c670 => ?_)
      · have c670_ : x647.toInt = (-1) := en_i_eq_t c670
        refine At.enter rfl ?_
        refine r_iload_n e658 ?_
        refine Ar.fall 59 rfl ?_
        refine At.enter rfl ?_
        refine r_ireti ?_
        exact ⟨_, rfl, hI650, hF651, _, rfl, by omega⟩
      · have c670_ : x647.toInt ≠ (-1) := en_i_eq_f c670
        exfalso; omega
    · have c669_ : x647.toInt ≠ (-1) := en_i_eq_f c669
      refine At.enter rfl ?_
      refine r_iload_n e657 ?_
      refine r_iload_n e658 ?_
      refine q_inlS 26 rfl [.int a2, .int x647] [] (Nat.le_of_ble_eq_true rfl) rfl ?_
      refine Ev.mk rfl rfl ⟨Nat.le_of_ble_eq_true rfl, Or.inl rfl⟩ ?_
      show At _ none _ _ (0, [(0, .int a2), (1, .int x647)], [], (_, _)) _
      refine At.enter rfl ?_
      refine r_iload_n rfl ?_
      refine r_iload_n rfl ?_
      refine q_ishrO (fun v671 hv671 => ?_)
      refine r_iconst 1 rfl ?_
      refine q_iandO (fun v672 hv672 => ?_)
      refine r_ifs 8 rfl (fun c673 => ?_) (fun c673 => ?_)
      · have c673_ : v672.toInt = 0 := en_k_eq_t c673
        refine At.enter rfl ?_
        refine r_iconst 0 rfl ?_
        refine Ar.fall 13 rfl ?_
        refine At.enter rfl ?_
        refine q_iretz (by decide) ?_
        refine At.enter rfl ?_
        refine r_ift (by decide) ?_
        refine At.enter rfl ?_
        refine r_iload_n e658 ?_
        refine r_iconst (-1) rfl ?_
        refine r_ics 46 rfl (fun c674 => ?_) (fun c674 => ?_)
        · have c674_ : x647.toInt = (-1) := en_i_eq_t c674
          exfalso; omega
        · have c674_ : x647.toInt ≠ (-1) := en_i_eq_f c674
          refine At.enter rfl ?_
          refine r_iload_n e657 ?_
          refine r_iload_n e658 ?_
          refine q_inlS 51 rfl [.int a2, .int x647] [] (Nat.le_of_ble_eq_true rfl) rfl ?_
          refine Ev.mk rfl rfl ⟨Nat.le_of_ble_eq_true rfl, Or.inl rfl⟩ ?_
          show At _ none _ _ (0, [(0, .int a2), (1, .int x647)], [], (_, _)) _
          refine At.enter rfl ?_
          refine r_iload_n rfl ?_
          refine r_iload_n rfl ?_
          refine q_ishrO (fun v675 hv675 => ?_)
          refine r_iconst 1 rfl ?_
          refine q_iandO (fun v676 hv676 => ?_)
          refine r_ifs 8 rfl (fun c677 => ?_) (fun c677 => ?_)
          · have c677_ : v676.toInt = 0 := en_k_eq_t c677
            refine At.enter rfl ?_
            refine r_iconst 0 rfl ?_
            refine Ar.fall 13 rfl ?_
            refine At.enter rfl ?_
            refine q_iretz (by decide) ?_
            refine At.enter rfl ?_
            refine r_ift (by decide) ?_
            refine At.enter rfl ?_
            refine r_iload_n e658 ?_
            refine Ar.fall 59 rfl ?_
            refine At.enter rfl ?_
            refine r_ireti ?_
            exact ⟨_, rfl, hI650, hF651, _, rfl, by omega⟩
          · have c677_ : v676.toInt ≠ 0 := en_k_eq_f c677
            refine At.enter rfl ?_
            refine r_iconst 1 rfl ?_
            refine r_goto ?_
            refine At.enter rfl ?_
            refine q_iretz (by decide) ?_
            refine At.enter rfl ?_
            refine r_iff 54 rfl (by decide) ?_
            refine At.enter rfl ?_
            refine r_iconst (-1) rfl ?_
            refine r_goto ?_
            refine At.enter rfl ?_
            refine r_ireti ?_
            exact ⟨_, rfl, hI650, hF651, _, rfl, by decide⟩
      · have c673_ : v672.toInt ≠ 0 := en_k_eq_f c673
        refine At.enter rfl ?_
        refine r_iconst 1 rfl ?_
        refine r_goto ?_
        refine At.enter rfl ?_
        refine q_iretz (by decide) ?_
        refine At.enter rfl ?_
        refine r_iff 29 rfl (by decide) ?_
        refine At.enter rfl ?_
        refine r_aload_n e655 ?_
        refine r_iload_n e658 ?_
        refine r_callV 34 rfl [.ref 1, .int x647] [] (Nat.le_of_ble_eq_true rfl) rfl (T_X0_next_1 _ hI650 x647) ?_
        rintro _ _ ⟨g678, rfl, hI679, hF680, v681, rfl, hr682⟩
        refine At.sti ?_
        have hF683 := Fr.tr hF651 hF680 rfl rfl
        refine At.enter rfl ?_
        refine r_istore_n _ rfl ?_
        refine q_iinc (w_p1 (by decide) (Or.inr rfl) e659) (x648.toInt + 1) rfl (by omega) (fun v684 hv684 => ?_)
        refine r_goto ?_
        exact ih654 (12 - v684.toInt) _ _ ⟨v681, v684, by first | rfl | omega, hI679, hF683, (w_p1 (by decide) (Or.inr rfl) (w_p1 (by decide) (Or.inr rfl) e655)), (w_p1 (by decide) (Or.inr rfl) (w_p1 (by decide) (Or.inr rfl) e656)), (w_p1 (by decide) (Or.inr rfl) (w_p1 (by decide) (Or.inr rfl) e657)), (w_p1 (by decide) (Or.inr rfl) (w_e1 _ _ _)), (w_e1 _ _ _), by omega, by omega⟩ ⟨by omega, by omega⟩
