def F_X10_status_0 : List (Nat × Nat) := []
def A_X10_status_0 : List Nat := []
set_option maxRecDepth 100000 in
set_option maxHeartbeats 4000000 in
theorem T_X10_status_0 (d : Nat) {N : Nat} {g0 : List en_E} (hI0 : HI g0) : Ev (d + 1) 143 [.ref 0] (g0, N) (fun w h' => ∃ g', h' = (g', N) ∧ HI g' ∧ Fr F_X10_status_0 A_X10_status_0 g0 g' ∧ ∃ r : Int32, w = some (.int r) ∧ True) := by
  have hF0 : Fr F_X10_status_0 A_X10_status_0 g0 g0 := Fr.rf
  refine Ev.mk rfl rfl ⟨Nat.le_of_ble_eq_true rfl, Or.inr (q_rc hI0.1 kx_0 rfl)⟩ ?_
  show At _ none _ _ (0, [(0, .ref 0)], [], (_, _)) _
  refine At.enter rfl ?_
  refine r_aload_n rfl ?_
  obtain ⟨v3, hv3⟩ : ∃ v, gI g0 0 17 = v := ⟨_, rfl⟩
  refine q_getI (Sh.int hI0.1 kx_0 rfl) v3 hv3 ?_
  refine r_ireti ?_
  exact ⟨_, rfl, hI0, hF0, _, rfl, trivial⟩

def F_X5_kindOf : List (Nat × Nat) := []
def A_X5_kindOf : List Nat := []
set_option maxRecDepth 100000 in
set_option maxHeartbeats 4000000 in
theorem T_X5_kindOf (d : Nat) {N : Nat} {g0 : List en_E} (hI0 : HI g0) (a0 : Int32) : Ev (d + 1) 74 [.int a0] (g0, N) (fun w h' => ∃ g', h' = (g', N) ∧ HI g' ∧ Fr F_X5_kindOf A_X5_kindOf g0 g' ∧ ∃ r : Int32, w = some (.int r) ∧ (0 ≤ r.toInt ∧ r.toInt ≤ 3)) := by
  have hF0 : Fr F_X5_kindOf A_X5_kindOf g0 g0 := Fr.rf
  refine Ev.mk rfl rfl ⟨Nat.le_of_ble_eq_true rfl, Or.inl rfl⟩ ?_
  show At _ none _ _ (0, [(0, .int a0)], [], (_, _)) _
  refine At.enter rfl ?_
  refine r_iload_n rfl ?_
  refine r_iconst (-1) rfl ?_
  refine r_ics 5 rfl (fun c15 => ?_) (fun c15 => ?_)
  · have c15_ : a0.toInt ≠ (-1) := en_i_ne_t c15
    refine At.enter rfl ?_
    refine r_iload_n rfl ?_
    refine r_bipush 97 rfl ?_
    refine r_ics 13 rfl (fun c16 => ?_) (fun c16 => ?_)
    · have c16_ : a0.toInt < 97 := en_i_lt_t c16
      refine At.enter rfl ?_
      refine r_iload_n rfl ?_
      refine r_bipush 48 rfl ?_
      refine r_ics 29 rfl (fun c17 => ?_) (fun c17 => ?_)
      · have c17_ : a0.toInt < 48 := en_i_lt_t c17
        refine At.enter rfl ?_
        refine r_iconst 2 rfl ?_
        refine Ar.fall 40 rfl ?_
        refine At.enter rfl ?_
        refine r_ireti ?_
        exact ⟨_, rfl, hI0, hF0, _, rfl, by decide⟩
      · have c17_ : a0.toInt ≥ 48 := en_i_lt_f c17
        refine At.enter rfl ?_
        refine r_iload_n rfl ?_
        refine r_bipush 57 rfl ?_
        refine r_ics 35 rfl (fun c18 => ?_) (fun c18 => ?_)
        · have c18_ : a0.toInt > 57 := en_i_gt_t c18
          refine At.enter rfl ?_
          refine r_iconst 2 rfl ?_
          refine Ar.fall 40 rfl ?_
          refine At.enter rfl ?_
          refine r_ireti ?_
          exact ⟨_, rfl, hI0, hF0, _, rfl, by decide⟩
        · have c18_ : a0.toInt ≤ 57 := en_i_gt_f c18
          refine At.enter rfl ?_
          refine r_iconst 1 rfl ?_
          refine r_goto ?_
          refine At.enter rfl ?_
          refine r_ireti ?_
          exact ⟨_, rfl, hI0, hF0, _, rfl, by decide⟩
    · have c16_ : a0.toInt ≥ 97 := en_i_lt_f c16
      refine At.enter rfl ?_
      refine r_iload_n rfl ?_
      refine r_bipush 122 rfl ?_
      refine r_ics 19 rfl (fun c19 => ?_) (fun c19 => ?_)
      · have c19_ : a0.toInt > 122 := en_i_gt_t c19
        refine At.enter rfl ?_
        refine r_iload_n rfl ?_
        refine r_bipush 48 rfl ?_
        refine r_ics 29 rfl (fun c20 => ?_) (fun c20 => ?_)
        · have c20_ : a0.toInt < 48 := en_i_lt_t c20
          exfalso; omega
        · have c20_ : a0.toInt ≥ 48 := en_i_lt_f c20
          refine At.enter rfl ?_
          refine r_iload_n rfl ?_
          refine r_bipush 57 rfl ?_
          refine r_ics 35 rfl (fun c21 => ?_) (fun c21 => ?_)
          · have c21_ : a0.toInt > 57 := en_i_gt_t c21
            refine At.enter rfl ?_
            refine r_iconst 2 rfl ?_
            refine Ar.fall 40 rfl ?_
            refine At.enter rfl ?_
            refine r_ireti ?_
            exact ⟨_, rfl, hI0, hF0, _, rfl, by decide⟩
          · have c21_ : a0.toInt ≤ 57 := en_i_gt_f c21
            exfalso; omega
      · have c19_ : a0.toInt ≤ 122 := en_i_gt_f c19
        refine At.enter rfl ?_
        refine r_iconst 0 rfl ?_
        refine r_goto ?_
        refine At.enter rfl ?_
        refine r_ireti ?_
        exact ⟨_, rfl, hI0, hF0, _, rfl, by decide⟩
  · have c15_ : a0.toInt = (-1) := en_i_ne_f c15
    refine At.enter rfl ?_
    refine r_iconst 3 rfl ?_
    refine r_ireti ?_
    exact ⟨_, rfl, hI0, hF0, _, rfl, by decide⟩

def F_X5_isSingle_176 : List (Nat × Nat) := []
def A_X5_isSingle_176 : List Nat := []
set_option maxRecDepth 100000 in
set_option maxHeartbeats 4000000 in
theorem T_X5_isSingle_176 (d : Nat) {N : Nat} {g0 : List en_E} (hI0 : HI g0) (a1 : Int32) : Ev (d + 2) 75 [.ref 176, .int a1] (g0, N) (fun w h' => ∃ g', h' = (g', N) ∧ HI g' ∧ Fr F_X5_isSingle_176 A_X5_isSingle_176 g0 g' ∧ ∃ r : Int32, w = some (.int r) ∧ (0 ≤ r.toInt ∧ r.toInt ≤ 1)) := by
  have hF0 : Fr F_X5_isSingle_176 A_X5_isSingle_176 g0 g0 := Fr.rf
  refine Ev.mk rfl rfl ⟨Nat.le_of_ble_eq_true rfl, Or.inr (q_rc hI0.1 kx_176 rfl)⟩ ?_
  show At _ none _ _ (0, [(0, .ref 176), (1, .int a1)], [], (_, _)) _
  refine At.enter rfl ?_
  refine r_aload_n rfl ?_
  obtain ⟨v21, hv21⟩ : ∃ v, gI g0 176 3 = v := ⟨_, rfl⟩
  refine q_getI (Sh.int hI0.1 kx_176 rfl) v21 hv21 ?_
  refine r_iconst 2 rfl ?_
  refine r_ics 8 rfl (fun c22 => ?_) (fun c22 => ?_)
  · have c22_ : v21.toInt ≠ 2 := en_i_ne_t c22
    refine At.enter rfl ?_
    refine r_iconst 0 rfl ?_
    refine Ar.fall 28 rfl ?_
    refine At.enter rfl ?_
    refine r_iretz (by decide) ?_
    exact ⟨_, rfl, hI0, hF0, _, rfl, by decide⟩
  · have c22_ : v21.toInt = 2 := en_i_ne_f c22
    refine At.enter rfl ?_
    refine r_aload_n rfl ?_
    refine q_getR (Sh.ref hI0.1 kx_176 rfl) ?_
    refine r_aload_n rfl ?_
    obtain ⟨v23, hv23⟩ : ∃ v, gI g0 176 4 = v := ⟨_, rfl⟩
    have rv23 := RgF.at hI0.2.1 (p := 176) (b := 4) rfl
    rw [hv23] at rv23
    dsimp only at rv23
    refine q_getI (Sh.int hI0.1 kx_176 rfl) v23 hv23 ?_
    refine r_callV 19 rfl [.ref 174, .int v23] [] (Nat.le_of_ble_eq_true rfl) rfl (T_X8_at_174 _ hI0 v23) ?_
    rintro _ _ ⟨g24, rfl, hI25, hF26, v27, rfl, hr28⟩
    refine At.sti ?_
    have hF29 := Fr.tr hF0 hF26 rfl rfl
    refine At.enter rfl ?_
    refine r_iload_n rfl ?_
    refine r_ics 23 rfl (fun c30 => ?_) (fun c30 => ?_)
    · have c30_ : v27.toInt ≠ a1.toInt := en_i_ne_t c30
      refine At.enter rfl ?_
      refine r_iconst 0 rfl ?_
      refine Ar.fall 28 rfl ?_
      refine At.enter rfl ?_
      refine r_iretz (by decide) ?_
      exact ⟨_, rfl, hI25, hF29, _, rfl, by decide⟩
    · have c30_ : v27.toInt = a1.toInt := en_i_ne_f c30
      refine At.enter rfl ?_
      refine r_iconst 1 rfl ?_
      refine r_goto ?_
      refine At.enter rfl ?_
      refine r_iretz (by decide) ?_
      exact ⟨_, rfl, hI25, hF29, _, rfl, by decide⟩

def F_X5_step_176 : List (Nat × Nat) := [(176, 3), (176, 4), (176, 5)]
def A_X5_step_176 : List Nat := []
set_option maxRecDepth 100000 in
set_option maxHeartbeats 4000000 in
theorem T_X5_step_176 (d : Nat) {N : Nat} {g0 : List en_E} (hI0 : HI g0) : Ev (d + 2) 73 [.ref 176] (g0, N) (fun w h' => ∃ g', h' = (g', N) ∧ HI g' ∧ Fr F_X5_step_176 A_X5_step_176 g0 g' ∧ w = none) := by
  have hF0 : Fr F_X5_step_176 A_X5_step_176 g0 g0 := Fr.rf
  refine Ev.mk rfl rfl ⟨Nat.le_of_ble_eq_true rfl, Or.inr (q_rc hI0.1 kx_176 rfl)⟩ ?_
  show At _ none _ _ (0, [(0, .ref 176)], [], (_, _)) _
  refine At.enter rfl ?_
  refine r_aload_n rfl ?_
  obtain ⟨v1337, hv1337⟩ : ∃ v, gI g0 176 5 = v := ⟨_, rfl⟩
  have rv1337 := RgF.at hI0.2.1 (p := 176) (b := 5) rfl
  rw [hv1337] at rv1337
  dsimp only at rv1337
  refine q_getI (Sh.int hI0.1 kx_176 rfl) v1337 hv1337 ?_
  refine r_istore_n ([(1, .int v1337), (0, .ref 176)]) rfl ?_
  refine Ar.fall 5 rfl ?_
  refine w_loopI (fun n_ l_ g_ => ∃ x1658 : Int32, n_ = 400 - x1658.toInt ∧ HI g_ ∧ Fr F_X5_step_176 A_X5_step_176 g0 g_ ∧ en_get 0 l_ = some (.ref 176) ∧ en_get 1 l_ = some (.int x1658) ∧ (0 ≤ x1658.toInt ∧ x1658.toInt ≤ 400)) ?_ (400 - v1337.toInt) ⟨v1337, by first | rfl | omega, hI0, hF0, rfl, rfl, by omega⟩
  rintro n1663 l1662 g1659 ⟨x1658, hm1668, hI1660, hF1661, e1665, e1666, r1667⟩ ih1664
  refine At.enter rfl ?_
  refine r_iload_n e1666 ?_
  refine r_aload_n e1665 ?_
  refine q_getR (Sh.ref hI1660.1 kx_176 rfl) ?_
  obtain ⟨v1669, hv1669⟩ : ∃ v, gI g0 174 1 = v := ⟨_, rfl⟩
  have rv1669 := RgF.at hI0.2.1 (p := 174) (b := 1) rfl
  rw [hv1669] at rv1669
  dsimp only at rv1669
  refine q_getI (Sh.int hI1660.1 kx_174 rfl) v1669 ((hF1661.1 174 1 (by decide)).trans hv1669) ?_
  have bv1671 := q_bnd x1658
  have bv1672 := q_bnd v1669
  refine r_ics 16 rfl (fun c1670 => ?_) (fun c1670 => ?_)
  · have c1670_ : x1658.toInt ≥ v1669.toInt := en_i_ge_t c1670
    refine At.enter rfl ?_
    refine r_aload_n e1665 ?_
    refine r_iload_n e1666 ?_
    refine q_putI (Sh.int hI1660.1 kx_176 rfl) rfl ?_
    have hI1673 := HI.wI1 hI1660 kx_176 rfl (p := 176) (b := 4) (v := x1658) rfl (by dsimp only; omega)
    have hF1674 := Fr.wI (p := 176) (b := 4) (v := x1658) hF1661 rfl
    refine r_aload_n e1665 ?_
    refine r_aload_n e1665 ?_
    refine q_getR (Sh.ref hI1673.1 kx_176 rfl) ?_
    refine r_iload_n e1666 ?_
    refine r_callV 49 rfl [.ref 174, .int x1658] [.ref 176] (Nat.le_of_ble_eq_true rfl) rfl (T_X8_at_174 _ hI1673 x1658) ?_
    rintro _ _ ⟨g1675, rfl, hI1676, hF1677, v1678, rfl, hr1679⟩
    refine At.sti ?_
    have hF1680 := Fr.tr hF1674 hF1677 rfl rfl
    refine At.enter rfl ?_
    refine r_callS 52 rfl [.int v1678] [.ref 176] (Nat.le_of_ble_eq_true rfl) rfl (T_X5_kindOf _ hI1676 v1678) ?_
    rintro _ _ ⟨g1681, rfl, hI1682, hF1683, v1684, rfl, hr1685⟩
    refine At.sti ?_
    have hF1686 := Fr.tr hF1680 hF1683 rfl rfl
    refine At.enter rfl ?_
    refine q_putI (Sh.int hI1682.1 kx_176 rfl) rfl ?_
    have hI1687 := HI.wI0 hI1682 kx_176 rfl (p := 176) (b := 3) (v := v1684) rfl
    have hF1688 := Fr.wI (p := 176) (b := 3) (v := v1684) hF1686 rfl
    refine r_aload_n e1665 ?_
    refine q_getI (Sh.int hI1687.1 kx_176 rfl) v1684 (gI_sI_eq hI1682.1 kx_176 rfl _) ?_
    refine r_iconst 3 rfl ?_
    refine r_ics 63 rfl (fun c1689 => ?_) (fun c1689 => ?_)
    · have c1689_ : v1684.toInt = 3 := en_i_eq_t c1689
      refine w_loopI (fun n_ l_ g_ => ∃ x1716 : Int32, n_ = 400 - x1716.toInt ∧ HI g_ ∧ Fr F_X5_step_176 A_X5_step_176 g0 g_ ∧ en_get 0 l_ = some (.ref 176) ∧ en_get 1 l_ = some (.int x1716) ∧ (0 ≤ x1716.toInt ∧ x1716.toInt ≤ 400)) ?_ (400 - x1658.toInt) ⟨x1658, by first | rfl | omega, hI1687, hF1688, e1665, e1666, by omega⟩
      rintro n1721 l1720 g1717 ⟨x1716, hm1726, hI1718, hF1719, e1723, e1724, r1725⟩ ih1722
      refine At.enter rfl ?_
      refine r_iload_n e1724 ?_
      refine r_aload_n e1723 ?_
      refine q_getR (Sh.ref hI1718.1 kx_176 rfl) ?_
      refine q_getI (Sh.int hI1718.1 kx_174 rfl) v1669 ((hF1719.1 174 1 (by decide)).trans hv1669) ?_
      have bv1728 := q_bnd x1716
      refine r_ics 77 rfl (fun c1727 => ?_) (fun c1727 => ?_)
      · have c1727_ : x1716.toInt ≥ v1669.toInt := en_i_ge_t c1727
        refine At.enter rfl ?_
        refine r_aload_n e1723 ?_
        refine r_iload_n e1724 ?_
        refine q_putI (Sh.int hI1718.1 kx_176 rfl) rfl ?_
        have hI1729 := HI.wI1 hI1718 kx_176 rfl (p := 176) (b := 5) (v := x1716) rfl (by dsimp only; omega)
        have hF1730 := Fr.wI (p := 176) (b := 5) (v := x1716) hF1719 rfl
        refine r_vret ?_
        exact ⟨_, rfl, hI1729, hF1730, rfl⟩
      · have c1727_ : x1716.toInt < v1669.toInt := en_i_ge_f c1727
        refine At.enter rfl ?_
        refine r_aload_n e1723 ?_
        obtain ⟨v1731, hv1731⟩ : ∃ v, gI g1717 176 3 = v := ⟨_, rfl⟩
        refine q_getI (Sh.int hI1718.1 kx_176 rfl) v1731 hv1731 ?_
        refine r_iconst 2 rfl ?_
        refine r_ics 85 rfl (fun c1732 => ?_) (fun c1732 => ?_)
        · have c1732_ : v1731.toInt = 2 := en_i_eq_t c1732
          refine At.enter rfl ?_
          refine r_aload_n e1723 ?_
          refine r_iload_n e1724 ?_
          refine q_putI (Sh.int hI1718.1 kx_176 rfl) rfl ?_
          have hI1733 := HI.wI1 hI1718 kx_176 rfl (p := 176) (b := 5) (v := x1716) rfl (by dsimp only; omega)
          have hF1734 := Fr.wI (p := 176) (b := 5) (v := x1716) hF1719 rfl
          refine r_vret ?_
          exact ⟨_, rfl, hI1733, hF1734, rfl⟩
        · have c1732_ : v1731.toInt ≠ 2 := en_i_eq_f c1732
          refine At.enter rfl ?_
          refine r_aload_n e1723 ?_
          refine q_getR (Sh.ref hI1718.1 kx_176 rfl) ?_
          refine r_iload_n e1724 ?_
          refine r_callV 93 rfl [.ref 174, .int x1716] [] (Nat.le_of_ble_eq_true rfl) rfl (T_X8_at_174 _ hI1718 x1716) ?_
          rintro _ _ ⟨g1735, rfl, hI1736, hF1737, v1738, rfl, hr1739⟩
          refine At.sti ?_
          have hF1740 := Fr.tr hF1719 hF1737 rfl rfl
          refine At.enter rfl ?_
          refine r_callS 96 rfl [.int v1738] [] (Nat.le_of_ble_eq_true rfl) rfl (T_X5_kindOf _ hI1736 v1738) ?_
          rintro _ _ ⟨g1741, rfl, hI1742, hF1743, v1744, rfl, hr1745⟩
          refine At.sti ?_
          have hF1746 := Fr.tr hF1740 hF1743 rfl rfl
          refine At.enter rfl ?_
          refine r_aload_n e1723 ?_
          refine q_getI (Sh.int hI1742.1 kx_176 rfl) v1731 (((hF1743.1 176 3 (by decide)).trans (hF1737.1 176 3 (by decide))).trans hv1731) ?_
          refine r_ics 103 rfl (fun c1747 => ?_) (fun c1747 => ?_)
          · have c1747_ : v1744.toInt ≠ v1731.toInt := en_i_ne_t c1747
            refine At.enter rfl ?_
            refine r_aload_n e1723 ?_
            refine r_iload_n e1724 ?_
            refine q_putI (Sh.int hI1742.1 kx_176 rfl) rfl ?_
            have hI1748 := HI.wI1 hI1742 kx_176 rfl (p := 176) (b := 5) (v := x1716) rfl (by dsimp only; omega)
            have hF1749 := Fr.wI (p := 176) (b := 5) (v := x1716) hF1746 rfl
            refine r_vret ?_
            exact ⟨_, rfl, hI1748, hF1749, rfl⟩
          · have c1747_ : v1744.toInt = v1731.toInt := en_i_ne_f c1747
            refine At.enter rfl ?_
            refine q_iinc e1724 (x1716.toInt + 1) rfl (by omega) (fun v1750 hv1750 => ?_)
            refine r_goto ?_
            exact ih1722 (400 - v1750.toInt) _ _ ⟨v1750, by first | rfl | omega, hI1742, hF1746, (w_p1 (by decide) (Or.inr rfl) e1723), (w_e1 _ _ _), by omega⟩ ⟨by omega, by omega⟩
    · have c1689_ : v1684.toInt ≠ 3 := en_i_eq_f c1689
      refine At.enter rfl ?_
      refine q_iinc e1666 (x1658.toInt + 1) rfl (by omega) (fun v1751 hv1751 => ?_)
      refine Ar.fall 66 rfl ?_
      refine w_loopI (fun n_ l_ g_ => ∃ x1778 : Int32, n_ = 401 - x1778.toInt ∧ HI g_ ∧ Fr F_X5_step_176 A_X5_step_176 g0 g_ ∧ en_get 0 l_ = some (.ref 176) ∧ en_get 1 l_ = some (.int x1778) ∧ (1 ≤ x1778.toInt ∧ x1778.toInt ≤ 401)) ?_ (401 - v1751.toInt) ⟨v1751, by first | rfl | omega, hI1687, hF1688, (w_p1 (by decide) (Or.inr rfl) e1665), (w_e1 _ _ _), by omega⟩
      rintro n1783 l1782 g1779 ⟨x1778, hm1788, hI1780, hF1781, e1785, e1786, r1787⟩ ih1784
      refine At.enter rfl ?_
      refine r_iload_n e1786 ?_
      refine r_aload_n e1785 ?_
      refine q_getR (Sh.ref hI1780.1 kx_176 rfl) ?_
      refine q_getI (Sh.int hI1780.1 kx_174 rfl) v1669 ((hF1781.1 174 1 (by decide)).trans hv1669) ?_
      have bv1790 := q_bnd x1778
      refine r_ics 77 rfl (fun c1789 => ?_) (fun c1789 => ?_)
      · have c1789_ : x1778.toInt ≥ v1669.toInt := en_i_ge_t c1789
        refine At.enter rfl ?_
        refine r_aload_n e1785 ?_
        refine r_iload_n e1786 ?_
        refine q_putI (Sh.int hI1780.1 kx_176 rfl) rfl ?_
        have hI1791 := HI.wI1 hI1780 kx_176 rfl (p := 176) (b := 5) (v := x1778) rfl (by dsimp only; omega)
        have hF1792 := Fr.wI (p := 176) (b := 5) (v := x1778) hF1781 rfl
        refine r_vret ?_
        exact ⟨_, rfl, hI1791, hF1792, rfl⟩
      · have c1789_ : x1778.toInt < v1669.toInt := en_i_ge_f c1789
        refine At.enter rfl ?_
        refine r_aload_n e1785 ?_
        obtain ⟨v1793, hv1793⟩ : ∃ v, gI g1779 176 3 = v := ⟨_, rfl⟩
        refine q_getI (Sh.int hI1780.1 kx_176 rfl) v1793 hv1793 ?_
        refine r_iconst 2 rfl ?_
        refine r_ics 85 rfl (fun c1794 => ?_) (fun c1794 => ?_)
        · have c1794_ : v1793.toInt = 2 := en_i_eq_t c1794
          refine At.enter rfl ?_
          refine r_aload_n e1785 ?_
          refine r_iload_n e1786 ?_
          refine q_putI (Sh.int hI1780.1 kx_176 rfl) rfl ?_
          have hI1795 := HI.wI1 hI1780 kx_176 rfl (p := 176) (b := 5) (v := x1778) rfl (by dsimp only; omega)
          have hF1796 := Fr.wI (p := 176) (b := 5) (v := x1778) hF1781 rfl
          refine r_vret ?_
          exact ⟨_, rfl, hI1795, hF1796, rfl⟩
        · have c1794_ : v1793.toInt ≠ 2 := en_i_eq_f c1794
          refine At.enter rfl ?_
          refine r_aload_n e1785 ?_
          refine q_getR (Sh.ref hI1780.1 kx_176 rfl) ?_
          refine r_iload_n e1786 ?_
          refine r_callV 93 rfl [.ref 174, .int x1778] [] (Nat.le_of_ble_eq_true rfl) rfl (T_X8_at_174 _ hI1780 x1778) ?_
          rintro _ _ ⟨g1797, rfl, hI1798, hF1799, v1800, rfl, hr1801⟩
          refine At.sti ?_
          have hF1802 := Fr.tr hF1781 hF1799 rfl rfl
          refine At.enter rfl ?_
          refine r_callS 96 rfl [.int v1800] [] (Nat.le_of_ble_eq_true rfl) rfl (T_X5_kindOf _ hI1798 v1800) ?_
          rintro _ _ ⟨g1803, rfl, hI1804, hF1805, v1806, rfl, hr1807⟩
          refine At.sti ?_
          have hF1808 := Fr.tr hF1802 hF1805 rfl rfl
          refine At.enter rfl ?_
          refine r_aload_n e1785 ?_
          refine q_getI (Sh.int hI1804.1 kx_176 rfl) v1793 (((hF1805.1 176 3 (by decide)).trans (hF1799.1 176 3 (by decide))).trans hv1793) ?_
          refine r_ics 103 rfl (fun c1809 => ?_) (fun c1809 => ?_)
          · have c1809_ : v1806.toInt ≠ v1793.toInt := en_i_ne_t c1809
            refine At.enter rfl ?_
            refine r_aload_n e1785 ?_
            refine r_iload_n e1786 ?_
            refine q_putI (Sh.int hI1804.1 kx_176 rfl) rfl ?_
            have hI1810 := HI.wI1 hI1804 kx_176 rfl (p := 176) (b := 5) (v := x1778) rfl (by dsimp only; omega)
            have hF1811 := Fr.wI (p := 176) (b := 5) (v := x1778) hF1808 rfl
            refine r_vret ?_
            exact ⟨_, rfl, hI1810, hF1811, rfl⟩
          · have c1809_ : v1806.toInt = v1793.toInt := en_i_ne_f c1809
            refine At.enter rfl ?_
            refine q_iinc e1786 (x1778.toInt + 1) rfl (by omega) (fun v1812 hv1812 => ?_)
            refine r_goto ?_
            exact ih1784 (401 - v1812.toInt) _ _ ⟨v1812, by first | rfl | omega, hI1804, hF1808, (w_p1 (by decide) (Or.inr rfl) e1785), (w_e1 _ _ _), by omega⟩ ⟨by omega, by omega⟩
  · have c1670_ : x1658.toInt < v1669.toInt := en_i_ge_f c1670
    refine At.enter rfl ?_
    refine r_aload_n e1665 ?_
    refine q_getR (Sh.ref hI1660.1 kx_176 rfl) ?_
    refine r_iload_n e1666 ?_
    refine r_callV 24 rfl [.ref 174, .int x1658] [] (Nat.le_of_ble_eq_true rfl) rfl (T_X8_at_174 _ hI1660 x1658) ?_
    rintro _ _ ⟨g1813, rfl, hI1814, hF1815, v1816, rfl, hr1817⟩
    refine At.sti ?_
    have hF1818 := Fr.tr hF1661 hF1815 rfl rfl
    refine At.enter rfl ?_
    refine r_bipush 32 rfl ?_
    refine r_ics 29 rfl (fun c1819 => ?_) (fun c1819 => ?_)
    · have c1819_ : v1816.toInt ≠ 32 := en_i_ne_t c1819
      refine At.enter rfl ?_
      refine r_aload_n e1665 ?_
      refine r_iload_n e1666 ?_
      refine q_putI (Sh.int hI1814.1 kx_176 rfl) rfl ?_
      have hI1820 := HI.wI1 hI1814 kx_176 rfl (p := 176) (b := 4) (v := x1658) rfl (by dsimp only; omega)
      have hF1821 := Fr.wI (p := 176) (b := 4) (v := x1658) hF1818 rfl
      refine r_aload_n e1665 ?_
      refine r_aload_n e1665 ?_
      refine q_getR (Sh.ref hI1820.1 kx_176 rfl) ?_
      refine r_iload_n e1666 ?_
      refine r_callV 49 rfl [.ref 174, .int x1658] [.ref 176] (Nat.le_of_ble_eq_true rfl) rfl (T_X8_at_174 _ hI1820 x1658) ?_
      rintro _ _ ⟨g1822, rfl, hI1823, hF1824, v1825, rfl, hr1826⟩
      refine At.sti ?_
      have hF1827 := Fr.tr hF1821 hF1824 rfl rfl
      refine At.enter rfl ?_
      refine r_callS 52 rfl [.int v1825] [.ref 176] (Nat.le_of_ble_eq_true rfl) rfl (T_X5_kindOf _ hI1823 v1825) ?_
      rintro _ _ ⟨g1828, rfl, hI1829, hF1830, v1831, rfl, hr1832⟩
      refine At.sti ?_
      have hF1833 := Fr.tr hF1827 hF1830 rfl rfl
      refine At.enter rfl ?_
      refine q_putI (Sh.int hI1829.1 kx_176 rfl) rfl ?_
      have hI1834 := HI.wI0 hI1829 kx_176 rfl (p := 176) (b := 3) (v := v1831) rfl
      have hF1835 := Fr.wI (p := 176) (b := 3) (v := v1831) hF1833 rfl
      refine r_aload_n e1665 ?_
      refine q_getI (Sh.int hI1834.1 kx_176 rfl) v1831 (gI_sI_eq hI1829.1 kx_176 rfl _) ?_
      refine r_iconst 3 rfl ?_
      refine r_ics 63 rfl (fun c1836 => ?_) (fun c1836 => ?_)
      · have c1836_ : v1831.toInt = 3 := en_i_eq_t c1836
        refine w_loopI (fun n_ l_ g_ => ∃ x1889 : Int32, n_ = 400 - x1889.toInt ∧ HI g_ ∧ Fr F_X5_step_176 A_X5_step_176 g0 g_ ∧ en_get 0 l_ = some (.ref 176) ∧ en_get 1 l_ = some (.int x1889) ∧ (0 ≤ x1889.toInt ∧ x1889.toInt ≤ 400)) ?_ (400 - x1658.toInt) ⟨x1658, by first | rfl | omega, hI1834, hF1835, e1665, e1666, by omega⟩
        rintro n1894 l1893 g1890 ⟨x1889, hm1899, hI1891, hF1892, e1896, e1897, r1898⟩ ih1895
        refine At.enter rfl ?_
        refine r_iload_n e1897 ?_
        refine r_aload_n e1896 ?_
        refine q_getR (Sh.ref hI1891.1 kx_176 rfl) ?_
        refine q_getI (Sh.int hI1891.1 kx_174 rfl) v1669 ((hF1892.1 174 1 (by decide)).trans hv1669) ?_
        have bv1901 := q_bnd x1889
        refine r_ics 77 rfl (fun c1900 => ?_) (fun c1900 => ?_)
        · have c1900_ : x1889.toInt ≥ v1669.toInt := en_i_ge_t c1900
          refine At.enter rfl ?_
          refine r_aload_n e1896 ?_
          refine r_iload_n e1897 ?_
          refine q_putI (Sh.int hI1891.1 kx_176 rfl) rfl ?_
          have hI1902 := HI.wI1 hI1891 kx_176 rfl (p := 176) (b := 5) (v := x1889) rfl (by dsimp only; omega)
          have hF1903 := Fr.wI (p := 176) (b := 5) (v := x1889) hF1892 rfl
          refine r_vret ?_
          exact ⟨_, rfl, hI1902, hF1903, rfl⟩
        · have c1900_ : x1889.toInt < v1669.toInt := en_i_ge_f c1900
          refine At.enter rfl ?_
          refine r_aload_n e1896 ?_
          obtain ⟨v1904, hv1904⟩ : ∃ v, gI g1890 176 3 = v := ⟨_, rfl⟩
          refine q_getI (Sh.int hI1891.1 kx_176 rfl) v1904 hv1904 ?_
          refine r_iconst 2 rfl ?_
          refine r_ics 85 rfl (fun c1905 => ?_) (fun c1905 => ?_)
          · have c1905_ : v1904.toInt = 2 := en_i_eq_t c1905
            refine At.enter rfl ?_
            refine r_aload_n e1896 ?_
            refine r_iload_n e1897 ?_
            refine q_putI (Sh.int hI1891.1 kx_176 rfl) rfl ?_
            have hI1906 := HI.wI1 hI1891 kx_176 rfl (p := 176) (b := 5) (v := x1889) rfl (by dsimp only; omega)
            have hF1907 := Fr.wI (p := 176) (b := 5) (v := x1889) hF1892 rfl
            refine r_vret ?_
            exact ⟨_, rfl, hI1906, hF1907, rfl⟩
          · have c1905_ : v1904.toInt ≠ 2 := en_i_eq_f c1905
            refine At.enter rfl ?_
            refine r_aload_n e1896 ?_
            refine q_getR (Sh.ref hI1891.1 kx_176 rfl) ?_
            refine r_iload_n e1897 ?_
            refine r_callV 93 rfl [.ref 174, .int x1889] [] (Nat.le_of_ble_eq_true rfl) rfl (T_X8_at_174 _ hI1891 x1889) ?_
            rintro _ _ ⟨g1908, rfl, hI1909, hF1910, v1911, rfl, hr1912⟩
            refine At.sti ?_
            have hF1913 := Fr.tr hF1892 hF1910 rfl rfl
            refine At.enter rfl ?_
            refine r_callS 96 rfl [.int v1911] [] (Nat.le_of_ble_eq_true rfl) rfl (T_X5_kindOf _ hI1909 v1911) ?_
            rintro _ _ ⟨g1914, rfl, hI1915, hF1916, v1917, rfl, hr1918⟩
            refine At.sti ?_
            have hF1919 := Fr.tr hF1913 hF1916 rfl rfl
            refine At.enter rfl ?_
            refine r_aload_n e1896 ?_
            refine q_getI (Sh.int hI1915.1 kx_176 rfl) v1904 (((hF1916.1 176 3 (by decide)).trans (hF1910.1 176 3 (by decide))).trans hv1904) ?_
            refine r_ics 103 rfl (fun c1920 => ?_) (fun c1920 => ?_)
            · have c1920_ : v1917.toInt ≠ v1904.toInt := en_i_ne_t c1920
              refine At.enter rfl ?_
              refine r_aload_n e1896 ?_
              refine r_iload_n e1897 ?_
              refine q_putI (Sh.int hI1915.1 kx_176 rfl) rfl ?_
              have hI1921 := HI.wI1 hI1915 kx_176 rfl (p := 176) (b := 5) (v := x1889) rfl (by dsimp only; omega)
              have hF1922 := Fr.wI (p := 176) (b := 5) (v := x1889) hF1919 rfl
              refine r_vret ?_
              exact ⟨_, rfl, hI1921, hF1922, rfl⟩
            · have c1920_ : v1917.toInt = v1904.toInt := en_i_ne_f c1920
              refine At.enter rfl ?_
              refine q_iinc e1897 (x1889.toInt + 1) rfl (by omega) (fun v1923 hv1923 => ?_)
              refine r_goto ?_
              exact ih1895 (400 - v1923.toInt) _ _ ⟨v1923, by first | rfl | omega, hI1915, hF1919, (w_p1 (by decide) (Or.inr rfl) e1896), (w_e1 _ _ _), by omega⟩ ⟨by omega, by omega⟩
      · have c1836_ : v1831.toInt ≠ 3 := en_i_eq_f c1836
        refine At.enter rfl ?_
        refine q_iinc e1666 (x1658.toInt + 1) rfl (by omega) (fun v1924 hv1924 => ?_)
        refine Ar.fall 66 rfl ?_
        refine w_loopI (fun n_ l_ g_ => ∃ x1951 : Int32, n_ = 400 - x1951.toInt ∧ HI g_ ∧ Fr F_X5_step_176 A_X5_step_176 g0 g_ ∧ en_get 0 l_ = some (.ref 176) ∧ en_get 1 l_ = some (.int x1951) ∧ (1 ≤ x1951.toInt ∧ x1951.toInt ≤ 400)) ?_ (400 - v1924.toInt) ⟨v1924, by first | rfl | omega, hI1834, hF1835, (w_p1 (by decide) (Or.inr rfl) e1665), (w_e1 _ _ _), by omega⟩
        rintro n1956 l1955 g1952 ⟨x1951, hm1961, hI1953, hF1954, e1958, e1959, r1960⟩ ih1957
        refine At.enter rfl ?_
        refine r_iload_n e1959 ?_
        refine r_aload_n e1958 ?_
        refine q_getR (Sh.ref hI1953.1 kx_176 rfl) ?_
        refine q_getI (Sh.int hI1953.1 kx_174 rfl) v1669 ((hF1954.1 174 1 (by decide)).trans hv1669) ?_
        have bv1963 := q_bnd x1951
        refine r_ics 77 rfl (fun c1962 => ?_) (fun c1962 => ?_)
        · have c1962_ : x1951.toInt ≥ v1669.toInt := en_i_ge_t c1962
          refine At.enter rfl ?_
          refine r_aload_n e1958 ?_
          refine r_iload_n e1959 ?_
          refine q_putI (Sh.int hI1953.1 kx_176 rfl) rfl ?_
          have hI1964 := HI.wI1 hI1953 kx_176 rfl (p := 176) (b := 5) (v := x1951) rfl (by dsimp only; omega)
          have hF1965 := Fr.wI (p := 176) (b := 5) (v := x1951) hF1954 rfl
          refine r_vret ?_
          exact ⟨_, rfl, hI1964, hF1965, rfl⟩
        · have c1962_ : x1951.toInt < v1669.toInt := en_i_ge_f c1962
          refine At.enter rfl ?_
          refine r_aload_n e1958 ?_
          obtain ⟨v1966, hv1966⟩ : ∃ v, gI g1952 176 3 = v := ⟨_, rfl⟩
          refine q_getI (Sh.int hI1953.1 kx_176 rfl) v1966 hv1966 ?_
          refine r_iconst 2 rfl ?_
          refine r_ics 85 rfl (fun c1967 => ?_) (fun c1967 => ?_)
          · have c1967_ : v1966.toInt = 2 := en_i_eq_t c1967
            refine At.enter rfl ?_
            refine r_aload_n e1958 ?_
            refine r_iload_n e1959 ?_
            refine q_putI (Sh.int hI1953.1 kx_176 rfl) rfl ?_
            have hI1968 := HI.wI1 hI1953 kx_176 rfl (p := 176) (b := 5) (v := x1951) rfl (by dsimp only; omega)
            have hF1969 := Fr.wI (p := 176) (b := 5) (v := x1951) hF1954 rfl
            refine r_vret ?_
            exact ⟨_, rfl, hI1968, hF1969, rfl⟩
          · have c1967_ : v1966.toInt ≠ 2 := en_i_eq_f c1967
            refine At.enter rfl ?_
            refine r_aload_n e1958 ?_
            refine q_getR (Sh.ref hI1953.1 kx_176 rfl) ?_
            refine r_iload_n e1959 ?_
            refine r_callV 93 rfl [.ref 174, .int x1951] [] (Nat.le_of_ble_eq_true rfl) rfl (T_X8_at_174 _ hI1953 x1951) ?_
            rintro _ _ ⟨g1970, rfl, hI1971, hF1972, v1973, rfl, hr1974⟩
            refine At.sti ?_
            have hF1975 := Fr.tr hF1954 hF1972 rfl rfl
            refine At.enter rfl ?_
            refine r_callS 96 rfl [.int v1973] [] (Nat.le_of_ble_eq_true rfl) rfl (T_X5_kindOf _ hI1971 v1973) ?_
            rintro _ _ ⟨g1976, rfl, hI1977, hF1978, v1979, rfl, hr1980⟩
            refine At.sti ?_
            have hF1981 := Fr.tr hF1975 hF1978 rfl rfl
            refine At.enter rfl ?_
            refine r_aload_n e1958 ?_
            refine q_getI (Sh.int hI1977.1 kx_176 rfl) v1966 (((hF1978.1 176 3 (by decide)).trans (hF1972.1 176 3 (by decide))).trans hv1966) ?_
            refine r_ics 103 rfl (fun c1982 => ?_) (fun c1982 => ?_)
            · have c1982_ : v1979.toInt ≠ v1966.toInt := en_i_ne_t c1982
              refine At.enter rfl ?_
              refine r_aload_n e1958 ?_
              refine r_iload_n e1959 ?_
              refine q_putI (Sh.int hI1977.1 kx_176 rfl) rfl ?_
              have hI1983 := HI.wI1 hI1977 kx_176 rfl (p := 176) (b := 5) (v := x1951) rfl (by dsimp only; omega)
              have hF1984 := Fr.wI (p := 176) (b := 5) (v := x1951) hF1981 rfl
              refine r_vret ?_
              exact ⟨_, rfl, hI1983, hF1984, rfl⟩
            · have c1982_ : v1979.toInt = v1966.toInt := en_i_ne_f c1982
              refine At.enter rfl ?_
              refine q_iinc e1959 (x1951.toInt + 1) rfl (by omega) (fun v1985 hv1985 => ?_)
              refine r_goto ?_
              exact ih1957 (400 - v1985.toInt) _ _ ⟨v1985, by first | rfl | omega, hI1977, hF1981, (w_p1 (by decide) (Or.inr rfl) e1958), (w_e1 _ _ _), by omega⟩ ⟨by omega, by omega⟩
    · have c1819_ : v1816.toInt = 32 := en_i_ne_f c1819
      refine At.enter rfl ?_
      refine q_iinc e1666 (x1658.toInt + 1) rfl (by omega) (fun v1986 hv1986 => ?_)
      refine r_goto ?_
      exact ih1664 (400 - v1986.toInt) _ _ ⟨v1986, by first | rfl | omega, hI1814, hF1818, (w_p1 (by decide) (Or.inr rfl) e1665), (w_e1 _ _ _), by omega⟩ ⟨by omega, by omega⟩

def F_X5_numberHere_176 : List (Nat × Nat) := []
def A_X5_numberHere_176 : List Nat := []
set_option maxRecDepth 100000 in
set_option maxHeartbeats 4000000 in
theorem T_X5_numberHere_176 (d : Nat) {N : Nat} {g0 : List en_E} (hI0 : HI g0) : Ev (d + 2) 77 [.ref 176] (g0, N) (fun w h' => ∃ g', h' = (g', N) ∧ HI g' ∧ Fr F_X5_numberHere_176 A_X5_numberHere_176 g0 g' ∧ ∃ r : Int32, w = some (.int r) ∧ True) := by
  have hF0 : Fr F_X5_numberHere_176 A_X5_numberHere_176 g0 g0 := Fr.rf
  refine Ev.mk rfl rfl ⟨Nat.le_of_ble_eq_true rfl, Or.inr (q_rc hI0.1 kx_176 rfl)⟩ ?_
  show At _ none _ _ (0, [(0, .ref 176)], [], (_, _)) _
  refine At.enter rfl ?_
  refine r_iconst 0 rfl ?_
  refine r_istore_n ([(1, .int 0), (0, .ref 176)]) rfl ?_
  refine r_aload_n rfl ?_
  obtain ⟨v135, hv135⟩ : ∃ v, gI g0 176 4 = v := ⟨_, rfl⟩
  have rv135 := RgF.at hI0.2.1 (p := 176) (b := 4) rfl
  rw [hv135] at rv135
  dsimp only at rv135
  refine q_getI (Sh.int hI0.1 kx_176 rfl) v135 hv135 ?_
  refine r_istore_n ([(2, .int v135), (1, .int 0), (0, .ref 176)]) rfl ?_
  refine Ar.fall 7 rfl ?_
  have z_185 : (0 : Int32).toInt = 0 := rfl
  refine w_loopI (fun n_ l_ g_ => ∃ x173 : Int32, ∃ x174 : Int32, n_ = 400 - x174.toInt ∧ HI g_ ∧ Fr F_X5_numberHere_176 A_X5_numberHere_176 g0 g_ ∧ en_get 0 l_ = some (.ref 176) ∧ en_get 1 l_ = some (.int x173) ∧ en_get 2 l_ = some (.int x174) ∧ (0 ≤ x174.toInt ∧ x174.toInt ≤ 400)) ?_ (400 - v135.toInt) ⟨0, v135, by first | rfl | omega, hI0, hF0, rfl, rfl, rfl, by omega⟩
  rintro n179 l178 g175 ⟨x173, x174, hm186, hI176, hF177, e181, e182, e183, r184⟩ ih180
  refine At.enter rfl ?_
  refine r_iload_n e183 ?_
  refine r_aload_n e181 ?_
  obtain ⟨v187, hv187⟩ : ∃ v, gI g0 176 5 = v := ⟨_, rfl⟩
  have rv187 := RgF.at hI0.2.1 (p := 176) (b := 5) rfl
  rw [hv187] at rv187
  dsimp only at rv187
  refine q_getI (Sh.int hI176.1 kx_176 rfl) v187 ((hF177.1 176 5 (by decide)).trans hv187) ?_
  have bv189 := q_bnd x174
  have bv190 := q_bnd v187
  refine r_ics 15 rfl (fun c188 => ?_) (fun c188 => ?_)
  · have c188_ : x174.toInt ≥ v187.toInt := en_i_ge_t c188
    refine At.enter rfl ?_
    refine r_iload_n e182 ?_
    refine r_ireti ?_
    exact ⟨_, rfl, hI176, hF177, _, rfl, trivial⟩
  · have c188_ : x174.toInt < v187.toInt := en_i_ge_f c188
    refine At.enter rfl ?_
    refine r_iload_n e182 ?_
    refine r_sipush 1000 rfl ?_
    refine r_ics 22 rfl (fun c191 => ?_) (fun c191 => ?_)
    · have c191_ : x173.toInt > 1000 := en_i_gt_t c191
      refine At.enter rfl ?_
      refine r_iload_n e182 ?_
      refine r_ireti ?_
      exact ⟨_, rfl, hI176, hF177, _, rfl, trivial⟩
    · have c191_ : x173.toInt ≤ 1000 := en_i_gt_f c191
      refine At.enter rfl ?_
      refine r_iload_n e182 ?_
      refine r_bipush 10 rfl ?_
      refine q_imulO (fun v192 _ => ?_)
      refine r_aload_n e181 ?_
      refine q_getR (Sh.ref hI176.1 kx_176 rfl) ?_
      refine r_iload_n e183 ?_
      refine r_callV 34 rfl [.ref 174, .int x174] [.int v192] (Nat.le_of_ble_eq_true rfl) rfl (T_X8_at_174 _ hI176 x174) ?_
      rintro _ _ ⟨g193, rfl, hI194, hF195, v196, rfl, hr197⟩
      refine At.sti ?_
      have hF198 := Fr.tr hF177 hF195 rfl rfl
      refine At.enter rfl ?_
      refine q_iaddO (fun v199 _ => ?_)
      refine r_bipush 48 rfl ?_
      refine q_isubO (fun v200 _ => ?_)
      refine r_istore_n _ rfl ?_
      refine q_iinc (w_p1 (by decide) (Or.inr rfl) e183) (x174.toInt + 1) rfl (by omega) (fun v201 hv201 => ?_)
      refine r_goto ?_
      have bv202 := q_bnd v200
      exact ih180 (400 - v201.toInt) _ _ ⟨v200, v201, by first | rfl | omega, hI194, hF198, (w_p1 (by decide) (Or.inr rfl) (w_p1 (by decide) (Or.inr rfl) e181)), (w_p1 (by decide) (Or.inr rfl) (w_e1 _ _ _)), (w_e1 _ _ _), by omega⟩ ⟨by omega, by omega⟩

def F_X4_add_177 : List (Nat × Nat) := [(177, 0)]
def A_X4_add_177 : List Nat := [178, 179]
set_option maxRecDepth 100000 in
set_option maxHeartbeats 4000000 in
theorem T_X4_add_177 (d : Nat) {N : Nat} {g0 : List en_E} (hI0 : HI g0) (a1 : Int32) (a2 : Int32) : Ev (d + 1) 60 [.ref 177, .int a1, .int a2] (g0, N) (fun w h' => ∃ g', h' = (g', N) ∧ HI g' ∧ Fr F_X4_add_177 A_X4_add_177 g0 g' ∧ ∃ r : Int32, w = some (.int r) ∧ ((-1) ≤ r.toInt ∧ r.toInt ≤ 399)) := by
  have hF0 : Fr F_X4_add_177 A_X4_add_177 g0 g0 := Fr.rf
  refine Ev.mk rfl rfl ⟨Nat.le_of_ble_eq_true rfl, Or.inr (q_rc hI0.1 kx_177 rfl)⟩ ?_
  show At _ none _ _ (0, [(0, .ref 177), (1, .int a1), (2, .int a2)], [], (_, _)) _
  refine At.enter rfl ?_
  refine r_aload_n rfl ?_
  obtain ⟨v21, hv21⟩ : ∃ v, gI g0 177 0 = v := ⟨_, rfl⟩
  have rv21 := RgF.at hI0.2.1 (p := 177) (b := 0) rfl
  rw [hv21] at rv21
  dsimp only at rv21
  refine q_getI (Sh.int hI0.1 kx_177 rfl) v21 hv21 ?_
  refine r_sipush 400 rfl ?_
  refine r_ics 10 rfl (fun c22 => ?_) (fun c22 => ?_)
  · have c22_ : v21.toInt < 400 := en_i_lt_t c22
    refine At.enter rfl ?_
    refine r_aload_n rfl ?_
    refine q_getR (Sh.ref hI0.1 kx_177 rfl) ?_
    refine r_aload_n rfl ?_
    refine q_getI (Sh.int hI0.1 kx_177 rfl) v21 hv21 ?_
    refine r_iload_n rfl ?_
    refine q_iast (Sh.arr hI0.1 ka_178) (v21.toInt) rfl (by omega) ?_
    have hI23 := HI.wA0 hI0 ka_178 (p := 178) rfl rfl (v21.toInt) (a1)
    have hF24 := Fr.wA (p := 178) (j := v21.toInt) (v := a1) hF0 rfl
    refine r_aload_n rfl ?_
    refine q_getR (Sh.ref hI23.1 kx_177 rfl) ?_
    refine r_aload_n rfl ?_
    refine q_getI (Sh.int hI23.1 kx_177 rfl) v21 ((gI_sW).trans hv21) ?_
    refine r_iload_n rfl ?_
    refine q_iast (Sh.arr hI23.1 ka_179) (v21.toInt) rfl (by omega) ?_
    have hI25 := HI.wA0 hI23 ka_179 (p := 179) rfl rfl (v21.toInt) (a2)
    have hF26 := Fr.wA (p := 179) (j := v21.toInt) (v := a2) hF24 rfl
    refine r_aload_n rfl ?_
    refine r_dup rfl ?_
    refine q_getI (Sh.int hI25.1 kx_177 rfl) v21 (((gI_sW).trans (gI_sW)).trans hv21) ?_
    refine r_iconst 1 rfl ?_
    refine q_iadd (v21.toInt + 1) rfl (by omega) (fun v27 hv27 => ?_)
    refine q_putI (Sh.int hI25.1 kx_177 rfl) rfl ?_
    have hI28 := HI.wI1 hI25 kx_177 rfl (p := 177) (b := 0) (v := v27) rfl (by dsimp only; omega)
    have hF29 := Fr.wI (p := 177) (b := 0) (v := v27) hF26 rfl
    refine r_aload_n rfl ?_
    refine q_getI (Sh.int hI28.1 kx_177 rfl) v27 (gI_sI_eq hI25.1 kx_177 rfl _) ?_
    refine r_iconst 1 rfl ?_
    refine q_isub (v27.toInt - 1) rfl (by omega) (fun v30 hv30 => ?_)
    refine r_ireti ?_
    exact ⟨_, rfl, hI28, hF29, _, rfl, by omega⟩
  · have c22_ : v21.toInt ≥ 400 := en_i_lt_f c22
    refine At.enter rfl ?_
    refine r_iconst (-1) rfl ?_
    refine r_ireti ?_
    exact ⟨_, rfl, hI0, hF0, _, rfl, by decide⟩

def F_X4_aimAtEnd_177 : List (Nat × Nat) := []
def A_X4_aimAtEnd_177 : List Nat := [179]
set_option maxRecDepth 100000 in
set_option maxHeartbeats 4000000 in
theorem T_X4_aimAtEnd_177 (d : Nat) {N : Nat} {g0 : List en_E} (hI0 : HI g0) (a1 : Int32) : Ev (d + 1) 61 [.ref 177, .int a1] (g0, N) (fun w h' => ∃ g', h' = (g', N) ∧ HI g' ∧ Fr F_X4_aimAtEnd_177 A_X4_aimAtEnd_177 g0 g' ∧ w = none) := by
  have hF0 : Fr F_X4_aimAtEnd_177 A_X4_aimAtEnd_177 g0 g0 := Fr.rf
  refine Ev.mk rfl rfl ⟨Nat.le_of_ble_eq_true rfl, Or.inr (q_rc hI0.1 kx_177 rfl)⟩ ?_
  show At _ none _ _ (0, [(0, .ref 177), (1, .int a1)], [], (_, _)) _
  refine At.enter rfl ?_
  refine r_iload_n rfl ?_
  refine r_ifs 4 rfl (fun c15 => ?_) (fun c15 => ?_)
  · have c15_ : a1.toInt < 0 := en_k_lt_t c15
    refine At.enter rfl ?_
    refine r_vret ?_
    exact ⟨_, rfl, hI0, hF0, rfl⟩
  · have c15_ : a1.toInt ≥ 0 := en_k_lt_f c15
    refine At.enter rfl ?_
    refine r_iload_n rfl ?_
    refine r_aload_n rfl ?_
    obtain ⟨v16, hv16⟩ : ∃ v, gI g0 177 0 = v := ⟨_, rfl⟩
    have rv16 := RgF.at hI0.2.1 (p := 177) (b := 0) rfl
    rw [hv16] at rv16
    dsimp only at rv16
    refine q_getI (Sh.int hI0.1 kx_177 rfl) v16 hv16 ?_
    have bv18 := q_bnd a1
    have bv19 := q_bnd v16
    refine r_ics 12 rfl (fun c17 => ?_) (fun c17 => ?_)
    · have c17_ : a1.toInt ≥ v16.toInt := en_i_ge_t c17
      refine At.enter rfl ?_
      refine r_vret ?_
      exact ⟨_, rfl, hI0, hF0, rfl⟩
    · have c17_ : a1.toInt < v16.toInt := en_i_ge_f c17
      refine At.enter rfl ?_
      refine r_aload_n rfl ?_
      refine q_getR (Sh.ref hI0.1 kx_177 rfl) ?_
      refine r_iload_n rfl ?_
      refine r_aload_n rfl ?_
      refine q_getI (Sh.int hI0.1 kx_177 rfl) v16 hv16 ?_
      refine q_iast (Sh.arr hI0.1 ka_179) (a1.toInt) rfl (by omega) ?_
      have hI20 := HI.wA0 hI0 ka_179 (p := 179) rfl rfl (a1.toInt) (v16)
      have hF21 := Fr.wA (p := 179) (j := a1.toInt) (v := v16) hF0 rfl
      refine Ar.fall 22 rfl ?_
      refine At.enter rfl ?_
      refine r_vret ?_
      exact ⟨_, rfl, hI20, hF21, rfl⟩

def F_isWord : List (Nat × Nat) := []
def A_isWord : List Nat := []
theorem T_X5_isWord (d : Nat) {N : Nat} {g0 : List en_E} (hI0 : HI g0) (f : UInt32) (hf : 1 ≤ f.toNat ∧ f.toNat ≤ 13) : Ev (d + 2) 76 [.ref 176, .float f] (g0, N) (fun w h' => ∃ g', h' = (g', N) ∧ HI g' ∧ Fr F_isWord A_isWord g0 g' ∧ ∃ r : Int32, w = some (.int r) ∧ (0 ≤ r.toInt ∧ r.toInt ≤ 1)) := sorry

def F_X5_wordHere_176 : List (Nat × Nat) := []
def A_X5_wordHere_176 : List Nat := []
theorem T_X5_wordHere_176 (d : Nat) {N : Nat} {g0 : List en_E} (hI0 : HI g0) : Ev (d + 4) 78 [.ref 176] (g0, N) (fun w h' => ∃ g', h' = (g', N) ∧ HI g' ∧ Fr F_X5_wordHere_176 A_X5_wordHere_176 g0 g' ∧ ∃ r : Int32, w = some (.int r) ∧ ((-1) ≤ r.toInt ∧ r.toInt ≤ 8)) := sorry

def F_rd : List (Nat × Nat) := [(176, 2), (176, 3), (176, 4), (176, 5), (176, 6), (177, 0), (177, 3), (177, 4)]
def A_rd : List Nat := [178, 179, 180, 181, 182, 183]

def F_X5_joinHere_176 : List (Nat × Nat) := []
def A_X5_joinHere_176 : List Nat := []
set_option maxRecDepth 100000 in
set_option maxHeartbeats 4000000 in
theorem T_X5_joinHere_176 (d : Nat) {N : Nat} {g0 : List en_E} (hI0 : HI g0) (a1 : Int32) : Ev (d + 3) 66 [.ref 176, .int a1] (g0, N) (fun w h' => ∃ g', h' = (g', N) ∧ HI g' ∧ Fr F_X5_joinHere_176 A_X5_joinHere_176 g0 g' ∧ ∃ r : Int32, w = some (.int r) ∧ ((-1) ≤ r.toInt ∧ r.toInt ≤ 11)) := by
  have hF0 : Fr F_X5_joinHere_176 A_X5_joinHere_176 g0 g0 := Fr.rf
  refine Ev.mk rfl rfl ⟨Nat.le_of_ble_eq_true rfl, Or.inr (q_rc hI0.1 kx_176 rfl)⟩ ?_
  show At _ none _ _ (0, [(0, .ref 176), (1, .int a1)], [], (_, _)) _
  refine At.enter rfl ?_
  refine r_iload_n rfl ?_
  by_cases c89_0 : a1.toInt = 0
  · refine r_tsw 28 (by rw [c89_0]; rfl) ?_
    refine At.enter rfl ?_
    refine r_aload_n rfl ?_
    refine r_ldcS (by decide) 15 rfl ?_
    refine r_callV 34 rfl [.ref 176, .float 15] [] (Nat.le_of_ble_eq_true rfl) rfl (T_X5_isWord _ hI0 15 (by decide)) ?_
    rintro _ _ ⟨g90, rfl, hI91, hF92, v93, rfl, hr94⟩
    refine At.sti ?_
    have hF95 := Fr.tr hF0 hF92 rfl rfl
    refine At.enter rfl ?_
    refine r_ifs 37 rfl (fun c96 => ?_) (fun c96 => ?_)
    · have c96_ : v93.toInt = 0 := en_k_eq_t c96
      refine At.enter rfl ?_
      refine r_iconst (-1) rfl ?_
      refine Ar.fall 43 rfl ?_
      refine At.enter rfl ?_
      refine r_ireti ?_
      exact ⟨_, rfl, hI91, hF95, _, rfl, by decide⟩
    · have c96_ : v93.toInt ≠ 0 := en_k_eq_f c96
      refine At.enter rfl ?_
      refine r_bipush 11 rfl ?_
      refine r_goto ?_
      refine At.enter rfl ?_
      refine r_ireti ?_
      exact ⟨_, rfl, hI91, hF95, _, rfl, by decide⟩
  by_cases c89_1 : a1.toInt = 1
  · refine r_tsw 44 (by rw [c89_1]; rfl) ?_
    refine At.enter rfl ?_
    refine r_aload_n rfl ?_
    refine r_ldcS (by decide) 16 rfl ?_
    refine r_callV 50 rfl [.ref 176, .float 16] [] (Nat.le_of_ble_eq_true rfl) rfl (T_X5_isWord _ hI0 16 (by decide)) ?_
    rintro _ _ ⟨g97, rfl, hI98, hF99, v100, rfl, hr101⟩
    refine At.sti ?_
    have hF102 := Fr.tr hF0 hF99 rfl rfl
    refine At.enter rfl ?_
    refine r_ifs 53 rfl (fun c103 => ?_) (fun c103 => ?_)
    · have c103_ : v100.toInt = 0 := en_k_eq_t c103
      refine At.enter rfl ?_
      refine r_iconst (-1) rfl ?_
      refine Ar.fall 59 rfl ?_
      refine At.enter rfl ?_
      refine r_ireti ?_
      exact ⟨_, rfl, hI98, hF102, _, rfl, by decide⟩
    · have c103_ : v100.toInt ≠ 0 := en_k_eq_f c103
      refine At.enter rfl ?_
      refine r_bipush 10 rfl ?_
      refine r_goto ?_
      refine At.enter rfl ?_
      refine r_ireti ?_
      exact ⟨_, rfl, hI98, hF102, _, rfl, by decide⟩
  by_cases c89_2 : a1.toInt = 2
  · refine r_tsw 60 (by rw [c89_2]; rfl) ?_
    refine At.enter rfl ?_
    refine r_aload_n rfl ?_
    refine r_bipush 43 rfl ?_
    refine r_callV 66 rfl [.ref 176, .int 43] [] (Nat.le_of_ble_eq_true rfl) rfl (T_X5_isSingle_176 _ hI0 43) ?_
    rintro _ _ ⟨g104, rfl, hI105, hF106, v107, rfl, hr108⟩
    refine At.sti ?_
    have hF109 := Fr.tr hF0 hF106 rfl rfl
    refine At.enter rfl ?_
    refine r_ifs 69 rfl (fun c110 => ?_) (fun c110 => ?_)
    · have c110_ : v107.toInt = 0 := en_k_eq_t c110
      refine At.enter rfl ?_
      refine r_aload_n rfl ?_
      refine r_bipush 45 rfl ?_
      refine r_callV 79 rfl [.ref 176, .int 45] [] (Nat.le_of_ble_eq_true rfl) rfl (T_X5_isSingle_176 _ hI105 45) ?_
      rintro _ _ ⟨g111, rfl, hI112, hF113, v114, rfl, hr115⟩
      refine At.sti ?_
      have hF116 := Fr.tr hF109 hF113 rfl rfl
      refine At.enter rfl ?_
      refine r_ifs 82 rfl (fun c117 => ?_) (fun c117 => ?_)
      · have c117_ : v114.toInt = 0 := en_k_eq_t c117
        refine At.enter rfl ?_
        refine r_iconst (-1) rfl ?_
        refine Ar.fall 87 rfl ?_
        refine At.enter rfl ?_
        refine r_ireti ?_
        exact ⟨_, rfl, hI112, hF116, _, rfl, by decide⟩
      · have c117_ : v114.toInt ≠ 0 := en_k_eq_f c117
        refine At.enter rfl ?_
        refine r_iconst 3 rfl ?_
        refine r_goto ?_
        refine At.enter rfl ?_
        refine r_ireti ?_
        exact ⟨_, rfl, hI112, hF116, _, rfl, by decide⟩
    · have c110_ : v107.toInt ≠ 0 := en_k_eq_f c110
      refine At.enter rfl ?_
      refine r_iconst 2 rfl ?_
      refine r_goto ?_
      refine At.enter rfl ?_
      refine r_ireti ?_
      exact ⟨_, rfl, hI105, hF109, _, rfl, by decide⟩
  have c118 : a1.toInt < 0 ∨ 2 < a1.toInt := by omega
  refine r_tsw 88 (by unfold en_sw; rw [if_pos c118]; rfl) ?_
  refine At.enter rfl ?_
  refine r_aload_n rfl ?_
  refine r_bipush 42 rfl ?_
  refine r_callV 94 rfl [.ref 176, .int 42] [] (Nat.le_of_ble_eq_true rfl) rfl (T_X5_isSingle_176 _ hI0 42) ?_
  rintro _ _ ⟨g119, rfl, hI120, hF121, v122, rfl, hr123⟩
  refine At.sti ?_
  have hF124 := Fr.tr hF0 hF121 rfl rfl
  refine At.enter rfl ?_
  refine r_ifs 97 rfl (fun c125 => ?_) (fun c125 => ?_)
  · have c125_ : v122.toInt = 0 := en_k_eq_t c125
    refine At.enter rfl ?_
    refine r_aload_n rfl ?_
    refine r_bipush 47 rfl ?_
    refine r_callV 107 rfl [.ref 176, .int 47] [] (Nat.le_of_ble_eq_true rfl) rfl (T_X5_isSingle_176 _ hI120 47) ?_
    rintro _ _ ⟨g126, rfl, hI127, hF128, v129, rfl, hr130⟩
    refine At.sti ?_
    have hF131 := Fr.tr hF124 hF128 rfl rfl
    refine At.enter rfl ?_
    refine r_ifs 110 rfl (fun c132 => ?_) (fun c132 => ?_)
    · have c132_ : v129.toInt = 0 := en_k_eq_t c132
      refine At.enter rfl ?_
      refine r_iconst (-1) rfl ?_
      refine Ar.fall 115 rfl ?_
      refine At.enter rfl ?_
      refine r_ireti ?_
      exact ⟨_, rfl, hI127, hF131, _, rfl, by decide⟩
    · have c132_ : v129.toInt ≠ 0 := en_k_eq_f c132
      refine At.enter rfl ?_
      refine r_iconst 5 rfl ?_
      refine r_goto ?_
      refine At.enter rfl ?_
      refine r_ireti ?_
      exact ⟨_, rfl, hI127, hF131, _, rfl, by decide⟩
  · have c125_ : v122.toInt ≠ 0 := en_k_eq_f c125
    refine At.enter rfl ?_
    refine r_iconst 4 rfl ?_
    refine r_goto ?_
    refine At.enter rfl ?_
    refine r_ireti ?_
    exact ⟨_, rfl, hI120, hF124, _, rfl, by decide⟩

def F_X5_comparisonHere_176 : List (Nat × Nat) := []
def A_X5_comparisonHere_176 : List Nat := []
set_option maxRecDepth 100000 in
set_option maxHeartbeats 4000000 in
theorem T_X5_comparisonHere_176 (d : Nat) {N : Nat} {g0 : List en_E} (hI0 : HI g0) : Ev (d + 3) 68 [.ref 176] (g0, N) (fun w h' => ∃ g', h' = (g', N) ∧ HI g' ∧ Fr F_X5_comparisonHere_176 A_X5_comparisonHere_176 g0 g' ∧ ∃ r : Int32, w = some (.int r) ∧ ((-1) ≤ r.toInt ∧ r.toInt ≤ 8)) := by
  have hF0 : Fr F_X5_comparisonHere_176 A_X5_comparisonHere_176 g0 g0 := Fr.rf
  refine Ev.mk rfl rfl ⟨Nat.le_of_ble_eq_true rfl, Or.inr (q_rc hI0.1 kx_176 rfl)⟩ ?_
  show At _ none _ _ (0, [(0, .ref 176)], [], (_, _)) _
  refine At.enter rfl ?_
  refine r_aload_n rfl ?_
  refine r_bipush 60 rfl ?_
  refine r_callV 6 rfl [.ref 176, .int 60] [] (Nat.le_of_ble_eq_true rfl) rfl (T_X5_isSingle_176 _ hI0 60) ?_
  rintro _ _ ⟨g43, rfl, hI44, hF45, v46, rfl, hr47⟩
  refine At.sti ?_
  have hF48 := Fr.tr hF0 hF45 rfl rfl
  refine At.enter rfl ?_
  refine r_ifs 9 rfl (fun c49 => ?_) (fun c49 => ?_)
  · have c49_ : v46.toInt = 0 := en_k_eq_t c49
    refine At.enter rfl ?_
    refine r_aload_n rfl ?_
    refine r_bipush 62 rfl ?_
    refine r_callV 20 rfl [.ref 176, .int 62] [] (Nat.le_of_ble_eq_true rfl) rfl (T_X5_isSingle_176 _ hI44 62) ?_
    rintro _ _ ⟨g50, rfl, hI51, hF52, v53, rfl, hr54⟩
    refine At.sti ?_
    have hF55 := Fr.tr hF48 hF52 rfl rfl
    refine At.enter rfl ?_
    refine r_ifs 23 rfl (fun c56 => ?_) (fun c56 => ?_)
    · have c56_ : v53.toInt = 0 := en_k_eq_t c56
      refine At.enter rfl ?_
      refine r_aload_n rfl ?_
      refine r_bipush 61 rfl ?_
      refine r_callV 34 rfl [.ref 176, .int 61] [] (Nat.le_of_ble_eq_true rfl) rfl (T_X5_isSingle_176 _ hI51 61) ?_
      rintro _ _ ⟨g57, rfl, hI58, hF59, v60, rfl, hr61⟩
      refine At.sti ?_
      have hF62 := Fr.tr hF55 hF59 rfl rfl
      refine At.enter rfl ?_
      refine r_ifs 37 rfl (fun c63 => ?_) (fun c63 => ?_)
      · have c63_ : v60.toInt = 0 := en_k_eq_t c63
        refine At.enter rfl ?_
        refine r_iconst (-1) rfl ?_
        refine Ar.fall 43 rfl ?_
        refine At.enter rfl ?_
        refine r_ireti ?_
        exact ⟨_, rfl, hI58, hF62, _, rfl, by decide⟩
      · have c63_ : v60.toInt ≠ 0 := en_k_eq_f c63
        refine At.enter rfl ?_
        refine r_bipush 8 rfl ?_
        refine r_goto ?_
        refine At.enter rfl ?_
        refine r_ireti ?_
        exact ⟨_, rfl, hI58, hF62, _, rfl, by decide⟩
    · have c56_ : v53.toInt ≠ 0 := en_k_eq_f c56
      refine At.enter rfl ?_
      refine r_bipush 7 rfl ?_
      refine r_goto ?_
      refine At.enter rfl ?_
      refine r_ireti ?_
      exact ⟨_, rfl, hI51, hF55, _, rfl, by decide⟩
  · have c49_ : v46.toInt ≠ 0 := en_k_eq_f c49
    refine At.enter rfl ?_
    refine r_bipush 6 rfl ?_
    refine r_goto ?_
    refine At.enter rfl ?_
    refine r_ireti ?_
    exact ⟨_, rfl, hI44, hF48, _, rfl, by decide⟩

def F_X5_expect_176 : List (Nat × Nat) := [(176, 2), (176, 3), (176, 4), (176, 5)]
def A_X5_expect_176 : List Nat := []
set_option maxRecDepth 100000 in
set_option maxHeartbeats 4000000 in
theorem T_X5_expect_176 (d : Nat) {N : Nat} {g0 : List en_E} (hI0 : HI g0) (a1 : Int32) : Ev (d + 3) 71 [.ref 176, .int a1] (g0, N) (fun w h' => ∃ g', h' = (g', N) ∧ HI g' ∧ Fr F_X5_expect_176 A_X5_expect_176 g0 g' ∧ w = none) := by
  have hF0 : Fr F_X5_expect_176 A_X5_expect_176 g0 g0 := Fr.rf
  refine Ev.mk rfl rfl ⟨Nat.le_of_ble_eq_true rfl, Or.inr (q_rc hI0.1 kx_176 rfl)⟩ ?_
  show At _ none _ _ (0, [(0, .ref 176), (1, .int a1)], [], (_, _)) _
  refine At.enter rfl ?_
  refine r_aload_n rfl ?_
  refine r_iload_n rfl ?_
  refine r_callV 5 rfl [.ref 176, .int a1] [] (Nat.le_of_ble_eq_true rfl) rfl (T_X5_isSingle_176 _ hI0 a1) ?_
  rintro _ _ ⟨g37, rfl, hI38, hF39, v40, rfl, hr41⟩
  refine At.sti ?_
  have hF42 := Fr.tr hF0 hF39 rfl rfl
  refine At.enter rfl ?_
  refine r_ifs 8 rfl (fun c43 => ?_) (fun c43 => ?_)
  · have c43_ : v40.toInt = 0 := en_k_eq_t c43
    refine At.enter rfl ?_
    refine r_aload_n rfl ?_
    refine q_inlV 19 rfl [.ref 176] [] (Nat.le_of_ble_eq_true rfl) rfl ?_
    refine Ev.mk rfl rfl ⟨Nat.le_of_ble_eq_true rfl, Or.inr (q_rc hI38.1 kx_176 rfl)⟩ ?_
    show At _ none _ _ (0, [(0, .ref 176)], [], (_, _)) _
    refine At.enter rfl ?_
    refine r_aload_n rfl ?_
    obtain ⟨v44, hv44⟩ : ∃ v, gI g0 176 2 = v := ⟨_, rfl⟩
    refine q_getI (Sh.int hI38.1 kx_176 rfl) v44 ((hF39.1 176 2 (by decide)).trans hv44) ?_
    refine r_iconst (-1) rfl ?_
    refine r_ics 8 rfl (fun c45 => ?_) (fun c45 => ?_)
    · have c45_ : v44.toInt ≠ (-1) := en_i_ne_t c45
      refine At.enter rfl ?_
      refine q_vret ?_
      refine At.enter rfl ?_
      refine r_vret ?_
      exact ⟨_, rfl, hI38, hF42, rfl⟩
    · have c45_ : v44.toInt = (-1) := en_i_ne_f c45
      refine At.enter rfl ?_
      refine r_aload_n rfl ?_
      refine r_aload_n rfl ?_
      obtain ⟨v46, hv46⟩ : ∃ v, gI g0 176 4 = v := ⟨_, rfl⟩
      have rv46 := RgF.at hI0.2.1 (p := 176) (b := 4) rfl
      rw [hv46] at rv46
      dsimp only at rv46
      refine q_getI (Sh.int hI38.1 kx_176 rfl) v46 ((hF39.1 176 4 (by decide)).trans hv46) ?_
      refine q_putI (Sh.int hI38.1 kx_176 rfl) rfl ?_
      have hI47 := HI.wI0 hI38 kx_176 rfl (p := 176) (b := 2) (v := v46) rfl
      have hF48 := Fr.wI (p := 176) (b := 2) (v := v46) hF42 rfl
      refine Ar.fall 16 rfl ?_
      refine At.enter rfl ?_
      refine q_vret ?_
      refine At.enter rfl ?_
      refine r_vret ?_
      exact ⟨_, rfl, hI47, hF48, rfl⟩
  · have c43_ : v40.toInt ≠ 0 := en_k_eq_f c43
    refine At.enter rfl ?_
    refine r_aload_n rfl ?_
    refine r_callV 12 rfl [.ref 176] [] (Nat.le_of_ble_eq_true rfl) rfl (T_X5_step_176 _ hI38) ?_
    rintro _ _ ⟨g49, rfl, hI50, hF51, rfl⟩
    refine At.stn ?_
    have hF54 := Fr.tr hF42 hF51 rfl rfl
    refine At.enter rfl ?_
    refine r_goto ?_
    refine At.enter rfl ?_
    refine r_vret ?_
    exact ⟨_, rfl, hI50, hF54, rfl⟩

def QJ (n : Nat) : Prop := ∀ e : Nat, 4 * n + 20 ≤ e → ∀ {N : Nat} {g0 : List en_E}, HI g0 → ∀ (a1 : Int32) (h_a1 : 0 ≤ a1.toInt ∧ a1.toInt ≤ 3) (a2 : Int32) (h_a2 : 0 ≤ a2.toInt ∧ a2.toInt ≤ 8), 10 * (9 - a2.toInt) + (8 - 2 * a1.toInt) ≤ (n : Int) → Ev e 65 [.ref 176, .int a1, .int a2] (g0, N) (fun w h' => ∃ g', h' = (g', N) ∧ HI g' ∧ Fr F_rd A_rd g0 g' ∧ w = none)
def QP (n : Nat) : Prop := ∀ e : Nat, 4 * n + 20 ≤ e → ∀ {N : Nat} {g0 : List en_E}, HI g0 → ∀ (a1 : Int32) (h_a1 : 0 ≤ a1.toInt ∧ a1.toInt ≤ 8), 10 * (9 - a1.toInt) + 5 ≤ (n : Int) → Ev e 67 [.ref 176, .int a1] (g0, N) (fun w h' => ∃ g', h' = (g', N) ∧ HI g' ∧ Fr F_rd A_rd g0 g' ∧ w = none)
def QT (n : Nat) : Prop := ∀ e : Nat, 4 * n + 20 ≤ e → ∀ {N : Nat} {g0 : List en_E}, HI g0 → ∀ (a1 : Int32) (h_a1 : 0 ≤ a1.toInt ∧ a1.toInt ≤ 8), 10 * (9 - a1.toInt) + 1 ≤ (n : Int) → Ev e 69 [.ref 176, .int a1] (g0, N) (fun w h' => ∃ g', h' = (g', N) ∧ HI g' ∧ Fr F_rd A_rd g0 g' ∧ w = none)

set_option maxRecDepth 100000 in
set_option maxHeartbeats 4000000 in
theorem S_X5_readJoined_176 (n : Nat) (IHJ : QJ n) (IHP : QP n) (IHT : QT n) : QJ (n + 1) := by
  intro e he N g0 hI0 a1 h_a1 a2 h_a2 hm
  obtain ⟨d, rfl⟩ : ∃ d, e = d + 4 := ⟨e - 4, by omega⟩
  have hF0 : Fr F_rd A_rd g0 g0 := Fr.rf
  refine Ev.mk rfl rfl ⟨Nat.le_of_ble_eq_true rfl, Or.inr (q_rc hI0.1 kx_176 rfl)⟩ ?_
  show At _ none _ _ (0, [(0, .ref 176), (1, .int a1), (2, .int a2)], [], (_, _)) _
  refine At.enter rfl ?_
  refine r_iconst (-1) rfl ?_
  refine r_istore_n ([(3, .int (-1)), (0, .ref 176), (1, .int a1), (2, .int a2)]) rfl ?_
  refine r_iconst (-1) rfl ?_
  refine r_istore ([(4, .int (-1)), (3, .int (-1)), (0, .ref 176), (1, .int a1), (2, .int a2)]) rfl ?_
  refine r_iconst 0 rfl ?_
  refine r_istore ([(5, .int 0), (4, .int (-1)), (3, .int (-1)), (0, .ref 176), (1, .int a1), (2, .int a2)]) rfl ?_
  refine Ar.fall 8 rfl ?_
  have z_14003 : ((-1) : Int32).toInt = (-1) := rfl
  have z_14004 : ((-1) : Int32).toInt = (-1) := rfl
  have z_14005 : (0 : Int32).toInt = 0 := rfl
  refine w_loopI (fun n_ l_ g_ => ∃ x13985 : Int32, ∃ x13986 : Int32, ∃ x13987 : Int32, n_ = 400 - x13987.toInt ∧ HI g_ ∧ Fr F_rd A_rd g0 g_ ∧ en_get 0 l_ = some (.ref 176) ∧ en_get 1 l_ = some (.int a1) ∧ en_get 2 l_ = some (.int a2) ∧ en_get 3 l_ = some (.int x13985) ∧ en_get 4 l_ = some (.int x13986) ∧ en_get 5 l_ = some (.int x13987) ∧ ((-1) ≤ x13985.toInt ∧ x13985.toInt ≤ 11) ∧ ((-1) ≤ x13986.toInt ∧ x13986.toInt ≤ 399) ∧ (0 ≤ x13987.toInt ∧ x13987.toInt ≤ 400)) ?_ (400 - 0) ⟨(-1), (-1), 0, by first | rfl | omega, hI0, hF0, rfl, rfl, rfl, rfl, rfl, rfl, by decide, by decide, by decide⟩
  rintro n13992 l13991 g13988 ⟨x13985, x13986, x13987, hm14006, hI13989, hF13990, e13994, e13995, e13996, e13997, e13998, e13999, r14000, r14001, r14002⟩ ih13993
  refine At.enter rfl ?_
  refine r_iload e13999 ?_
  refine r_sipush 400 rfl ?_
  refine r_ics 16 rfl (fun c14007 => ?_) (fun c14007 => ?_)
  · have c14007_ : x13987.toInt ≥ 400 := en_i_ge_t c14007
    refine At.enter rfl ?_
    refine r_vret ?_
    exact ⟨_, rfl, hI13989, hF13990, rfl⟩
  · have c14007_ : x13987.toInt < 400 := en_i_ge_f c14007
    refine At.enter rfl ?_
    refine r_iload_n e13995 ?_
    refine r_iconst 1 rfl ?_
    refine r_ics 21 rfl (fun c14008 => ?_) (fun c14008 => ?_)
    · have c14008_ : a1.toInt ≠ 1 := en_i_ne_t c14008
      refine At.enter rfl ?_
      refine r_iload_n e13995 ?_
      refine r_iconst 3 rfl ?_
      refine r_ics 34 rfl (fun c14009 => ?_) (fun c14009 => ?_)
      · have c14009_ : a1.toInt ≠ 3 := en_i_ne_t c14009
        refine At.enter rfl ?_
        refine r_aload_n e13994 ?_
        refine r_iload_n e13995 ?_
        refine r_iconst 1 rfl ?_
        refine q_iadd (a1.toInt + 1) rfl (by omega) (fun v14010 hv14010 => ?_)
        refine r_iload_n e13996 ?_
        refine r_callV 50 rfl [.ref 176, .int v14010, .int a2] [] (Nat.le_of_ble_eq_true rfl) rfl (IHJ _ (by omega) hI13989 v14010 (by omega) a2 (by omega) (by omega)) ?_
        rintro _ _ ⟨g14011, rfl, hI14012, hF14013, rfl⟩
        refine At.stn ?_
        have hF14016 := Fr.tr hF13990 hF14013 rfl rfl
        refine At.enter rfl ?_
        refine r_iload e13998 ?_
        refine r_iconst (-1) rfl ?_
        refine r_ics 56 rfl (fun c14017 => ?_) (fun c14017 => ?_)
        · have c14017_ : x13986.toInt = (-1) := en_i_eq_t c14017
          refine At.enter rfl ?_
          refine r_iload_n e13997 ?_
          refine r_iconst (-1) rfl ?_
          refine r_ics 73 rfl (fun c14018 => ?_) (fun c14018 => ?_)
          · have c14018_ : x13985.toInt = (-1) := en_i_eq_t c14018
            refine At.enter rfl ?_
            refine r_aload_n e13994 ?_
            obtain ⟨v14019, hv14019⟩ : ∃ v, gI g14011 176 2 = v := ⟨_, rfl⟩
            refine q_getI (Sh.int hI14012.1 kx_176 rfl) v14019 hv14019 ?_
            refine r_iconst (-1) rfl ?_
            refine r_ics 91 rfl (fun c14020 => ?_) (fun c14020 => ?_)
            · have c14020_ : v14019.toInt ≠ (-1) := en_i_ne_t c14020
              refine At.enter rfl ?_
              refine r_iconst (-1) rfl ?_
              refine Ar.fall 100 rfl ?_
              refine At.enter rfl ?_
              refine r_istore_n _ rfl ?_
              refine r_iload_n (w_e1 _ _ _) ?_
              refine r_iconst (-1) rfl ?_
              refine r_icf 106 rfl (by decide) ?_
              refine At.enter rfl ?_
              refine r_vret ?_
              exact ⟨_, rfl, hI14012, hF14016, rfl⟩
            · have c14020_ : v14019.toInt = (-1) := en_i_ne_f c14020
              refine At.enter rfl ?_
              refine r_aload_n e13994 ?_
              refine r_iload_n e13995 ?_
              refine r_callV 96 rfl [.ref 176, .int a1] [] (Nat.le_of_ble_eq_true rfl) rfl (T_X5_joinHere_176 _ hI14012 a1) ?_
              rintro _ _ ⟨g14021, rfl, hI14022, hF14023, v14024, rfl, hr14025⟩
              refine At.sti ?_
              have hF14026 := Fr.tr hF14016 hF14023 rfl rfl
              refine At.enter rfl ?_
              refine r_goto ?_
              refine At.enter rfl ?_
              refine r_istore_n _ rfl ?_
              refine r_iload_n (w_e1 _ _ _) ?_
              refine r_iconst (-1) rfl ?_
              refine r_ics 106 rfl (fun c14027 => ?_) (fun c14027 => ?_)
              · have c14027_ : v14024.toInt ≠ (-1) := en_i_ne_t c14027
                refine At.enter rfl ?_
                refine r_aload_n (w_p1 (by decide) (Or.inr rfl) e13994) ?_
                refine r_callV 111 rfl [.ref 176] [] (Nat.le_of_ble_eq_true rfl) rfl (T_X5_step_176 _ hI14022) ?_
                rintro _ _ ⟨g14028, rfl, hI14029, hF14030, rfl⟩
                refine At.stn ?_
                have hF14033 := Fr.tr hF14026 hF14030 rfl rfl
                refine At.enter rfl ?_
                refine r_iload_n (w_p1 (by decide) (Or.inr rfl) e13995) ?_
                refine r_ifs 115 rfl (fun c14034 => ?_) (fun c14034 => ?_)
                · have c14034_ : a1.toInt = 0 := en_k_eq_t c14034
                  refine At.enter rfl ?_
                  refine r_aload_n (w_p1 (by decide) (Or.inr rfl) e13994) ?_
                  refine q_getR (Sh.ref hI14029.1 kx_176 rfl) ?_
                  refine r_iload_n (w_e1 _ _ _) ?_
                  refine r_iconst 0 rfl ?_
                  refine r_callV 129 rfl [.ref 177, .int v14024, .int 0] [] (Nat.le_of_ble_eq_true rfl) rfl (T_X4_add_177 _ hI14029 v14024 0) ?_
                  rintro _ _ ⟨g14035, rfl, hI14036, hF14037, v14038, rfl, hr14039⟩
                  refine At.sti ?_
                  have hF14040 := Fr.tr hF14033 hF14037 rfl rfl
                  refine At.enter rfl ?_
                  refine r_goto ?_
                  refine At.enter rfl ?_
                  refine r_istore _ rfl ?_
                  refine q_iinc (w_p1 (by decide) (Or.inr rfl) (w_p1 (by decide) (Or.inr rfl) e13999)) (x13987.toInt + 1) rfl (by omega) (fun v14041 hv14041 => ?_)
                  refine r_goto ?_
                  exact ih13993 (400 - v14041.toInt) _ _ ⟨v14024, v14038, v14041, by first | rfl | omega, hI14036, hF14040, (w_p1 (by decide) (Or.inr rfl) (w_p1 (by decide) (Or.inr rfl) (w_p1 (by decide) (Or.inr rfl) e13994))), (w_p1 (by decide) (Or.inr rfl) (w_p1 (by decide) (Or.inr rfl) (w_p1 (by decide) (Or.inr rfl) e13995))), (w_p1 (by decide) (Or.inr rfl) (w_p1 (by decide) (Or.inr rfl) (w_p1 (by decide) (Or.inr rfl) e13996))), (w_p1 (by decide) (Or.inr rfl) (w_p1 (by decide) (Or.inr rfl) (w_e1 _ _ _))), (w_p1 (by decide) (Or.inr rfl) (w_e1 _ _ _)), (w_e1 _ _ _), by omega, by omega, by omega⟩ ⟨by omega, by omega⟩
                · have c14034_ : a1.toInt ≠ 0 := en_k_eq_f c14034
                  refine At.enter rfl ?_
                  refine r_iload_n (w_p1 (by decide) (Or.inr rfl) e13995) ?_
                  refine r_iconst 1 rfl ?_
                  refine r_ics 120 rfl (fun c14042 => ?_) (fun c14042 => ?_)
                  · have c14042_ : a1.toInt ≠ 1 := en_i_ne_t c14042
                    refine At.enter rfl ?_
                    refine r_iconst (-1) rfl ?_
                    refine Ar.fall 133 rfl ?_
                    refine At.enter rfl ?_
                    refine r_istore _ rfl ?_
                    refine q_iinc (w_p1 (by decide) (Or.inr rfl) (w_p1 (by decide) (Or.inr rfl) e13999)) (x13987.toInt + 1) rfl (by omega) (fun v14043 hv14043 => ?_)
                    refine r_goto ?_
                    exact ih13993 (400 - v14043.toInt) _ _ ⟨v14024, (-1), v14043, by first | rfl | omega, hI14029, hF14033, (w_p1 (by decide) (Or.inr rfl) (w_p1 (by decide) (Or.inr rfl) (w_p1 (by decide) (Or.inr rfl) e13994))), (w_p1 (by decide) (Or.inr rfl) (w_p1 (by decide) (Or.inr rfl) (w_p1 (by decide) (Or.inr rfl) e13995))), (w_p1 (by decide) (Or.inr rfl) (w_p1 (by decide) (Or.inr rfl) (w_p1 (by decide) (Or.inr rfl) e13996))), (w_p1 (by decide) (Or.inr rfl) (w_p1 (by decide) (Or.inr rfl) (w_e1 _ _ _))), (w_p1 (by decide) (Or.inr rfl) (w_e1 _ _ _)), (w_e1 _ _ _), by omega, by decide, by omega⟩ ⟨by omega, by omega⟩
                  · have c14042_ : a1.toInt = 1 := en_i_ne_f c14042
                    refine At.enter rfl ?_
                    refine r_aload_n (w_p1 (by decide) (Or.inr rfl) e13994) ?_
                    refine q_getR (Sh.ref hI14029.1 kx_176 rfl) ?_
                    refine r_iload_n (w_e1 _ _ _) ?_
                    refine r_iconst 0 rfl ?_
                    refine r_callV 129 rfl [.ref 177, .int v14024, .int 0] [] (Nat.le_of_ble_eq_true rfl) rfl (T_X4_add_177 _ hI14029 v14024 0) ?_
                    rintro _ _ ⟨g14044, rfl, hI14045, hF14046, v14047, rfl, hr14048⟩
                    refine At.sti ?_
                    have hF14049 := Fr.tr hF14033 hF14046 rfl rfl
                    refine At.enter rfl ?_
                    refine r_goto ?_
                    refine At.enter rfl ?_
                    refine r_istore _ rfl ?_
                    refine q_iinc (w_p1 (by decide) (Or.inr rfl) (w_p1 (by decide) (Or.inr rfl) e13999)) (x13987.toInt + 1) rfl (by omega) (fun v14050 hv14050 => ?_)
                    refine r_goto ?_
                    exact ih13993 (400 - v14050.toInt) _ _ ⟨v14024, v14047, v14050, by first | rfl | omega, hI14045, hF14049, (w_p1 (by decide) (Or.inr rfl) (w_p1 (by decide) (Or.inr rfl) (w_p1 (by decide) (Or.inr rfl) e13994))), (w_p1 (by decide) (Or.inr rfl) (w_p1 (by decide) (Or.inr rfl) (w_p1 (by decide) (Or.inr rfl) e13995))), (w_p1 (by decide) (Or.inr rfl) (w_p1 (by decide) (Or.inr rfl) (w_p1 (by decide) (Or.inr rfl) e13996))), (w_p1 (by decide) (Or.inr rfl) (w_p1 (by decide) (Or.inr rfl) (w_e1 _ _ _))), (w_p1 (by decide) (Or.inr rfl) (w_e1 _ _ _)), (w_e1 _ _ _), by omega, by omega, by omega⟩ ⟨by omega, by omega⟩
              · have c14027_ : v14024.toInt = (-1) := en_i_ne_f c14027
                refine At.enter rfl ?_
                refine r_vret ?_
                exact ⟨_, rfl, hI14022, hF14026, rfl⟩
          · have c14018_ : x13985.toInt ≠ (-1) := en_i_eq_f c14018
            refine At.enter rfl ?_
            refine r_aload_n e13994 ?_
            refine q_getR (Sh.ref hI14012.1 kx_176 rfl) ?_
            refine r_iload_n e13997 ?_
            refine r_iconst 0 rfl ?_
            refine r_callV 82 rfl [.ref 177, .int x13985, .int 0] [] (Nat.le_of_ble_eq_true rfl) rfl (T_X4_add_177 _ hI14012 x13985 0) ?_
            rintro _ _ ⟨g14051, rfl, hI14052, hF14053, v14054, rfl, hr14055⟩
            refine At.sti ?_
            have hF14056 := Fr.tr hF14016 hF14053 rfl rfl
            refine At.enter rfl ?_
            refine r_pop rfl ?_
            refine Ar.fall 83 rfl ?_
            refine At.enter rfl ?_
            refine r_aload_n e13994 ?_
            obtain ⟨v14057, hv14057⟩ : ∃ v, gI g14011 176 2 = v := ⟨_, rfl⟩
            refine q_getI (Sh.int hI14052.1 kx_176 rfl) v14057 ((hF14053.1 176 2 (by decide)).trans hv14057) ?_
            refine r_iconst (-1) rfl ?_
            refine r_ics 91 rfl (fun c14058 => ?_) (fun c14058 => ?_)
            · have c14058_ : v14057.toInt ≠ (-1) := en_i_ne_t c14058
              refine At.enter rfl ?_
              refine r_iconst (-1) rfl ?_
              refine Ar.fall 100 rfl ?_
              refine At.enter rfl ?_
              refine r_istore_n _ rfl ?_
              refine r_iload_n (w_e1 _ _ _) ?_
              refine r_iconst (-1) rfl ?_
              refine r_icf 106 rfl (by decide) ?_
              refine At.enter rfl ?_
              refine r_vret ?_
              exact ⟨_, rfl, hI14052, hF14056, rfl⟩
            · have c14058_ : v14057.toInt = (-1) := en_i_ne_f c14058
              refine At.enter rfl ?_
              refine r_aload_n e13994 ?_
              refine r_iload_n e13995 ?_
              refine r_callV 96 rfl [.ref 176, .int a1] [] (Nat.le_of_ble_eq_true rfl) rfl (T_X5_joinHere_176 _ hI14052 a1) ?_
              rintro _ _ ⟨g14059, rfl, hI14060, hF14061, v14062, rfl, hr14063⟩
              refine At.sti ?_
              have hF14064 := Fr.tr hF14056 hF14061 rfl rfl
              refine At.enter rfl ?_
              refine r_goto ?_
              refine At.enter rfl ?_
              refine r_istore_n _ rfl ?_
              refine r_iload_n (w_e1 _ _ _) ?_
              refine r_iconst (-1) rfl ?_
              refine r_ics 106 rfl (fun c14065 => ?_) (fun c14065 => ?_)
              · have c14065_ : v14062.toInt ≠ (-1) := en_i_ne_t c14065
                refine At.enter rfl ?_
                refine r_aload_n (w_p1 (by decide) (Or.inr rfl) e13994) ?_
                refine r_callV 111 rfl [.ref 176] [] (Nat.le_of_ble_eq_true rfl) rfl (T_X5_step_176 _ hI14060) ?_
                rintro _ _ ⟨g14066, rfl, hI14067, hF14068, rfl⟩
                refine At.stn ?_
                have hF14071 := Fr.tr hF14064 hF14068 rfl rfl
                refine At.enter rfl ?_
                refine r_iload_n (w_p1 (by decide) (Or.inr rfl) e13995) ?_
                refine r_ifs 115 rfl (fun c14072 => ?_) (fun c14072 => ?_)
                · have c14072_ : a1.toInt = 0 := en_k_eq_t c14072
                  refine At.enter rfl ?_
                  refine r_aload_n (w_p1 (by decide) (Or.inr rfl) e13994) ?_
                  refine q_getR (Sh.ref hI14067.1 kx_176 rfl) ?_
                  refine r_iload_n (w_e1 _ _ _) ?_
                  refine r_iconst 0 rfl ?_
                  refine r_callV 129 rfl [.ref 177, .int v14062, .int 0] [] (Nat.le_of_ble_eq_true rfl) rfl (T_X4_add_177 _ hI14067 v14062 0) ?_
                  rintro _ _ ⟨g14073, rfl, hI14074, hF14075, v14076, rfl, hr14077⟩
                  refine At.sti ?_
                  have hF14078 := Fr.tr hF14071 hF14075 rfl rfl
                  refine At.enter rfl ?_
                  refine r_goto ?_
                  refine At.enter rfl ?_
                  refine r_istore _ rfl ?_
                  refine q_iinc (w_p1 (by decide) (Or.inr rfl) (w_p1 (by decide) (Or.inr rfl) e13999)) (x13987.toInt + 1) rfl (by omega) (fun v14079 hv14079 => ?_)
                  refine r_goto ?_
                  exact ih13993 (400 - v14079.toInt) _ _ ⟨v14062, v14076, v14079, by first | rfl | omega, hI14074, hF14078, (w_p1 (by decide) (Or.inr rfl) (w_p1 (by decide) (Or.inr rfl) (w_p1 (by decide) (Or.inr rfl) e13994))), (w_p1 (by decide) (Or.inr rfl) (w_p1 (by decide) (Or.inr rfl) (w_p1 (by decide) (Or.inr rfl) e13995))), (w_p1 (by decide) (Or.inr rfl) (w_p1 (by decide) (Or.inr rfl) (w_p1 (by decide) (Or.inr rfl) e13996))), (w_p1 (by decide) (Or.inr rfl) (w_p1 (by decide) (Or.inr rfl) (w_e1 _ _ _))), (w_p1 (by decide) (Or.inr rfl) (w_e1 _ _ _)), (w_e1 _ _ _), by omega, by omega, by omega⟩ ⟨by omega, by omega⟩
                · have c14072_ : a1.toInt ≠ 0 := en_k_eq_f c14072
                  refine At.enter rfl ?_
                  refine r_iload_n (w_p1 (by decide) (Or.inr rfl) e13995) ?_
                  refine r_iconst 1 rfl ?_
                  refine r_ics 120 rfl (fun c14080 => ?_) (fun c14080 => ?_)
                  · have c14080_ : a1.toInt ≠ 1 := en_i_ne_t c14080
                    refine At.enter rfl ?_
                    refine r_iconst (-1) rfl ?_
                    refine Ar.fall 133 rfl ?_
                    refine At.enter rfl ?_
                    refine r_istore _ rfl ?_
                    refine q_iinc (w_p1 (by decide) (Or.inr rfl) (w_p1 (by decide) (Or.inr rfl) e13999)) (x13987.toInt + 1) rfl (by omega) (fun v14081 hv14081 => ?_)
                    refine r_goto ?_
                    exact ih13993 (400 - v14081.toInt) _ _ ⟨v14062, (-1), v14081, by first | rfl | omega, hI14067, hF14071, (w_p1 (by decide) (Or.inr rfl) (w_p1 (by decide) (Or.inr rfl) (w_p1 (by decide) (Or.inr rfl) e13994))), (w_p1 (by decide) (Or.inr rfl) (w_p1 (by decide) (Or.inr rfl) (w_p1 (by decide) (Or.inr rfl) e13995))), (w_p1 (by decide) (Or.inr rfl) (w_p1 (by decide) (Or.inr rfl) (w_p1 (by decide) (Or.inr rfl) e13996))), (w_p1 (by decide) (Or.inr rfl) (w_p1 (by decide) (Or.inr rfl) (w_e1 _ _ _))), (w_p1 (by decide) (Or.inr rfl) (w_e1 _ _ _)), (w_e1 _ _ _), by omega, by decide, by omega⟩ ⟨by omega, by omega⟩
                  · have c14080_ : a1.toInt = 1 := en_i_ne_f c14080
                    refine At.enter rfl ?_
                    refine r_aload_n (w_p1 (by decide) (Or.inr rfl) e13994) ?_
                    refine q_getR (Sh.ref hI14067.1 kx_176 rfl) ?_
                    refine r_iload_n (w_e1 _ _ _) ?_
                    refine r_iconst 0 rfl ?_
                    refine r_callV 129 rfl [.ref 177, .int v14062, .int 0] [] (Nat.le_of_ble_eq_true rfl) rfl (T_X4_add_177 _ hI14067 v14062 0) ?_
                    rintro _ _ ⟨g14082, rfl, hI14083, hF14084, v14085, rfl, hr14086⟩
                    refine At.sti ?_
                    have hF14087 := Fr.tr hF14071 hF14084 rfl rfl
                    refine At.enter rfl ?_
                    refine r_goto ?_
                    refine At.enter rfl ?_
                    refine r_istore _ rfl ?_
                    refine q_iinc (w_p1 (by decide) (Or.inr rfl) (w_p1 (by decide) (Or.inr rfl) e13999)) (x13987.toInt + 1) rfl (by omega) (fun v14088 hv14088 => ?_)
                    refine r_goto ?_
                    exact ih13993 (400 - v14088.toInt) _ _ ⟨v14062, v14085, v14088, by first | rfl | omega, hI14083, hF14087, (w_p1 (by decide) (Or.inr rfl) (w_p1 (by decide) (Or.inr rfl) (w_p1 (by decide) (Or.inr rfl) e13994))), (w_p1 (by decide) (Or.inr rfl) (w_p1 (by decide) (Or.inr rfl) (w_p1 (by decide) (Or.inr rfl) e13995))), (w_p1 (by decide) (Or.inr rfl) (w_p1 (by decide) (Or.inr rfl) (w_p1 (by decide) (Or.inr rfl) e13996))), (w_p1 (by decide) (Or.inr rfl) (w_p1 (by decide) (Or.inr rfl) (w_e1 _ _ _))), (w_p1 (by decide) (Or.inr rfl) (w_e1 _ _ _)), (w_e1 _ _ _), by omega, by omega, by omega⟩ ⟨by omega, by omega⟩
              · have c14065_ : v14062.toInt = (-1) := en_i_ne_f c14065
                refine At.enter rfl ?_
                refine r_vret ?_
                exact ⟨_, rfl, hI14060, hF14064, rfl⟩
        · have c14017_ : x13986.toInt ≠ (-1) := en_i_eq_f c14017
          refine At.enter rfl ?_
          refine r_aload_n e13994 ?_
          refine q_getR (Sh.ref hI14012.1 kx_176 rfl) ?_
          refine r_iload e13998 ?_
          refine r_callV 65 rfl [.ref 177, .int x13986] [] (Nat.le_of_ble_eq_true rfl) rfl (T_X4_aimAtEnd_177 _ hI14012 x13986) ?_
          rintro _ _ ⟨g14089, rfl, hI14090, hF14091, rfl⟩
          refine At.stn ?_
          have hF14094 := Fr.tr hF14016 hF14091 rfl rfl
          refine At.enter rfl ?_
          refine r_goto ?_
          refine At.enter rfl ?_
          refine r_aload_n e13994 ?_
          obtain ⟨v14095, hv14095⟩ : ∃ v, gI g14011 176 2 = v := ⟨_, rfl⟩
          refine q_getI (Sh.int hI14090.1 kx_176 rfl) v14095 ((hF14091.1 176 2 (by decide)).trans hv14095) ?_
          refine r_iconst (-1) rfl ?_
          refine r_ics 91 rfl (fun c14096 => ?_) (fun c14096 => ?_)
          · have c14096_ : v14095.toInt ≠ (-1) := en_i_ne_t c14096
            refine At.enter rfl ?_
            refine r_iconst (-1) rfl ?_
            refine Ar.fall 100 rfl ?_
            refine At.enter rfl ?_
            refine r_istore_n _ rfl ?_
            refine r_iload_n (w_e1 _ _ _) ?_
            refine r_iconst (-1) rfl ?_
            refine r_icf 106 rfl (by decide) ?_
            refine At.enter rfl ?_
            refine r_vret ?_
            exact ⟨_, rfl, hI14090, hF14094, rfl⟩
          · have c14096_ : v14095.toInt = (-1) := en_i_ne_f c14096
            refine At.enter rfl ?_
            refine r_aload_n e13994 ?_
            refine r_iload_n e13995 ?_
            refine r_callV 96 rfl [.ref 176, .int a1] [] (Nat.le_of_ble_eq_true rfl) rfl (T_X5_joinHere_176 _ hI14090 a1) ?_
            rintro _ _ ⟨g14097, rfl, hI14098, hF14099, v14100, rfl, hr14101⟩
            refine At.sti ?_
            have hF14102 := Fr.tr hF14094 hF14099 rfl rfl
            refine At.enter rfl ?_
            refine r_goto ?_
            refine At.enter rfl ?_
            refine r_istore_n _ rfl ?_
            refine r_iload_n (w_e1 _ _ _) ?_
            refine r_iconst (-1) rfl ?_
            refine r_ics 106 rfl (fun c14103 => ?_) (fun c14103 => ?_)
            · have c14103_ : v14100.toInt ≠ (-1) := en_i_ne_t c14103
              refine At.enter rfl ?_
              refine r_aload_n (w_p1 (by decide) (Or.inr rfl) e13994) ?_
              refine r_callV 111 rfl [.ref 176] [] (Nat.le_of_ble_eq_true rfl) rfl (T_X5_step_176 _ hI14098) ?_
              rintro _ _ ⟨g14104, rfl, hI14105, hF14106, rfl⟩
              refine At.stn ?_
              have hF14109 := Fr.tr hF14102 hF14106 rfl rfl
              refine At.enter rfl ?_
              refine r_iload_n (w_p1 (by decide) (Or.inr rfl) e13995) ?_
              refine r_ifs 115 rfl (fun c14110 => ?_) (fun c14110 => ?_)
              · have c14110_ : a1.toInt = 0 := en_k_eq_t c14110
                refine At.enter rfl ?_
                refine r_aload_n (w_p1 (by decide) (Or.inr rfl) e13994) ?_
                refine q_getR (Sh.ref hI14105.1 kx_176 rfl) ?_
                refine r_iload_n (w_e1 _ _ _) ?_
                refine r_iconst 0 rfl ?_
                refine r_callV 129 rfl [.ref 177, .int v14100, .int 0] [] (Nat.le_of_ble_eq_true rfl) rfl (T_X4_add_177 _ hI14105 v14100 0) ?_
                rintro _ _ ⟨g14111, rfl, hI14112, hF14113, v14114, rfl, hr14115⟩
                refine At.sti ?_
                have hF14116 := Fr.tr hF14109 hF14113 rfl rfl
                refine At.enter rfl ?_
                refine r_goto ?_
                refine At.enter rfl ?_
                refine r_istore _ rfl ?_
                refine q_iinc (w_p1 (by decide) (Or.inr rfl) (w_p1 (by decide) (Or.inr rfl) e13999)) (x13987.toInt + 1) rfl (by omega) (fun v14117 hv14117 => ?_)
                refine r_goto ?_
                exact ih13993 (400 - v14117.toInt) _ _ ⟨v14100, v14114, v14117, by first | rfl | omega, hI14112, hF14116, (w_p1 (by decide) (Or.inr rfl) (w_p1 (by decide) (Or.inr rfl) (w_p1 (by decide) (Or.inr rfl) e13994))), (w_p1 (by decide) (Or.inr rfl) (w_p1 (by decide) (Or.inr rfl) (w_p1 (by decide) (Or.inr rfl) e13995))), (w_p1 (by decide) (Or.inr rfl) (w_p1 (by decide) (Or.inr rfl) (w_p1 (by decide) (Or.inr rfl) e13996))), (w_p1 (by decide) (Or.inr rfl) (w_p1 (by decide) (Or.inr rfl) (w_e1 _ _ _))), (w_p1 (by decide) (Or.inr rfl) (w_e1 _ _ _)), (w_e1 _ _ _), by omega, by omega, by omega⟩ ⟨by omega, by omega⟩
              · have c14110_ : a1.toInt ≠ 0 := en_k_eq_f c14110
                refine At.enter rfl ?_
                refine r_iload_n (w_p1 (by decide) (Or.inr rfl) e13995) ?_
                refine r_iconst 1 rfl ?_
                refine r_ics 120 rfl (fun c14118 => ?_) (fun c14118 => ?_)
                · have c14118_ : a1.toInt ≠ 1 := en_i_ne_t c14118
                  refine At.enter rfl ?_
                  refine r_iconst (-1) rfl ?_
                  refine Ar.fall 133 rfl ?_
                  refine At.enter rfl ?_
                  refine r_istore _ rfl ?_
                  refine q_iinc (w_p1 (by decide) (Or.inr rfl) (w_p1 (by decide) (Or.inr rfl) e13999)) (x13987.toInt + 1) rfl (by omega) (fun v14119 hv14119 => ?_)
                  refine r_goto ?_
                  exact ih13993 (400 - v14119.toInt) _ _ ⟨v14100, (-1), v14119, by first | rfl | omega, hI14105, hF14109, (w_p1 (by decide) (Or.inr rfl) (w_p1 (by decide) (Or.inr rfl) (w_p1 (by decide) (Or.inr rfl) e13994))), (w_p1 (by decide) (Or.inr rfl) (w_p1 (by decide) (Or.inr rfl) (w_p1 (by decide) (Or.inr rfl) e13995))), (w_p1 (by decide) (Or.inr rfl) (w_p1 (by decide) (Or.inr rfl) (w_p1 (by decide) (Or.inr rfl) e13996))), (w_p1 (by decide) (Or.inr rfl) (w_p1 (by decide) (Or.inr rfl) (w_e1 _ _ _))), (w_p1 (by decide) (Or.inr rfl) (w_e1 _ _ _)), (w_e1 _ _ _), by omega, by decide, by omega⟩ ⟨by omega, by omega⟩
                · have c14118_ : a1.toInt = 1 := en_i_ne_f c14118
                  refine At.enter rfl ?_
                  refine r_aload_n (w_p1 (by decide) (Or.inr rfl) e13994) ?_
                  refine q_getR (Sh.ref hI14105.1 kx_176 rfl) ?_
                  refine r_iload_n (w_e1 _ _ _) ?_
                  refine r_iconst 0 rfl ?_
                  refine r_callV 129 rfl [.ref 177, .int v14100, .int 0] [] (Nat.le_of_ble_eq_true rfl) rfl (T_X4_add_177 _ hI14105 v14100 0) ?_
                  rintro _ _ ⟨g14120, rfl, hI14121, hF14122, v14123, rfl, hr14124⟩
                  refine At.sti ?_
                  have hF14125 := Fr.tr hF14109 hF14122 rfl rfl
                  refine At.enter rfl ?_
                  refine r_goto ?_
                  refine At.enter rfl ?_
                  refine r_istore _ rfl ?_
                  refine q_iinc (w_p1 (by decide) (Or.inr rfl) (w_p1 (by decide) (Or.inr rfl) e13999)) (x13987.toInt + 1) rfl (by omega) (fun v14126 hv14126 => ?_)
                  refine r_goto ?_
                  exact ih13993 (400 - v14126.toInt) _ _ ⟨v14100, v14123, v14126, by first | rfl | omega, hI14121, hF14125, (w_p1 (by decide) (Or.inr rfl) (w_p1 (by decide) (Or.inr rfl) (w_p1 (by decide) (Or.inr rfl) e13994))), (w_p1 (by decide) (Or.inr rfl) (w_p1 (by decide) (Or.inr rfl) (w_p1 (by decide) (Or.inr rfl) e13995))), (w_p1 (by decide) (Or.inr rfl) (w_p1 (by decide) (Or.inr rfl) (w_p1 (by decide) (Or.inr rfl) e13996))), (w_p1 (by decide) (Or.inr rfl) (w_p1 (by decide) (Or.inr rfl) (w_e1 _ _ _))), (w_p1 (by decide) (Or.inr rfl) (w_e1 _ _ _)), (w_e1 _ _ _), by omega, by omega, by omega⟩ ⟨by omega, by omega⟩
            · have c14103_ : v14100.toInt = (-1) := en_i_ne_f c14103
              refine At.enter rfl ?_
              refine r_vret ?_
              exact ⟨_, rfl, hI14098, hF14102, rfl⟩
      · have c14009_ : a1.toInt = 3 := en_i_ne_f c14009
        refine At.enter rfl ?_
        refine r_aload_n e13994 ?_
        refine r_iload_n e13996 ?_
        refine r_callV 39 rfl [.ref 176, .int a2] [] (Nat.le_of_ble_eq_true rfl) rfl (IHT _ (by omega) hI13989 a2 (by omega) (by omega)) ?_
        rintro _ _ ⟨g14127, rfl, hI14128, hF14129, rfl⟩
        refine At.stn ?_
        have hF14132 := Fr.tr hF13990 hF14129 rfl rfl
        refine At.enter rfl ?_
        refine r_goto ?_
        refine At.enter rfl ?_
        refine r_iload e13998 ?_
        refine r_iconst (-1) rfl ?_
        refine r_ics 56 rfl (fun c14133 => ?_) (fun c14133 => ?_)
        · have c14133_ : x13986.toInt = (-1) := en_i_eq_t c14133
          refine At.enter rfl ?_
          refine r_iload_n e13997 ?_
          refine r_iconst (-1) rfl ?_
          refine r_ics 73 rfl (fun c14134 => ?_) (fun c14134 => ?_)
          · have c14134_ : x13985.toInt = (-1) := en_i_eq_t c14134
            refine At.enter rfl ?_
            refine r_aload_n e13994 ?_
            obtain ⟨v14135, hv14135⟩ : ∃ v, gI g14127 176 2 = v := ⟨_, rfl⟩
            refine q_getI (Sh.int hI14128.1 kx_176 rfl) v14135 hv14135 ?_
            refine r_iconst (-1) rfl ?_
            refine r_ics 91 rfl (fun c14136 => ?_) (fun c14136 => ?_)
            · have c14136_ : v14135.toInt ≠ (-1) := en_i_ne_t c14136
              refine At.enter rfl ?_
              refine r_iconst (-1) rfl ?_
              refine Ar.fall 100 rfl ?_
              refine At.enter rfl ?_
              refine r_istore_n _ rfl ?_
              refine r_iload_n (w_e1 _ _ _) ?_
              refine r_iconst (-1) rfl ?_
              refine r_icf 106 rfl (by decide) ?_
              refine At.enter rfl ?_
              refine r_vret ?_
              exact ⟨_, rfl, hI14128, hF14132, rfl⟩
            · have c14136_ : v14135.toInt = (-1) := en_i_ne_f c14136
              refine At.enter rfl ?_
              refine r_aload_n e13994 ?_
              refine r_iload_n e13995 ?_
              refine r_callV 96 rfl [.ref 176, .int a1] [] (Nat.le_of_ble_eq_true rfl) rfl (T_X5_joinHere_176 _ hI14128 a1) ?_
              rintro _ _ ⟨g14137, rfl, hI14138, hF14139, v14140, rfl, hr14141⟩
              refine At.sti ?_
              have hF14142 := Fr.tr hF14132 hF14139 rfl rfl
              refine At.enter rfl ?_
              refine r_goto ?_
              refine At.enter rfl ?_
              refine r_istore_n _ rfl ?_
              refine r_iload_n (w_e1 _ _ _) ?_
              refine r_iconst (-1) rfl ?_
              refine r_ics 106 rfl (fun c14143 => ?_) (fun c14143 => ?_)
              · have c14143_ : v14140.toInt ≠ (-1) := en_i_ne_t c14143
                refine At.enter rfl ?_
                refine r_aload_n (w_p1 (by decide) (Or.inr rfl) e13994) ?_
                refine r_callV 111 rfl [.ref 176] [] (Nat.le_of_ble_eq_true rfl) rfl (T_X5_step_176 _ hI14138) ?_
                rintro _ _ ⟨g14144, rfl, hI14145, hF14146, rfl⟩
                refine At.stn ?_
                have hF14149 := Fr.tr hF14142 hF14146 rfl rfl
                refine At.enter rfl ?_
                refine r_iload_n (w_p1 (by decide) (Or.inr rfl) e13995) ?_
                refine r_ifs 115 rfl (fun c14150 => ?_) (fun c14150 => ?_)
                · have c14150_ : a1.toInt = 0 := en_k_eq_t c14150
                  exfalso; omega
                · have c14150_ : a1.toInt ≠ 0 := en_k_eq_f c14150
                  refine At.enter rfl ?_
                  refine r_iload_n (w_p1 (by decide) (Or.inr rfl) e13995) ?_
                  refine r_iconst 1 rfl ?_
                  refine r_ics 120 rfl (fun c14151 => ?_) (fun c14151 => ?_)
                  · have c14151_ : a1.toInt ≠ 1 := en_i_ne_t c14151
                    refine At.enter rfl ?_
                    refine r_iconst (-1) rfl ?_
                    refine Ar.fall 133 rfl ?_
                    refine At.enter rfl ?_
                    refine r_istore _ rfl ?_
                    refine q_iinc (w_p1 (by decide) (Or.inr rfl) (w_p1 (by decide) (Or.inr rfl) e13999)) (x13987.toInt + 1) rfl (by omega) (fun v14152 hv14152 => ?_)
                    refine r_goto ?_
                    exact ih13993 (400 - v14152.toInt) _ _ ⟨v14140, (-1), v14152, by first | rfl | omega, hI14145, hF14149, (w_p1 (by decide) (Or.inr rfl) (w_p1 (by decide) (Or.inr rfl) (w_p1 (by decide) (Or.inr rfl) e13994))), (w_p1 (by decide) (Or.inr rfl) (w_p1 (by decide) (Or.inr rfl) (w_p1 (by decide) (Or.inr rfl) e13995))), (w_p1 (by decide) (Or.inr rfl) (w_p1 (by decide) (Or.inr rfl) (w_p1 (by decide) (Or.inr rfl) e13996))), (w_p1 (by decide) (Or.inr rfl) (w_p1 (by decide) (Or.inr rfl) (w_e1 _ _ _))), (w_p1 (by decide) (Or.inr rfl) (w_e1 _ _ _)), (w_e1 _ _ _), by omega, by decide, by omega⟩ ⟨by omega, by omega⟩
                  · have c14151_ : a1.toInt = 1 := en_i_ne_f c14151
                    exfalso; omega
              · have c14143_ : v14140.toInt = (-1) := en_i_ne_f c14143
                refine At.enter rfl ?_
                refine r_vret ?_
                exact ⟨_, rfl, hI14138, hF14142, rfl⟩
          · have c14134_ : x13985.toInt ≠ (-1) := en_i_eq_f c14134
            refine At.enter rfl ?_
            refine r_aload_n e13994 ?_
            refine q_getR (Sh.ref hI14128.1 kx_176 rfl) ?_
            refine r_iload_n e13997 ?_
            refine r_iconst 0 rfl ?_
            refine r_callV 82 rfl [.ref 177, .int x13985, .int 0] [] (Nat.le_of_ble_eq_true rfl) rfl (T_X4_add_177 _ hI14128 x13985 0) ?_
            rintro _ _ ⟨g14153, rfl, hI14154, hF14155, v14156, rfl, hr14157⟩
            refine At.sti ?_
            have hF14158 := Fr.tr hF14132 hF14155 rfl rfl
            refine At.enter rfl ?_
            refine r_pop rfl ?_
            refine Ar.fall 83 rfl ?_
            refine At.enter rfl ?_
            refine r_aload_n e13994 ?_
            obtain ⟨v14159, hv14159⟩ : ∃ v, gI g14127 176 2 = v := ⟨_, rfl⟩
            refine q_getI (Sh.int hI14154.1 kx_176 rfl) v14159 ((hF14155.1 176 2 (by decide)).trans hv14159) ?_
            refine r_iconst (-1) rfl ?_
            refine r_ics 91 rfl (fun c14160 => ?_) (fun c14160 => ?_)
            · have c14160_ : v14159.toInt ≠ (-1) := en_i_ne_t c14160
              refine At.enter rfl ?_
              refine r_iconst (-1) rfl ?_
              refine Ar.fall 100 rfl ?_
              refine At.enter rfl ?_
              refine r_istore_n _ rfl ?_
              refine r_iload_n (w_e1 _ _ _) ?_
              refine r_iconst (-1) rfl ?_
              refine r_icf 106 rfl (by decide) ?_
              refine At.enter rfl ?_
              refine r_vret ?_
              exact ⟨_, rfl, hI14154, hF14158, rfl⟩
            · have c14160_ : v14159.toInt = (-1) := en_i_ne_f c14160
              refine At.enter rfl ?_
              refine r_aload_n e13994 ?_
              refine r_iload_n e13995 ?_
              refine r_callV 96 rfl [.ref 176, .int a1] [] (Nat.le_of_ble_eq_true rfl) rfl (T_X5_joinHere_176 _ hI14154 a1) ?_
              rintro _ _ ⟨g14161, rfl, hI14162, hF14163, v14164, rfl, hr14165⟩
              refine At.sti ?_
              have hF14166 := Fr.tr hF14158 hF14163 rfl rfl
              refine At.enter rfl ?_
              refine r_goto ?_
              refine At.enter rfl ?_
              refine r_istore_n _ rfl ?_
              refine r_iload_n (w_e1 _ _ _) ?_
              refine r_iconst (-1) rfl ?_
              refine r_ics 106 rfl (fun c14167 => ?_) (fun c14167 => ?_)
              · have c14167_ : v14164.toInt ≠ (-1) := en_i_ne_t c14167
                refine At.enter rfl ?_
                refine r_aload_n (w_p1 (by decide) (Or.inr rfl) e13994) ?_
                refine r_callV 111 rfl [.ref 176] [] (Nat.le_of_ble_eq_true rfl) rfl (T_X5_step_176 _ hI14162) ?_
                rintro _ _ ⟨g14168, rfl, hI14169, hF14170, rfl⟩
                refine At.stn ?_
                have hF14173 := Fr.tr hF14166 hF14170 rfl rfl
                refine At.enter rfl ?_
                refine r_iload_n (w_p1 (by decide) (Or.inr rfl) e13995) ?_
                refine r_ifs 115 rfl (fun c14174 => ?_) (fun c14174 => ?_)
                · have c14174_ : a1.toInt = 0 := en_k_eq_t c14174
                  exfalso; omega
                · have c14174_ : a1.toInt ≠ 0 := en_k_eq_f c14174
                  refine At.enter rfl ?_
                  refine r_iload_n (w_p1 (by decide) (Or.inr rfl) e13995) ?_
                  refine r_iconst 1 rfl ?_
                  refine r_ics 120 rfl (fun c14175 => ?_) (fun c14175 => ?_)
                  · have c14175_ : a1.toInt ≠ 1 := en_i_ne_t c14175
                    refine At.enter rfl ?_
                    refine r_iconst (-1) rfl ?_
                    refine Ar.fall 133 rfl ?_
                    refine At.enter rfl ?_
                    refine r_istore _ rfl ?_
                    refine q_iinc (w_p1 (by decide) (Or.inr rfl) (w_p1 (by decide) (Or.inr rfl) e13999)) (x13987.toInt + 1) rfl (by omega) (fun v14176 hv14176 => ?_)
                    refine r_goto ?_
                    exact ih13993 (400 - v14176.toInt) _ _ ⟨v14164, (-1), v14176, by first | rfl | omega, hI14169, hF14173, (w_p1 (by decide) (Or.inr rfl) (w_p1 (by decide) (Or.inr rfl) (w_p1 (by decide) (Or.inr rfl) e13994))), (w_p1 (by decide) (Or.inr rfl) (w_p1 (by decide) (Or.inr rfl) (w_p1 (by decide) (Or.inr rfl) e13995))), (w_p1 (by decide) (Or.inr rfl) (w_p1 (by decide) (Or.inr rfl) (w_p1 (by decide) (Or.inr rfl) e13996))), (w_p1 (by decide) (Or.inr rfl) (w_p1 (by decide) (Or.inr rfl) (w_e1 _ _ _))), (w_p1 (by decide) (Or.inr rfl) (w_e1 _ _ _)), (w_e1 _ _ _), by omega, by decide, by omega⟩ ⟨by omega, by omega⟩
                  · have c14175_ : a1.toInt = 1 := en_i_ne_f c14175
                    exfalso; omega
              · have c14167_ : v14164.toInt = (-1) := en_i_ne_f c14167
                refine At.enter rfl ?_
                refine r_vret ?_
                exact ⟨_, rfl, hI14162, hF14166, rfl⟩
        · have c14133_ : x13986.toInt ≠ (-1) := en_i_eq_f c14133
          refine At.enter rfl ?_
          refine r_aload_n e13994 ?_
          refine q_getR (Sh.ref hI14128.1 kx_176 rfl) ?_
          refine r_iload e13998 ?_
          refine r_callV 65 rfl [.ref 177, .int x13986] [] (Nat.le_of_ble_eq_true rfl) rfl (T_X4_aimAtEnd_177 _ hI14128 x13986) ?_
          rintro _ _ ⟨g14177, rfl, hI14178, hF14179, rfl⟩
          refine At.stn ?_
          have hF14182 := Fr.tr hF14132 hF14179 rfl rfl
          refine At.enter rfl ?_
          refine r_goto ?_
          refine At.enter rfl ?_
          refine r_aload_n e13994 ?_
          obtain ⟨v14183, hv14183⟩ : ∃ v, gI g14127 176 2 = v := ⟨_, rfl⟩
          refine q_getI (Sh.int hI14178.1 kx_176 rfl) v14183 ((hF14179.1 176 2 (by decide)).trans hv14183) ?_
          refine r_iconst (-1) rfl ?_
          refine r_ics 91 rfl (fun c14184 => ?_) (fun c14184 => ?_)
          · have c14184_ : v14183.toInt ≠ (-1) := en_i_ne_t c14184
            refine At.enter rfl ?_
            refine r_iconst (-1) rfl ?_
            refine Ar.fall 100 rfl ?_
            refine At.enter rfl ?_
            refine r_istore_n _ rfl ?_
            refine r_iload_n (w_e1 _ _ _) ?_
            refine r_iconst (-1) rfl ?_
            refine r_icf 106 rfl (by decide) ?_
            refine At.enter rfl ?_
            refine r_vret ?_
            exact ⟨_, rfl, hI14178, hF14182, rfl⟩
          · have c14184_ : v14183.toInt = (-1) := en_i_ne_f c14184
            refine At.enter rfl ?_
            refine r_aload_n e13994 ?_
            refine r_iload_n e13995 ?_
            refine r_callV 96 rfl [.ref 176, .int a1] [] (Nat.le_of_ble_eq_true rfl) rfl (T_X5_joinHere_176 _ hI14178 a1) ?_
            rintro _ _ ⟨g14185, rfl, hI14186, hF14187, v14188, rfl, hr14189⟩
            refine At.sti ?_
            have hF14190 := Fr.tr hF14182 hF14187 rfl rfl
            refine At.enter rfl ?_
            refine r_goto ?_
            refine At.enter rfl ?_
            refine r_istore_n _ rfl ?_
            refine r_iload_n (w_e1 _ _ _) ?_
            refine r_iconst (-1) rfl ?_
            refine r_ics 106 rfl (fun c14191 => ?_) (fun c14191 => ?_)
            · have c14191_ : v14188.toInt ≠ (-1) := en_i_ne_t c14191
              refine At.enter rfl ?_
              refine r_aload_n (w_p1 (by decide) (Or.inr rfl) e13994) ?_
              refine r_callV 111 rfl [.ref 176] [] (Nat.le_of_ble_eq_true rfl) rfl (T_X5_step_176 _ hI14186) ?_
              rintro _ _ ⟨g14192, rfl, hI14193, hF14194, rfl⟩
              refine At.stn ?_
              have hF14197 := Fr.tr hF14190 hF14194 rfl rfl
              refine At.enter rfl ?_
              refine r_iload_n (w_p1 (by decide) (Or.inr rfl) e13995) ?_
              refine r_ifs 115 rfl (fun c14198 => ?_) (fun c14198 => ?_)
              · have c14198_ : a1.toInt = 0 := en_k_eq_t c14198
                exfalso; omega
              · have c14198_ : a1.toInt ≠ 0 := en_k_eq_f c14198
                refine At.enter rfl ?_
                refine r_iload_n (w_p1 (by decide) (Or.inr rfl) e13995) ?_
                refine r_iconst 1 rfl ?_
                refine r_ics 120 rfl (fun c14199 => ?_) (fun c14199 => ?_)
                · have c14199_ : a1.toInt ≠ 1 := en_i_ne_t c14199
                  refine At.enter rfl ?_
                  refine r_iconst (-1) rfl ?_
                  refine Ar.fall 133 rfl ?_
                  refine At.enter rfl ?_
                  refine r_istore _ rfl ?_
                  refine q_iinc (w_p1 (by decide) (Or.inr rfl) (w_p1 (by decide) (Or.inr rfl) e13999)) (x13987.toInt + 1) rfl (by omega) (fun v14200 hv14200 => ?_)
                  refine r_goto ?_
                  exact ih13993 (400 - v14200.toInt) _ _ ⟨v14188, (-1), v14200, by first | rfl | omega, hI14193, hF14197, (w_p1 (by decide) (Or.inr rfl) (w_p1 (by decide) (Or.inr rfl) (w_p1 (by decide) (Or.inr rfl) e13994))), (w_p1 (by decide) (Or.inr rfl) (w_p1 (by decide) (Or.inr rfl) (w_p1 (by decide) (Or.inr rfl) e13995))), (w_p1 (by decide) (Or.inr rfl) (w_p1 (by decide) (Or.inr rfl) (w_p1 (by decide) (Or.inr rfl) e13996))), (w_p1 (by decide) (Or.inr rfl) (w_p1 (by decide) (Or.inr rfl) (w_e1 _ _ _))), (w_p1 (by decide) (Or.inr rfl) (w_e1 _ _ _)), (w_e1 _ _ _), by omega, by decide, by omega⟩ ⟨by omega, by omega⟩
                · have c14199_ : a1.toInt = 1 := en_i_ne_f c14199
                  exfalso; omega
            · have c14191_ : v14188.toInt = (-1) := en_i_ne_f c14191
              refine At.enter rfl ?_
              refine r_vret ?_
              exact ⟨_, rfl, hI14186, hF14190, rfl⟩
    · have c14008_ : a1.toInt = 1 := en_i_ne_f c14008
      refine At.enter rfl ?_
      refine r_aload_n e13994 ?_
      refine r_iload_n e13996 ?_
      refine r_callV 26 rfl [.ref 176, .int a2] [] (Nat.le_of_ble_eq_true rfl) rfl (IHP _ (by omega) hI13989 a2 (by omega) (by omega)) ?_
      rintro _ _ ⟨g14201, rfl, hI14202, hF14203, rfl⟩
      refine At.stn ?_
      have hF14206 := Fr.tr hF13990 hF14203 rfl rfl
      refine At.enter rfl ?_
      refine r_goto ?_
      refine At.enter rfl ?_
      refine r_iload e13998 ?_
      refine r_iconst (-1) rfl ?_
      refine r_ics 56 rfl (fun c14207 => ?_) (fun c14207 => ?_)
      · have c14207_ : x13986.toInt = (-1) := en_i_eq_t c14207
        refine At.enter rfl ?_
        refine r_iload_n e13997 ?_
        refine r_iconst (-1) rfl ?_
        refine r_ics 73 rfl (fun c14208 => ?_) (fun c14208 => ?_)
        · have c14208_ : x13985.toInt = (-1) := en_i_eq_t c14208
          refine At.enter rfl ?_
          refine r_aload_n e13994 ?_
          obtain ⟨v14209, hv14209⟩ : ∃ v, gI g14201 176 2 = v := ⟨_, rfl⟩
          refine q_getI (Sh.int hI14202.1 kx_176 rfl) v14209 hv14209 ?_
          refine r_iconst (-1) rfl ?_
          refine r_ics 91 rfl (fun c14210 => ?_) (fun c14210 => ?_)
          · have c14210_ : v14209.toInt ≠ (-1) := en_i_ne_t c14210
            refine At.enter rfl ?_
            refine r_iconst (-1) rfl ?_
            refine Ar.fall 100 rfl ?_
            refine At.enter rfl ?_
            refine r_istore_n _ rfl ?_
            refine r_iload_n (w_e1 _ _ _) ?_
            refine r_iconst (-1) rfl ?_
            refine r_icf 106 rfl (by decide) ?_
            refine At.enter rfl ?_
            refine r_vret ?_
            exact ⟨_, rfl, hI14202, hF14206, rfl⟩
          · have c14210_ : v14209.toInt = (-1) := en_i_ne_f c14210
            refine At.enter rfl ?_
            refine r_aload_n e13994 ?_
            refine r_iload_n e13995 ?_
            refine r_callV 96 rfl [.ref 176, .int a1] [] (Nat.le_of_ble_eq_true rfl) rfl (T_X5_joinHere_176 _ hI14202 a1) ?_
            rintro _ _ ⟨g14211, rfl, hI14212, hF14213, v14214, rfl, hr14215⟩
            refine At.sti ?_
            have hF14216 := Fr.tr hF14206 hF14213 rfl rfl
            refine At.enter rfl ?_
            refine r_goto ?_
            refine At.enter rfl ?_
            refine r_istore_n _ rfl ?_
            refine r_iload_n (w_e1 _ _ _) ?_
            refine r_iconst (-1) rfl ?_
            refine r_ics 106 rfl (fun c14217 => ?_) (fun c14217 => ?_)
            · have c14217_ : v14214.toInt ≠ (-1) := en_i_ne_t c14217
              refine At.enter rfl ?_
              refine r_aload_n (w_p1 (by decide) (Or.inr rfl) e13994) ?_
              refine r_callV 111 rfl [.ref 176] [] (Nat.le_of_ble_eq_true rfl) rfl (T_X5_step_176 _ hI14212) ?_
              rintro _ _ ⟨g14218, rfl, hI14219, hF14220, rfl⟩
              refine At.stn ?_
              have hF14223 := Fr.tr hF14216 hF14220 rfl rfl
              refine At.enter rfl ?_
              refine r_iload_n (w_p1 (by decide) (Or.inr rfl) e13995) ?_
              refine r_ifs 115 rfl (fun c14224 => ?_) (fun c14224 => ?_)
              · have c14224_ : a1.toInt = 0 := en_k_eq_t c14224
                exfalso; omega
              · have c14224_ : a1.toInt ≠ 0 := en_k_eq_f c14224
                refine At.enter rfl ?_
                refine r_iload_n (w_p1 (by decide) (Or.inr rfl) e13995) ?_
                refine r_iconst 1 rfl ?_
                refine r_ics 120 rfl (fun c14225 => ?_) (fun c14225 => ?_)
                · have c14225_ : a1.toInt ≠ 1 := en_i_ne_t c14225
                  exfalso; omega
                · have c14225_ : a1.toInt = 1 := en_i_ne_f c14225
                  refine At.enter rfl ?_
                  refine r_aload_n (w_p1 (by decide) (Or.inr rfl) e13994) ?_
                  refine q_getR (Sh.ref hI14219.1 kx_176 rfl) ?_
                  refine r_iload_n (w_e1 _ _ _) ?_
                  refine r_iconst 0 rfl ?_
                  refine r_callV 129 rfl [.ref 177, .int v14214, .int 0] [] (Nat.le_of_ble_eq_true rfl) rfl (T_X4_add_177 _ hI14219 v14214 0) ?_
                  rintro _ _ ⟨g14226, rfl, hI14227, hF14228, v14229, rfl, hr14230⟩
                  refine At.sti ?_
                  have hF14231 := Fr.tr hF14223 hF14228 rfl rfl
                  refine At.enter rfl ?_
                  refine r_goto ?_
                  refine At.enter rfl ?_
                  refine r_istore _ rfl ?_
                  refine q_iinc (w_p1 (by decide) (Or.inr rfl) (w_p1 (by decide) (Or.inr rfl) e13999)) (x13987.toInt + 1) rfl (by omega) (fun v14232 hv14232 => ?_)
                  refine r_goto ?_
                  exact ih13993 (400 - v14232.toInt) _ _ ⟨v14214, v14229, v14232, by first | rfl | omega, hI14227, hF14231, (w_p1 (by decide) (Or.inr rfl) (w_p1 (by decide) (Or.inr rfl) (w_p1 (by decide) (Or.inr rfl) e13994))), (w_p1 (by decide) (Or.inr rfl) (w_p1 (by decide) (Or.inr rfl) (w_p1 (by decide) (Or.inr rfl) e13995))), (w_p1 (by decide) (Or.inr rfl) (w_p1 (by decide) (Or.inr rfl) (w_p1 (by decide) (Or.inr rfl) e13996))), (w_p1 (by decide) (Or.inr rfl) (w_p1 (by decide) (Or.inr rfl) (w_e1 _ _ _))), (w_p1 (by decide) (Or.inr rfl) (w_e1 _ _ _)), (w_e1 _ _ _), by omega, by omega, by omega⟩ ⟨by omega, by omega⟩
            · have c14217_ : v14214.toInt = (-1) := en_i_ne_f c14217
              refine At.enter rfl ?_
              refine r_vret ?_
              exact ⟨_, rfl, hI14212, hF14216, rfl⟩
        · have c14208_ : x13985.toInt ≠ (-1) := en_i_eq_f c14208
          refine At.enter rfl ?_
          refine r_aload_n e13994 ?_
          refine q_getR (Sh.ref hI14202.1 kx_176 rfl) ?_
          refine r_iload_n e13997 ?_
          refine r_iconst 0 rfl ?_
          refine r_callV 82 rfl [.ref 177, .int x13985, .int 0] [] (Nat.le_of_ble_eq_true rfl) rfl (T_X4_add_177 _ hI14202 x13985 0) ?_
          rintro _ _ ⟨g14233, rfl, hI14234, hF14235, v14236, rfl, hr14237⟩
          refine At.sti ?_
          have hF14238 := Fr.tr hF14206 hF14235 rfl rfl
          refine At.enter rfl ?_
          refine r_pop rfl ?_
          refine Ar.fall 83 rfl ?_
          refine At.enter rfl ?_
          refine r_aload_n e13994 ?_
          obtain ⟨v14239, hv14239⟩ : ∃ v, gI g14201 176 2 = v := ⟨_, rfl⟩
          refine q_getI (Sh.int hI14234.1 kx_176 rfl) v14239 ((hF14235.1 176 2 (by decide)).trans hv14239) ?_
          refine r_iconst (-1) rfl ?_
          refine r_ics 91 rfl (fun c14240 => ?_) (fun c14240 => ?_)
          · have c14240_ : v14239.toInt ≠ (-1) := en_i_ne_t c14240
            refine At.enter rfl ?_
            refine r_iconst (-1) rfl ?_
            refine Ar.fall 100 rfl ?_
            refine At.enter rfl ?_
            refine r_istore_n _ rfl ?_
            refine r_iload_n (w_e1 _ _ _) ?_
            refine r_iconst (-1) rfl ?_
            refine r_icf 106 rfl (by decide) ?_
            refine At.enter rfl ?_
            refine r_vret ?_
            exact ⟨_, rfl, hI14234, hF14238, rfl⟩
          · have c14240_ : v14239.toInt = (-1) := en_i_ne_f c14240
            refine At.enter rfl ?_
            refine r_aload_n e13994 ?_
            refine r_iload_n e13995 ?_
            refine r_callV 96 rfl [.ref 176, .int a1] [] (Nat.le_of_ble_eq_true rfl) rfl (T_X5_joinHere_176 _ hI14234 a1) ?_
            rintro _ _ ⟨g14241, rfl, hI14242, hF14243, v14244, rfl, hr14245⟩
            refine At.sti ?_
            have hF14246 := Fr.tr hF14238 hF14243 rfl rfl
            refine At.enter rfl ?_
            refine r_goto ?_
            refine At.enter rfl ?_
            refine r_istore_n _ rfl ?_
            refine r_iload_n (w_e1 _ _ _) ?_
            refine r_iconst (-1) rfl ?_
            refine r_ics 106 rfl (fun c14247 => ?_) (fun c14247 => ?_)
            · have c14247_ : v14244.toInt ≠ (-1) := en_i_ne_t c14247
              refine At.enter rfl ?_
              refine r_aload_n (w_p1 (by decide) (Or.inr rfl) e13994) ?_
              refine r_callV 111 rfl [.ref 176] [] (Nat.le_of_ble_eq_true rfl) rfl (T_X5_step_176 _ hI14242) ?_
              rintro _ _ ⟨g14248, rfl, hI14249, hF14250, rfl⟩
              refine At.stn ?_
              have hF14253 := Fr.tr hF14246 hF14250 rfl rfl
              refine At.enter rfl ?_
              refine r_iload_n (w_p1 (by decide) (Or.inr rfl) e13995) ?_
              refine r_ifs 115 rfl (fun c14254 => ?_) (fun c14254 => ?_)
              · have c14254_ : a1.toInt = 0 := en_k_eq_t c14254
                exfalso; omega
              · have c14254_ : a1.toInt ≠ 0 := en_k_eq_f c14254
                refine At.enter rfl ?_
                refine r_iload_n (w_p1 (by decide) (Or.inr rfl) e13995) ?_
                refine r_iconst 1 rfl ?_
                refine r_ics 120 rfl (fun c14255 => ?_) (fun c14255 => ?_)
                · have c14255_ : a1.toInt ≠ 1 := en_i_ne_t c14255
                  exfalso; omega
                · have c14255_ : a1.toInt = 1 := en_i_ne_f c14255
                  refine At.enter rfl ?_
                  refine r_aload_n (w_p1 (by decide) (Or.inr rfl) e13994) ?_
                  refine q_getR (Sh.ref hI14249.1 kx_176 rfl) ?_
                  refine r_iload_n (w_e1 _ _ _) ?_
                  refine r_iconst 0 rfl ?_
                  refine r_callV 129 rfl [.ref 177, .int v14244, .int 0] [] (Nat.le_of_ble_eq_true rfl) rfl (T_X4_add_177 _ hI14249 v14244 0) ?_
                  rintro _ _ ⟨g14256, rfl, hI14257, hF14258, v14259, rfl, hr14260⟩
                  refine At.sti ?_
                  have hF14261 := Fr.tr hF14253 hF14258 rfl rfl
                  refine At.enter rfl ?_
                  refine r_goto ?_
                  refine At.enter rfl ?_
                  refine r_istore _ rfl ?_
                  refine q_iinc (w_p1 (by decide) (Or.inr rfl) (w_p1 (by decide) (Or.inr rfl) e13999)) (x13987.toInt + 1) rfl (by omega) (fun v14262 hv14262 => ?_)
                  refine r_goto ?_
                  exact ih13993 (400 - v14262.toInt) _ _ ⟨v14244, v14259, v14262, by first | rfl | omega, hI14257, hF14261, (w_p1 (by decide) (Or.inr rfl) (w_p1 (by decide) (Or.inr rfl) (w_p1 (by decide) (Or.inr rfl) e13994))), (w_p1 (by decide) (Or.inr rfl) (w_p1 (by decide) (Or.inr rfl) (w_p1 (by decide) (Or.inr rfl) e13995))), (w_p1 (by decide) (Or.inr rfl) (w_p1 (by decide) (Or.inr rfl) (w_p1 (by decide) (Or.inr rfl) e13996))), (w_p1 (by decide) (Or.inr rfl) (w_p1 (by decide) (Or.inr rfl) (w_e1 _ _ _))), (w_p1 (by decide) (Or.inr rfl) (w_e1 _ _ _)), (w_e1 _ _ _), by omega, by omega, by omega⟩ ⟨by omega, by omega⟩
            · have c14247_ : v14244.toInt = (-1) := en_i_ne_f c14247
              refine At.enter rfl ?_
              refine r_vret ?_
              exact ⟨_, rfl, hI14242, hF14246, rfl⟩
      · have c14207_ : x13986.toInt ≠ (-1) := en_i_eq_f c14207
        refine At.enter rfl ?_
        refine r_aload_n e13994 ?_
        refine q_getR (Sh.ref hI14202.1 kx_176 rfl) ?_
        refine r_iload e13998 ?_
        refine r_callV 65 rfl [.ref 177, .int x13986] [] (Nat.le_of_ble_eq_true rfl) rfl (T_X4_aimAtEnd_177 _ hI14202 x13986) ?_
        rintro _ _ ⟨g14263, rfl, hI14264, hF14265, rfl⟩
        refine At.stn ?_
        have hF14268 := Fr.tr hF14206 hF14265 rfl rfl
        refine At.enter rfl ?_
        refine r_goto ?_
        refine At.enter rfl ?_
        refine r_aload_n e13994 ?_
        obtain ⟨v14269, hv14269⟩ : ∃ v, gI g14201 176 2 = v := ⟨_, rfl⟩
        refine q_getI (Sh.int hI14264.1 kx_176 rfl) v14269 ((hF14265.1 176 2 (by decide)).trans hv14269) ?_
        refine r_iconst (-1) rfl ?_
        refine r_ics 91 rfl (fun c14270 => ?_) (fun c14270 => ?_)
        · have c14270_ : v14269.toInt ≠ (-1) := en_i_ne_t c14270
          refine At.enter rfl ?_
          refine r_iconst (-1) rfl ?_
          refine Ar.fall 100 rfl ?_
          refine At.enter rfl ?_
          refine r_istore_n _ rfl ?_
          refine r_iload_n (w_e1 _ _ _) ?_
          refine r_iconst (-1) rfl ?_
          refine r_icf 106 rfl (by decide) ?_
          refine At.enter rfl ?_
          refine r_vret ?_
          exact ⟨_, rfl, hI14264, hF14268, rfl⟩
        · have c14270_ : v14269.toInt = (-1) := en_i_ne_f c14270
          refine At.enter rfl ?_
          refine r_aload_n e13994 ?_
          refine r_iload_n e13995 ?_
          refine r_callV 96 rfl [.ref 176, .int a1] [] (Nat.le_of_ble_eq_true rfl) rfl (T_X5_joinHere_176 _ hI14264 a1) ?_
          rintro _ _ ⟨g14271, rfl, hI14272, hF14273, v14274, rfl, hr14275⟩
          refine At.sti ?_
          have hF14276 := Fr.tr hF14268 hF14273 rfl rfl
          refine At.enter rfl ?_
          refine r_goto ?_
          refine At.enter rfl ?_
          refine r_istore_n _ rfl ?_
          refine r_iload_n (w_e1 _ _ _) ?_
          refine r_iconst (-1) rfl ?_
          refine r_ics 106 rfl (fun c14277 => ?_) (fun c14277 => ?_)
          · have c14277_ : v14274.toInt ≠ (-1) := en_i_ne_t c14277
            refine At.enter rfl ?_
            refine r_aload_n (w_p1 (by decide) (Or.inr rfl) e13994) ?_
            refine r_callV 111 rfl [.ref 176] [] (Nat.le_of_ble_eq_true rfl) rfl (T_X5_step_176 _ hI14272) ?_
            rintro _ _ ⟨g14278, rfl, hI14279, hF14280, rfl⟩
            refine At.stn ?_
            have hF14283 := Fr.tr hF14276 hF14280 rfl rfl
            refine At.enter rfl ?_
            refine r_iload_n (w_p1 (by decide) (Or.inr rfl) e13995) ?_
            refine r_ifs 115 rfl (fun c14284 => ?_) (fun c14284 => ?_)
            · have c14284_ : a1.toInt = 0 := en_k_eq_t c14284
              exfalso; omega
            · have c14284_ : a1.toInt ≠ 0 := en_k_eq_f c14284
              refine At.enter rfl ?_
              refine r_iload_n (w_p1 (by decide) (Or.inr rfl) e13995) ?_
              refine r_iconst 1 rfl ?_
              refine r_ics 120 rfl (fun c14285 => ?_) (fun c14285 => ?_)
              · have c14285_ : a1.toInt ≠ 1 := en_i_ne_t c14285
                exfalso; omega
              · have c14285_ : a1.toInt = 1 := en_i_ne_f c14285
                refine At.enter rfl ?_
                refine r_aload_n (w_p1 (by decide) (Or.inr rfl) e13994) ?_
                refine q_getR (Sh.ref hI14279.1 kx_176 rfl) ?_
                refine r_iload_n (w_e1 _ _ _) ?_
                refine r_iconst 0 rfl ?_
                refine r_callV 129 rfl [.ref 177, .int v14274, .int 0] [] (Nat.le_of_ble_eq_true rfl) rfl (T_X4_add_177 _ hI14279 v14274 0) ?_
                rintro _ _ ⟨g14286, rfl, hI14287, hF14288, v14289, rfl, hr14290⟩
                refine At.sti ?_
                have hF14291 := Fr.tr hF14283 hF14288 rfl rfl
                refine At.enter rfl ?_
                refine r_goto ?_
                refine At.enter rfl ?_
                refine r_istore _ rfl ?_
                refine q_iinc (w_p1 (by decide) (Or.inr rfl) (w_p1 (by decide) (Or.inr rfl) e13999)) (x13987.toInt + 1) rfl (by omega) (fun v14292 hv14292 => ?_)
                refine r_goto ?_
                exact ih13993 (400 - v14292.toInt) _ _ ⟨v14274, v14289, v14292, by first | rfl | omega, hI14287, hF14291, (w_p1 (by decide) (Or.inr rfl) (w_p1 (by decide) (Or.inr rfl) (w_p1 (by decide) (Or.inr rfl) e13994))), (w_p1 (by decide) (Or.inr rfl) (w_p1 (by decide) (Or.inr rfl) (w_p1 (by decide) (Or.inr rfl) e13995))), (w_p1 (by decide) (Or.inr rfl) (w_p1 (by decide) (Or.inr rfl) (w_p1 (by decide) (Or.inr rfl) e13996))), (w_p1 (by decide) (Or.inr rfl) (w_p1 (by decide) (Or.inr rfl) (w_e1 _ _ _))), (w_p1 (by decide) (Or.inr rfl) (w_e1 _ _ _)), (w_e1 _ _ _), by omega, by omega, by omega⟩ ⟨by omega, by omega⟩
          · have c14277_ : v14274.toInt = (-1) := en_i_ne_f c14277
            refine At.enter rfl ?_
            refine r_vret ?_
            exact ⟨_, rfl, hI14272, hF14276, rfl⟩

set_option maxRecDepth 100000 in
set_option maxHeartbeats 4000000 in
theorem S_X5_readPlain_176 (n : Nat) (IHJ : QJ n) (IHP : QP n) (IHT : QT n) : QP (n + 1) := by
  intro e he N g0 hI0 a1 h_a1 hm
  obtain ⟨d, rfl⟩ : ∃ d, e = d + 4 := ⟨e - 4, by omega⟩
  have hF0 : Fr F_rd A_rd g0 g0 := Fr.rf
  refine Ev.mk rfl rfl ⟨Nat.le_of_ble_eq_true rfl, Or.inr (q_rc hI0.1 kx_176 rfl)⟩ ?_
  show At _ none _ _ (0, [(0, .ref 176), (1, .int a1)], [], (_, _)) _
  refine At.enter rfl ?_
  refine r_iconst 0 rfl ?_
  refine r_istore_n ([(2, .int 0), (0, .ref 176), (1, .int a1)]) rfl ?_
  refine r_iconst 0 rfl ?_
  refine r_istore_n ([(3, .int 0), (2, .int 0), (0, .ref 176), (1, .int a1)]) rfl ?_
  refine Ar.fall 4 rfl ?_
  have z_7917 : (0 : Int32).toInt = 0 := rfl
  have z_7918 : (0 : Int32).toInt = 0 := rfl
  refine w_loopI (fun n_ l_ g_ => ∃ x7903 : Int32, ∃ x7904 : Int32, n_ = 400 - x7904.toInt ∧ HI g_ ∧ Fr F_rd A_rd g0 g_ ∧ en_get 0 l_ = some (.ref 176) ∧ en_get 1 l_ = some (.int a1) ∧ en_get 2 l_ = some (.int x7903) ∧ en_get 3 l_ = some (.int x7904) ∧ (0 ≤ x7903.toInt ∧ x7903.toInt ≤ 1) ∧ (0 ≤ x7904.toInt ∧ x7904.toInt ≤ 400)) ?_ (400 - 0) ⟨0, 0, by first | rfl | omega, hI0, hF0, rfl, rfl, rfl, rfl, by decide, by decide⟩
  rintro n7909 l7908 g7905 ⟨x7903, x7904, hm7919, hI7906, hF7907, e7911, e7912, e7913, e7914, r7915, r7916⟩ ih7910
  refine At.enter rfl ?_
  refine r_iload_n e7914 ?_
  refine r_sipush 400 rfl ?_
  refine r_ics 11 rfl (fun c7920 => ?_) (fun c7920 => ?_)
  · have c7920_ : x7904.toInt ≥ 400 := en_i_ge_t c7920
    refine At.enter rfl ?_
    refine r_aload_n e7911 ?_
    refine r_bipush 40 rfl ?_
    refine r_callV 46 rfl [.ref 176, .int 40] [] (Nat.le_of_ble_eq_true rfl) rfl (T_X5_isSingle_176 _ hI7906 40) ?_
    rintro _ _ ⟨g7921, rfl, hI7922, hF7923, v7924, rfl, hr7925⟩
    refine At.sti ?_
    have hF7926 := Fr.tr hF7907 hF7923 rfl rfl
    refine At.enter rfl ?_
    refine r_ifs 49 rfl (fun c7927 => ?_) (fun c7927 => ?_)
    · have c7927_ : v7924.toInt = 0 := en_k_eq_t c7927
      refine At.enter rfl ?_
      refine r_aload_n e7911 ?_
      refine r_iconst 2 rfl ?_
      refine r_iload_n e7912 ?_
      refine r_callV 85 rfl [.ref 176, .int 2, .int a1] [] (Nat.le_of_ble_eq_true rfl) rfl (IHJ _ (by omega) hI7922 2 (by decide) a1 (by omega) (by omega)) ?_
      rintro _ _ ⟨g7928, rfl, hI7929, hF7930, rfl⟩
      refine At.stn ?_
      have hF7933 := Fr.tr hF7926 hF7930 rfl rfl
      refine At.enter rfl ?_
      refine r_aload_n e7911 ?_
      refine r_callV 89 rfl [.ref 176] [] (Nat.le_of_ble_eq_true rfl) rfl (T_X5_comparisonHere_176 _ hI7929) ?_
      rintro _ _ ⟨g7934, rfl, hI7935, hF7936, v7937, rfl, hr7938⟩
      refine At.sti ?_
      have hF7939 := Fr.tr hF7933 hF7936 rfl rfl
      refine At.enter rfl ?_
      refine r_istore_n _ rfl ?_
      refine r_iload_n (w_e1 _ _ _) ?_
      refine r_iconst (-1) rfl ?_
      refine r_ics 95 rfl (fun c7940 => ?_) (fun c7940 => ?_)
      · have c7940_ : v7937.toInt ≠ (-1) := en_i_ne_t c7940
        refine At.enter rfl ?_
        refine r_aload_n (w_p1 (by decide) (Or.inr rfl) e7911) ?_
        refine r_callV 104 rfl [.ref 176] [] (Nat.le_of_ble_eq_true rfl) rfl (T_X5_step_176 _ hI7935) ?_
        rintro _ _ ⟨g7941, rfl, hI7942, hF7943, rfl⟩
        refine At.stn ?_
        have hF7946 := Fr.tr hF7939 hF7943 rfl rfl
        refine At.enter rfl ?_
        refine r_aload_n (w_p1 (by decide) (Or.inr rfl) e7911) ?_
        refine r_iconst 2 rfl ?_
        refine r_iload_n (w_p1 (by decide) (Or.inr rfl) e7912) ?_
        refine r_callV 110 rfl [.ref 176, .int 2, .int a1] [] (Nat.le_of_ble_eq_true rfl) rfl (IHJ _ (by omega) hI7942 2 (by decide) a1 (by omega) (by omega)) ?_
        rintro _ _ ⟨g7947, rfl, hI7948, hF7949, rfl⟩
        refine At.stn ?_
        have hF7952 := Fr.tr hF7946 hF7949 rfl rfl
        refine At.enter rfl ?_
        refine r_aload_n (w_p1 (by decide) (Or.inr rfl) e7911) ?_
        refine q_getR (Sh.ref hI7948.1 kx_176 rfl) ?_
        refine r_iload_n (w_e1 _ _ _) ?_
        refine r_iconst 0 rfl ?_
        refine r_callV 119 rfl [.ref 177, .int v7937, .int 0] [] (Nat.le_of_ble_eq_true rfl) rfl (T_X4_add_177 _ hI7948 v7937 0) ?_
        rintro _ _ ⟨g7953, rfl, hI7954, hF7955, v7956, rfl, hr7957⟩
        refine At.sti ?_
        have hF7958 := Fr.tr hF7952 hF7955 rfl rfl
        refine At.enter rfl ?_
        refine r_pop rfl ?_
        refine Ar.fall 120 rfl ?_
        refine At.enter rfl ?_
        refine r_iload_n (w_p1 (by decide) (Or.inr rfl) e7913) ?_
        refine r_ifs 124 rfl (fun c7959 => ?_) (fun c7959 => ?_)
        · have c7959_ : x7903.toInt = 0 := en_k_eq_t c7959
          refine At.enter rfl ?_
          refine r_vret ?_
          exact ⟨_, rfl, hI7954, hF7958, rfl⟩
        · have c7959_ : x7903.toInt ≠ 0 := en_k_eq_f c7959
          refine At.enter rfl ?_
          refine r_aload_n (w_p1 (by decide) (Or.inr rfl) e7911) ?_
          refine q_getR (Sh.ref hI7954.1 kx_176 rfl) ?_
          refine r_bipush 9 rfl ?_
          refine r_iconst 0 rfl ?_
          refine r_callV 134 rfl [.ref 177, .int 9, .int 0] [] (Nat.le_of_ble_eq_true rfl) rfl (T_X4_add_177 _ hI7954 9 0) ?_
          rintro _ _ ⟨g7960, rfl, hI7961, hF7962, v7963, rfl, hr7964⟩
          refine At.sti ?_
          have hF7965 := Fr.tr hF7958 hF7962 rfl rfl
          refine At.enter rfl ?_
          refine r_pop rfl ?_
          refine Ar.fall 135 rfl ?_
          refine At.enter rfl ?_
          refine r_vret ?_
          exact ⟨_, rfl, hI7961, hF7965, rfl⟩
      · have c7940_ : v7937.toInt = (-1) := en_i_ne_f c7940
        refine At.enter rfl ?_
        refine r_aload_n (w_p1 (by decide) (Or.inr rfl) e7911) ?_
        refine q_inlV 99 rfl [.ref 176] [] (Nat.le_of_ble_eq_true rfl) rfl ?_
        refine Ev.mk rfl rfl ⟨Nat.le_of_ble_eq_true rfl, Or.inr (q_rc hI7935.1 kx_176 rfl)⟩ ?_
        show At _ none _ _ (0, [(0, .ref 176)], [], (_, _)) _
        refine At.enter rfl ?_
        refine r_aload_n rfl ?_
        obtain ⟨v7966, hv7966⟩ : ∃ v, gI g7928 176 2 = v := ⟨_, rfl⟩
        refine q_getI (Sh.int hI7935.1 kx_176 rfl) v7966 ((hF7936.1 176 2 (by decide)).trans hv7966) ?_
        refine r_iconst (-1) rfl ?_
        refine r_ics 8 rfl (fun c7967 => ?_) (fun c7967 => ?_)
        · have c7967_ : v7966.toInt ≠ (-1) := en_i_ne_t c7967
          refine At.enter rfl ?_
          refine q_vret ?_
          refine At.enter rfl ?_
          refine r_vret ?_
          exact ⟨_, rfl, hI7935, hF7939, rfl⟩
        · have c7967_ : v7966.toInt = (-1) := en_i_ne_f c7967
          refine At.enter rfl ?_
          refine r_aload_n rfl ?_
          refine r_aload_n rfl ?_
          obtain ⟨v7968, hv7968⟩ : ∃ v, gI g7928 176 4 = v := ⟨_, rfl⟩
          have rv7968 := RgF.at hI7929.2.1 (p := 176) (b := 4) rfl
          rw [hv7968] at rv7968
          dsimp only at rv7968
          refine q_getI (Sh.int hI7935.1 kx_176 rfl) v7968 ((hF7936.1 176 4 (by decide)).trans hv7968) ?_
          refine q_putI (Sh.int hI7935.1 kx_176 rfl) rfl ?_
          have hI7969 := HI.wI0 hI7935 kx_176 rfl (p := 176) (b := 2) (v := v7968) rfl
          have hF7970 := Fr.wI (p := 176) (b := 2) (v := v7968) hF7939 rfl
          refine Ar.fall 16 rfl ?_
          refine At.enter rfl ?_
          refine q_vret ?_
          refine At.enter rfl ?_
          refine r_vret ?_
          exact ⟨_, rfl, hI7969, hF7970, rfl⟩
    · have c7927_ : v7924.toInt ≠ 0 := en_k_eq_f c7927
      refine At.enter rfl ?_
      refine r_aload_n e7911 ?_
      refine r_iload_n e7912 ?_
      refine q_inlV 54 rfl [.ref 176, .int a1] [] (Nat.le_of_ble_eq_true rfl) rfl ?_
      refine Ev.mk rfl rfl ⟨Nat.le_of_ble_eq_true rfl, Or.inr (q_rc hI7922.1 kx_176 rfl)⟩ ?_
      show At _ none _ _ (0, [(0, .ref 176), (1, .int a1)], [], (_, _)) _
      refine At.enter rfl ?_
      refine r_iload_n rfl ?_
      refine r_bipush 8 rfl ?_
      refine r_ics 6 rfl (fun c7971 => ?_) (fun c7971 => ?_)
      · have c7971_ : a1.toInt < 8 := en_i_lt_t c7971
        refine At.enter rfl ?_
        refine r_aload_n rfl ?_
        refine r_callV 17 rfl [.ref 176] [] (Nat.le_of_ble_eq_true rfl) rfl (T_X5_step_176 _ hI7922) ?_
        rintro _ _ ⟨g7972, rfl, hI7973, hF7974, rfl⟩
        refine At.stn ?_
        have hF7977 := Fr.tr hF7926 hF7974 rfl rfl
        refine At.enter rfl ?_
        refine q_vret ?_
        refine At.enter rfl ?_
        refine r_aload_n e7911 ?_
        obtain ⟨v7978, hv7978⟩ : ∃ v, gI g7905 176 2 = v := ⟨_, rfl⟩
        refine q_getI (Sh.int hI7973.1 kx_176 rfl) v7978 (((hF7974.1 176 2 (by decide)).trans (hF7923.1 176 2 (by decide))).trans hv7978) ?_
        refine r_iconst (-1) rfl ?_
        refine r_ics 62 rfl (fun c7979 => ?_) (fun c7979 => ?_)
        · have c7979_ : v7978.toInt ≠ (-1) := en_i_ne_t c7979
          refine At.enter rfl ?_
          refine r_iload_n e7913 ?_
          refine r_ifs 124 rfl (fun c7980 => ?_) (fun c7980 => ?_)
          · have c7980_ : x7903.toInt = 0 := en_k_eq_t c7980
            refine At.enter rfl ?_
            refine r_vret ?_
            exact ⟨_, rfl, hI7973, hF7977, rfl⟩
          · have c7980_ : x7903.toInt ≠ 0 := en_k_eq_f c7980
            refine At.enter rfl ?_
            refine r_aload_n e7911 ?_
            refine q_getR (Sh.ref hI7973.1 kx_176 rfl) ?_
            refine r_bipush 9 rfl ?_
            refine r_iconst 0 rfl ?_
            refine r_callV 134 rfl [.ref 177, .int 9, .int 0] [] (Nat.le_of_ble_eq_true rfl) rfl (T_X4_add_177 _ hI7973 9 0) ?_
            rintro _ _ ⟨g7981, rfl, hI7982, hF7983, v7984, rfl, hr7985⟩
            refine At.sti ?_
            have hF7986 := Fr.tr hF7977 hF7983 rfl rfl
            refine At.enter rfl ?_
            refine r_pop rfl ?_
            refine Ar.fall 135 rfl ?_
            refine At.enter rfl ?_
            refine r_vret ?_
            exact ⟨_, rfl, hI7982, hF7986, rfl⟩
        · have c7979_ : v7978.toInt = (-1) := en_i_ne_f c7979
          refine At.enter rfl ?_
          refine r_aload_n e7911 ?_
          refine r_iconst 0 rfl ?_
          refine r_iload_n e7912 ?_
          refine r_iconst 1 rfl ?_
          refine q_iadd (a1.toInt + 1) rfl (by omega) (fun v7987 hv7987 => ?_)
          refine r_callV 70 rfl [.ref 176, .int 0, .int v7987] [] (Nat.le_of_ble_eq_true rfl) rfl (IHJ _ (by omega) hI7973 0 (by decide) v7987 (by omega) (by omega)) ?_
          rintro _ _ ⟨g7988, rfl, hI7989, hF7990, rfl⟩
          refine At.stn ?_
          have hF7993 := Fr.tr hF7977 hF7990 rfl rfl
          refine At.enter rfl ?_
          refine r_aload_n e7911 ?_
          refine r_bipush 41 rfl ?_
          refine r_callV 76 rfl [.ref 176, .int 41] [] (Nat.le_of_ble_eq_true rfl) rfl (T_X5_expect_176 _ hI7989 41) ?_
          rintro _ _ ⟨g7994, rfl, hI7995, hF7996, rfl⟩
          refine At.stn ?_
          have hF7999 := Fr.tr hF7993 hF7996 rfl rfl
          refine At.enter rfl ?_
          refine r_goto ?_
          refine At.enter rfl ?_
          refine r_iload_n e7913 ?_
          refine r_ifs 124 rfl (fun c8000 => ?_) (fun c8000 => ?_)
          · have c8000_ : x7903.toInt = 0 := en_k_eq_t c8000
            refine At.enter rfl ?_
            refine r_vret ?_
            exact ⟨_, rfl, hI7995, hF7999, rfl⟩
          · have c8000_ : x7903.toInt ≠ 0 := en_k_eq_f c8000
            refine At.enter rfl ?_
            refine r_aload_n e7911 ?_
            refine q_getR (Sh.ref hI7995.1 kx_176 rfl) ?_
            refine r_bipush 9 rfl ?_
            refine r_iconst 0 rfl ?_
            refine r_callV 134 rfl [.ref 177, .int 9, .int 0] [] (Nat.le_of_ble_eq_true rfl) rfl (T_X4_add_177 _ hI7995 9 0) ?_
            rintro _ _ ⟨g8001, rfl, hI8002, hF8003, v8004, rfl, hr8005⟩
            refine At.sti ?_
            have hF8006 := Fr.tr hF7999 hF8003 rfl rfl
            refine At.enter rfl ?_
            refine r_pop rfl ?_
            refine Ar.fall 135 rfl ?_
            refine At.enter rfl ?_
            refine r_vret ?_
            exact ⟨_, rfl, hI8002, hF8006, rfl⟩
      · have c7971_ : a1.toInt ≥ 8 := en_i_lt_f c7971
        refine At.enter rfl ?_
        refine r_aload_n rfl ?_
        refine q_inlV 10 rfl [.ref 176] [] (Nat.le_of_ble_eq_true rfl) rfl ?_
        refine Ev.mk rfl rfl ⟨Nat.le_of_ble_eq_true rfl, Or.inr (q_rc hI7922.1 kx_176 rfl)⟩ ?_
        show At _ none _ _ (0, [(0, .ref 176)], [], (_, _)) _
        refine At.enter rfl ?_
        refine r_aload_n rfl ?_
        obtain ⟨v8007, hv8007⟩ : ∃ v, gI g7905 176 2 = v := ⟨_, rfl⟩
        refine q_getI (Sh.int hI7922.1 kx_176 rfl) v8007 ((hF7923.1 176 2 (by decide)).trans hv8007) ?_
        refine r_iconst (-1) rfl ?_
        refine r_ics 8 rfl (fun c8008 => ?_) (fun c8008 => ?_)
        · have c8008_ : v8007.toInt ≠ (-1) := en_i_ne_t c8008
          refine At.enter rfl ?_
          refine q_vret ?_
          refine At.enter rfl ?_
          refine r_goto ?_
          refine At.enter rfl ?_
          refine q_vret ?_
          refine At.enter rfl ?_
          refine r_aload_n e7911 ?_
          refine q_getI (Sh.int hI7922.1 kx_176 rfl) v8007 ((hF7923.1 176 2 (by decide)).trans hv8007) ?_
          refine r_iconst (-1) rfl ?_
          refine r_ics 62 rfl (fun c8009 => ?_) (fun c8009 => ?_)
          · have c8009_ : v8007.toInt ≠ (-1) := en_i_ne_t c8009
            refine At.enter rfl ?_
            refine r_iload_n e7913 ?_
            refine r_ifs 124 rfl (fun c8010 => ?_) (fun c8010 => ?_)
            · have c8010_ : x7903.toInt = 0 := en_k_eq_t c8010
              refine At.enter rfl ?_
              refine r_vret ?_
              exact ⟨_, rfl, hI7922, hF7926, rfl⟩
            · have c8010_ : x7903.toInt ≠ 0 := en_k_eq_f c8010
              refine At.enter rfl ?_
              refine r_aload_n e7911 ?_
              refine q_getR (Sh.ref hI7922.1 kx_176 rfl) ?_
              refine r_bipush 9 rfl ?_
              refine r_iconst 0 rfl ?_
              refine r_callV 134 rfl [.ref 177, .int 9, .int 0] [] (Nat.le_of_ble_eq_true rfl) rfl (T_X4_add_177 _ hI7922 9 0) ?_
              rintro _ _ ⟨g8011, rfl, hI8012, hF8013, v8014, rfl, hr8015⟩
              refine At.sti ?_
              have hF8016 := Fr.tr hF7926 hF8013 rfl rfl
              refine At.enter rfl ?_
              refine r_pop rfl ?_
              refine Ar.fall 135 rfl ?_
              refine At.enter rfl ?_
              refine r_vret ?_
              exact ⟨_, rfl, hI8012, hF8016, rfl⟩
          · have c8009_ : v8007.toInt = (-1) := en_i_ne_f c8009
            refine At.enter rfl ?_
            refine r_aload_n e7911 ?_
            refine r_iconst 0 rfl ?_
            refine r_iload_n e7912 ?_
            refine r_iconst 1 rfl ?_
            refine q_iadd (a1.toInt + 1) rfl (by omega) (fun v8017 hv8017 => ?_)
            refine r_callV 70 rfl [.ref 176, .int 0, .int v8017] [] (Nat.le_of_ble_eq_true rfl) rfl (IHJ _ (by omega) hI7922 0 (by decide) v8017 (by omega) (by omega)) ?_
            rintro _ _ ⟨g8018, rfl, hI8019, hF8020, rfl⟩
            refine At.stn ?_
            have hF8023 := Fr.tr hF7926 hF8020 rfl rfl
            refine At.enter rfl ?_
            refine r_aload_n e7911 ?_
            refine r_bipush 41 rfl ?_
            refine r_callV 76 rfl [.ref 176, .int 41] [] (Nat.le_of_ble_eq_true rfl) rfl (T_X5_expect_176 _ hI8019 41) ?_
            rintro _ _ ⟨g8024, rfl, hI8025, hF8026, rfl⟩
            refine At.stn ?_
            have hF8029 := Fr.tr hF8023 hF8026 rfl rfl
            refine At.enter rfl ?_
            refine r_goto ?_
            refine At.enter rfl ?_
            refine r_iload_n e7913 ?_
            refine r_ifs 124 rfl (fun c8030 => ?_) (fun c8030 => ?_)
            · have c8030_ : x7903.toInt = 0 := en_k_eq_t c8030
              refine At.enter rfl ?_
              refine r_vret ?_
              exact ⟨_, rfl, hI8025, hF8029, rfl⟩
            · have c8030_ : x7903.toInt ≠ 0 := en_k_eq_f c8030
              refine At.enter rfl ?_
              refine r_aload_n e7911 ?_
              refine q_getR (Sh.ref hI8025.1 kx_176 rfl) ?_
              refine r_bipush 9 rfl ?_
              refine r_iconst 0 rfl ?_
              refine r_callV 134 rfl [.ref 177, .int 9, .int 0] [] (Nat.le_of_ble_eq_true rfl) rfl (T_X4_add_177 _ hI8025 9 0) ?_
              rintro _ _ ⟨g8031, rfl, hI8032, hF8033, v8034, rfl, hr8035⟩
              refine At.sti ?_
              have hF8036 := Fr.tr hF8029 hF8033 rfl rfl
              refine At.enter rfl ?_
              refine r_pop rfl ?_
              refine Ar.fall 135 rfl ?_
              refine At.enter rfl ?_
              refine r_vret ?_
              exact ⟨_, rfl, hI8032, hF8036, rfl⟩
        · have c8008_ : v8007.toInt = (-1) := en_i_ne_f c8008
          refine At.enter rfl ?_
          refine r_aload_n rfl ?_
          refine r_aload_n rfl ?_
          obtain ⟨v8037, hv8037⟩ : ∃ v, gI g7905 176 4 = v := ⟨_, rfl⟩
          have rv8037 := RgF.at hI7906.2.1 (p := 176) (b := 4) rfl
          rw [hv8037] at rv8037
          dsimp only at rv8037
          refine q_getI (Sh.int hI7922.1 kx_176 rfl) v8037 ((hF7923.1 176 4 (by decide)).trans hv8037) ?_
          refine q_putI (Sh.int hI7922.1 kx_176 rfl) rfl ?_
          have hI8038 := HI.wI0 hI7922 kx_176 rfl (p := 176) (b := 2) (v := v8037) rfl
          have hF8039 := Fr.wI (p := 176) (b := 2) (v := v8037) hF7926 rfl
          refine Ar.fall 16 rfl ?_
          refine At.enter rfl ?_
          refine q_vret ?_
          refine At.enter rfl ?_
          refine r_goto ?_
          refine At.enter rfl ?_
          refine q_vret ?_
          refine At.enter rfl ?_
          refine r_aload_n e7911 ?_
          refine q_getI (Sh.int hI8038.1 kx_176 rfl) v8037 (gI_sI_eq hI7922.1 kx_176 rfl _) ?_
          refine r_iconst (-1) rfl ?_
          refine r_ics 62 rfl (fun c8040 => ?_) (fun c8040 => ?_)
          · have c8040_ : v8037.toInt ≠ (-1) := en_i_ne_t c8040
            refine At.enter rfl ?_
            refine r_iload_n e7913 ?_
            refine r_ifs 124 rfl (fun c8041 => ?_) (fun c8041 => ?_)
            · have c8041_ : x7903.toInt = 0 := en_k_eq_t c8041
              refine At.enter rfl ?_
              refine r_vret ?_
              exact ⟨_, rfl, hI8038, hF8039, rfl⟩
            · have c8041_ : x7903.toInt ≠ 0 := en_k_eq_f c8041
              refine At.enter rfl ?_
              refine r_aload_n e7911 ?_
              refine q_getR (Sh.ref hI8038.1 kx_176 rfl) ?_
              refine r_bipush 9 rfl ?_
              refine r_iconst 0 rfl ?_
              refine r_callV 134 rfl [.ref 177, .int 9, .int 0] [] (Nat.le_of_ble_eq_true rfl) rfl (T_X4_add_177 _ hI8038 9 0) ?_
              rintro _ _ ⟨g8042, rfl, hI8043, hF8044, v8045, rfl, hr8046⟩
              refine At.sti ?_
              have hF8047 := Fr.tr hF8039 hF8044 rfl rfl
              refine At.enter rfl ?_
              refine r_pop rfl ?_
              refine Ar.fall 135 rfl ?_
              refine At.enter rfl ?_
              refine r_vret ?_
              exact ⟨_, rfl, hI8043, hF8047, rfl⟩
          · have c8040_ : v8037.toInt = (-1) := en_i_ne_f c8040
            exfalso; omega
  · have c7920_ : x7904.toInt < 400 := en_i_ge_f c7920
    refine At.enter rfl ?_
    refine r_aload_n e7911 ?_
    refine r_ldcS (by decide) 4 rfl ?_
    refine r_callV 17 rfl [.ref 176, .float 4] [] (Nat.le_of_ble_eq_true rfl) rfl (T_X5_isWord _ hI7906 4 (by decide)) ?_
    rintro _ _ ⟨g8048, rfl, hI8049, hF8050, v8051, rfl, hr8052⟩
    refine At.sti ?_
    have hF8053 := Fr.tr hF7907 hF8050 rfl rfl
    refine At.enter rfl ?_
    refine r_ifs 20 rfl (fun c8054 => ?_) (fun c8054 => ?_)
    · have c8054_ : v8051.toInt = 0 := en_k_eq_t c8054
      refine At.enter rfl ?_
      refine r_aload_n e7911 ?_
      refine r_bipush 40 rfl ?_
      refine r_callV 46 rfl [.ref 176, .int 40] [] (Nat.le_of_ble_eq_true rfl) rfl (T_X5_isSingle_176 _ hI8049 40) ?_
      rintro _ _ ⟨g8055, rfl, hI8056, hF8057, v8058, rfl, hr8059⟩
      refine At.sti ?_
      have hF8060 := Fr.tr hF8053 hF8057 rfl rfl
      refine At.enter rfl ?_
      refine r_ifs 49 rfl (fun c8061 => ?_) (fun c8061 => ?_)
      · have c8061_ : v8058.toInt = 0 := en_k_eq_t c8061
        refine At.enter rfl ?_
        refine r_aload_n e7911 ?_
        refine r_iconst 2 rfl ?_
        refine r_iload_n e7912 ?_
        refine r_callV 85 rfl [.ref 176, .int 2, .int a1] [] (Nat.le_of_ble_eq_true rfl) rfl (IHJ _ (by omega) hI8056 2 (by decide) a1 (by omega) (by omega)) ?_
        rintro _ _ ⟨g8062, rfl, hI8063, hF8064, rfl⟩
        refine At.stn ?_
        have hF8067 := Fr.tr hF8060 hF8064 rfl rfl
        refine At.enter rfl ?_
        refine r_aload_n e7911 ?_
        refine r_callV 89 rfl [.ref 176] [] (Nat.le_of_ble_eq_true rfl) rfl (T_X5_comparisonHere_176 _ hI8063) ?_
        rintro _ _ ⟨g8068, rfl, hI8069, hF8070, v8071, rfl, hr8072⟩
        refine At.sti ?_
        have hF8073 := Fr.tr hF8067 hF8070 rfl rfl
        refine At.enter rfl ?_
        refine r_istore_n _ rfl ?_
        refine r_iload_n (w_e1 _ _ _) ?_
        refine r_iconst (-1) rfl ?_
        refine r_ics 95 rfl (fun c8074 => ?_) (fun c8074 => ?_)
        · have c8074_ : v8071.toInt ≠ (-1) := en_i_ne_t c8074
          refine At.enter rfl ?_
          refine r_aload_n (w_p1 (by decide) (Or.inr rfl) e7911) ?_
          refine r_callV 104 rfl [.ref 176] [] (Nat.le_of_ble_eq_true rfl) rfl (T_X5_step_176 _ hI8069) ?_
          rintro _ _ ⟨g8075, rfl, hI8076, hF8077, rfl⟩
          refine At.stn ?_
          have hF8080 := Fr.tr hF8073 hF8077 rfl rfl
          refine At.enter rfl ?_
          refine r_aload_n (w_p1 (by decide) (Or.inr rfl) e7911) ?_
          refine r_iconst 2 rfl ?_
          refine r_iload_n (w_p1 (by decide) (Or.inr rfl) e7912) ?_
          refine r_callV 110 rfl [.ref 176, .int 2, .int a1] [] (Nat.le_of_ble_eq_true rfl) rfl (IHJ _ (by omega) hI8076 2 (by decide) a1 (by omega) (by omega)) ?_
          rintro _ _ ⟨g8081, rfl, hI8082, hF8083, rfl⟩
          refine At.stn ?_
          have hF8086 := Fr.tr hF8080 hF8083 rfl rfl
          refine At.enter rfl ?_
          refine r_aload_n (w_p1 (by decide) (Or.inr rfl) e7911) ?_
          refine q_getR (Sh.ref hI8082.1 kx_176 rfl) ?_
          refine r_iload_n (w_e1 _ _ _) ?_
          refine r_iconst 0 rfl ?_
          refine r_callV 119 rfl [.ref 177, .int v8071, .int 0] [] (Nat.le_of_ble_eq_true rfl) rfl (T_X4_add_177 _ hI8082 v8071 0) ?_
          rintro _ _ ⟨g8087, rfl, hI8088, hF8089, v8090, rfl, hr8091⟩
          refine At.sti ?_
          have hF8092 := Fr.tr hF8086 hF8089 rfl rfl
          refine At.enter rfl ?_
          refine r_pop rfl ?_
          refine Ar.fall 120 rfl ?_
          refine At.enter rfl ?_
          refine r_iload_n (w_p1 (by decide) (Or.inr rfl) e7913) ?_
          refine r_ifs 124 rfl (fun c8093 => ?_) (fun c8093 => ?_)
          · have c8093_ : x7903.toInt = 0 := en_k_eq_t c8093
            refine At.enter rfl ?_
            refine r_vret ?_
            exact ⟨_, rfl, hI8088, hF8092, rfl⟩
          · have c8093_ : x7903.toInt ≠ 0 := en_k_eq_f c8093
            refine At.enter rfl ?_
            refine r_aload_n (w_p1 (by decide) (Or.inr rfl) e7911) ?_
            refine q_getR (Sh.ref hI8088.1 kx_176 rfl) ?_
            refine r_bipush 9 rfl ?_
            refine r_iconst 0 rfl ?_
            refine r_callV 134 rfl [.ref 177, .int 9, .int 0] [] (Nat.le_of_ble_eq_true rfl) rfl (T_X4_add_177 _ hI8088 9 0) ?_
            rintro _ _ ⟨g8094, rfl, hI8095, hF8096, v8097, rfl, hr8098⟩
            refine At.sti ?_
            have hF8099 := Fr.tr hF8092 hF8096 rfl rfl
            refine At.enter rfl ?_
            refine r_pop rfl ?_
            refine Ar.fall 135 rfl ?_
            refine At.enter rfl ?_
            refine r_vret ?_
            exact ⟨_, rfl, hI8095, hF8099, rfl⟩
        · have c8074_ : v8071.toInt = (-1) := en_i_ne_f c8074
          refine At.enter rfl ?_
          refine r_aload_n (w_p1 (by decide) (Or.inr rfl) e7911) ?_
          refine q_inlV 99 rfl [.ref 176] [] (Nat.le_of_ble_eq_true rfl) rfl ?_
          refine Ev.mk rfl rfl ⟨Nat.le_of_ble_eq_true rfl, Or.inr (q_rc hI8069.1 kx_176 rfl)⟩ ?_
          show At _ none _ _ (0, [(0, .ref 176)], [], (_, _)) _
          refine At.enter rfl ?_
          refine r_aload_n rfl ?_
          obtain ⟨v8100, hv8100⟩ : ∃ v, gI g8062 176 2 = v := ⟨_, rfl⟩
          refine q_getI (Sh.int hI8069.1 kx_176 rfl) v8100 ((hF8070.1 176 2 (by decide)).trans hv8100) ?_
          refine r_iconst (-1) rfl ?_
          refine r_ics 8 rfl (fun c8101 => ?_) (fun c8101 => ?_)
          · have c8101_ : v8100.toInt ≠ (-1) := en_i_ne_t c8101
            refine At.enter rfl ?_
            refine q_vret ?_
            refine At.enter rfl ?_
            refine r_vret ?_
            exact ⟨_, rfl, hI8069, hF8073, rfl⟩
          · have c8101_ : v8100.toInt = (-1) := en_i_ne_f c8101
            refine At.enter rfl ?_
            refine r_aload_n rfl ?_
            refine r_aload_n rfl ?_
            obtain ⟨v8102, hv8102⟩ : ∃ v, gI g8062 176 4 = v := ⟨_, rfl⟩
            have rv8102 := RgF.at hI8063.2.1 (p := 176) (b := 4) rfl
            rw [hv8102] at rv8102
            dsimp only at rv8102
            refine q_getI (Sh.int hI8069.1 kx_176 rfl) v8102 ((hF8070.1 176 4 (by decide)).trans hv8102) ?_
            refine q_putI (Sh.int hI8069.1 kx_176 rfl) rfl ?_
            have hI8103 := HI.wI0 hI8069 kx_176 rfl (p := 176) (b := 2) (v := v8102) rfl
            have hF8104 := Fr.wI (p := 176) (b := 2) (v := v8102) hF8073 rfl
            refine Ar.fall 16 rfl ?_
            refine At.enter rfl ?_
            refine q_vret ?_
            refine At.enter rfl ?_
            refine r_vret ?_
            exact ⟨_, rfl, hI8103, hF8104, rfl⟩
      · have c8061_ : v8058.toInt ≠ 0 := en_k_eq_f c8061
        refine At.enter rfl ?_
        refine r_aload_n e7911 ?_
        refine r_iload_n e7912 ?_
        refine q_inlV 54 rfl [.ref 176, .int a1] [] (Nat.le_of_ble_eq_true rfl) rfl ?_
        refine Ev.mk rfl rfl ⟨Nat.le_of_ble_eq_true rfl, Or.inr (q_rc hI8056.1 kx_176 rfl)⟩ ?_
        show At _ none _ _ (0, [(0, .ref 176), (1, .int a1)], [], (_, _)) _
        refine At.enter rfl ?_
        refine r_iload_n rfl ?_
        refine r_bipush 8 rfl ?_
        refine r_ics 6 rfl (fun c8105 => ?_) (fun c8105 => ?_)
        · have c8105_ : a1.toInt < 8 := en_i_lt_t c8105
          refine At.enter rfl ?_
          refine r_aload_n rfl ?_
          refine r_callV 17 rfl [.ref 176] [] (Nat.le_of_ble_eq_true rfl) rfl (T_X5_step_176 _ hI8056) ?_
          rintro _ _ ⟨g8106, rfl, hI8107, hF8108, rfl⟩
          refine At.stn ?_
          have hF8111 := Fr.tr hF8060 hF8108 rfl rfl
          refine At.enter rfl ?_
          refine q_vret ?_
          refine At.enter rfl ?_
          refine r_aload_n e7911 ?_
          obtain ⟨v8112, hv8112⟩ : ∃ v, gI g7905 176 2 = v := ⟨_, rfl⟩
          refine q_getI (Sh.int hI8107.1 kx_176 rfl) v8112 (((hF8108.1 176 2 (by decide)).trans ((hF8057.1 176 2 (by decide)).trans (hF8050.1 176 2 (by decide)))).trans hv8112) ?_
          refine r_iconst (-1) rfl ?_
          refine r_ics 62 rfl (fun c8113 => ?_) (fun c8113 => ?_)
          · have c8113_ : v8112.toInt ≠ (-1) := en_i_ne_t c8113
            refine At.enter rfl ?_
            refine r_iload_n e7913 ?_
            refine r_ifs 124 rfl (fun c8114 => ?_) (fun c8114 => ?_)
            · have c8114_ : x7903.toInt = 0 := en_k_eq_t c8114
              refine At.enter rfl ?_
              refine r_vret ?_
              exact ⟨_, rfl, hI8107, hF8111, rfl⟩
            · have c8114_ : x7903.toInt ≠ 0 := en_k_eq_f c8114
              refine At.enter rfl ?_
              refine r_aload_n e7911 ?_
              refine q_getR (Sh.ref hI8107.1 kx_176 rfl) ?_
              refine r_bipush 9 rfl ?_
              refine r_iconst 0 rfl ?_
              refine r_callV 134 rfl [.ref 177, .int 9, .int 0] [] (Nat.le_of_ble_eq_true rfl) rfl (T_X4_add_177 _ hI8107 9 0) ?_
              rintro _ _ ⟨g8115, rfl, hI8116, hF8117, v8118, rfl, hr8119⟩
              refine At.sti ?_
              have hF8120 := Fr.tr hF8111 hF8117 rfl rfl
              refine At.enter rfl ?_
              refine r_pop rfl ?_
              refine Ar.fall 135 rfl ?_
              refine At.enter rfl ?_
              refine r_vret ?_
              exact ⟨_, rfl, hI8116, hF8120, rfl⟩
          · have c8113_ : v8112.toInt = (-1) := en_i_ne_f c8113
            refine At.enter rfl ?_
            refine r_aload_n e7911 ?_
            refine r_iconst 0 rfl ?_
            refine r_iload_n e7912 ?_
            refine r_iconst 1 rfl ?_
            refine q_iadd (a1.toInt + 1) rfl (by omega) (fun v8121 hv8121 => ?_)
            refine r_callV 70 rfl [.ref 176, .int 0, .int v8121] [] (Nat.le_of_ble_eq_true rfl) rfl (IHJ _ (by omega) hI8107 0 (by decide) v8121 (by omega) (by omega)) ?_
            rintro _ _ ⟨g8122, rfl, hI8123, hF8124, rfl⟩
            refine At.stn ?_
            have hF8127 := Fr.tr hF8111 hF8124 rfl rfl
            refine At.enter rfl ?_
            refine r_aload_n e7911 ?_
            refine r_bipush 41 rfl ?_
            refine r_callV 76 rfl [.ref 176, .int 41] [] (Nat.le_of_ble_eq_true rfl) rfl (T_X5_expect_176 _ hI8123 41) ?_
            rintro _ _ ⟨g8128, rfl, hI8129, hF8130, rfl⟩
            refine At.stn ?_
            have hF8133 := Fr.tr hF8127 hF8130 rfl rfl
            refine At.enter rfl ?_
            refine r_goto ?_
            refine At.enter rfl ?_
            refine r_iload_n e7913 ?_
            refine r_ifs 124 rfl (fun c8134 => ?_) (fun c8134 => ?_)
            · have c8134_ : x7903.toInt = 0 := en_k_eq_t c8134
              refine At.enter rfl ?_
              refine r_vret ?_
              exact ⟨_, rfl, hI8129, hF8133, rfl⟩
            · have c8134_ : x7903.toInt ≠ 0 := en_k_eq_f c8134
              refine At.enter rfl ?_
              refine r_aload_n e7911 ?_
              refine q_getR (Sh.ref hI8129.1 kx_176 rfl) ?_
              refine r_bipush 9 rfl ?_
              refine r_iconst 0 rfl ?_
              refine r_callV 134 rfl [.ref 177, .int 9, .int 0] [] (Nat.le_of_ble_eq_true rfl) rfl (T_X4_add_177 _ hI8129 9 0) ?_
              rintro _ _ ⟨g8135, rfl, hI8136, hF8137, v8138, rfl, hr8139⟩
              refine At.sti ?_
              have hF8140 := Fr.tr hF8133 hF8137 rfl rfl
              refine At.enter rfl ?_
              refine r_pop rfl ?_
              refine Ar.fall 135 rfl ?_
              refine At.enter rfl ?_
              refine r_vret ?_
              exact ⟨_, rfl, hI8136, hF8140, rfl⟩
        · have c8105_ : a1.toInt ≥ 8 := en_i_lt_f c8105
          refine At.enter rfl ?_
          refine r_aload_n rfl ?_
          refine q_inlV 10 rfl [.ref 176] [] (Nat.le_of_ble_eq_true rfl) rfl ?_
          refine Ev.mk rfl rfl ⟨Nat.le_of_ble_eq_true rfl, Or.inr (q_rc hI8056.1 kx_176 rfl)⟩ ?_
          show At _ none _ _ (0, [(0, .ref 176)], [], (_, _)) _
          refine At.enter rfl ?_
          refine r_aload_n rfl ?_
          obtain ⟨v8141, hv8141⟩ : ∃ v, gI g7905 176 2 = v := ⟨_, rfl⟩
          refine q_getI (Sh.int hI8056.1 kx_176 rfl) v8141 (((hF8057.1 176 2 (by decide)).trans (hF8050.1 176 2 (by decide))).trans hv8141) ?_
          refine r_iconst (-1) rfl ?_
          refine r_ics 8 rfl (fun c8142 => ?_) (fun c8142 => ?_)
          · have c8142_ : v8141.toInt ≠ (-1) := en_i_ne_t c8142
            refine At.enter rfl ?_
            refine q_vret ?_
            refine At.enter rfl ?_
            refine r_goto ?_
            refine At.enter rfl ?_
            refine q_vret ?_
            refine At.enter rfl ?_
            refine r_aload_n e7911 ?_
            refine q_getI (Sh.int hI8056.1 kx_176 rfl) v8141 (((hF8057.1 176 2 (by decide)).trans (hF8050.1 176 2 (by decide))).trans hv8141) ?_
            refine r_iconst (-1) rfl ?_
            refine r_ics 62 rfl (fun c8143 => ?_) (fun c8143 => ?_)
            · have c8143_ : v8141.toInt ≠ (-1) := en_i_ne_t c8143
              refine At.enter rfl ?_
              refine r_iload_n e7913 ?_
              refine r_ifs 124 rfl (fun c8144 => ?_) (fun c8144 => ?_)
              · have c8144_ : x7903.toInt = 0 := en_k_eq_t c8144
                refine At.enter rfl ?_
                refine r_vret ?_
                exact ⟨_, rfl, hI8056, hF8060, rfl⟩
              · have c8144_ : x7903.toInt ≠ 0 := en_k_eq_f c8144
                refine At.enter rfl ?_
                refine r_aload_n e7911 ?_
                refine q_getR (Sh.ref hI8056.1 kx_176 rfl) ?_
                refine r_bipush 9 rfl ?_
                refine r_iconst 0 rfl ?_
                refine r_callV 134 rfl [.ref 177, .int 9, .int 0] [] (Nat.le_of_ble_eq_true rfl) rfl (T_X4_add_177 _ hI8056 9 0) ?_
                rintro _ _ ⟨g8145, rfl, hI8146, hF8147, v8148, rfl, hr8149⟩
                refine At.sti ?_
                have hF8150 := Fr.tr hF8060 hF8147 rfl rfl
                refine At.enter rfl ?_
                refine r_pop rfl ?_
                refine Ar.fall 135 rfl ?_
                refine At.enter rfl ?_
                refine r_vret ?_
                exact ⟨_, rfl, hI8146, hF8150, rfl⟩
            · have c8143_ : v8141.toInt = (-1) := en_i_ne_f c8143
              refine At.enter rfl ?_
              refine r_aload_n e7911 ?_
              refine r_iconst 0 rfl ?_
              refine r_iload_n e7912 ?_
              refine r_iconst 1 rfl ?_
              refine q_iadd (a1.toInt + 1) rfl (by omega) (fun v8151 hv8151 => ?_)
              refine r_callV 70 rfl [.ref 176, .int 0, .int v8151] [] (Nat.le_of_ble_eq_true rfl) rfl (IHJ _ (by omega) hI8056 0 (by decide) v8151 (by omega) (by omega)) ?_
              rintro _ _ ⟨g8152, rfl, hI8153, hF8154, rfl⟩
              refine At.stn ?_
              have hF8157 := Fr.tr hF8060 hF8154 rfl rfl
              refine At.enter rfl ?_
              refine r_aload_n e7911 ?_
              refine r_bipush 41 rfl ?_
              refine r_callV 76 rfl [.ref 176, .int 41] [] (Nat.le_of_ble_eq_true rfl) rfl (T_X5_expect_176 _ hI8153 41) ?_
              rintro _ _ ⟨g8158, rfl, hI8159, hF8160, rfl⟩
              refine At.stn ?_
              have hF8163 := Fr.tr hF8157 hF8160 rfl rfl
              refine At.enter rfl ?_
              refine r_goto ?_
              refine At.enter rfl ?_
              refine r_iload_n e7913 ?_
              refine r_ifs 124 rfl (fun c8164 => ?_) (fun c8164 => ?_)
              · have c8164_ : x7903.toInt = 0 := en_k_eq_t c8164
                refine At.enter rfl ?_
                refine r_vret ?_
                exact ⟨_, rfl, hI8159, hF8163, rfl⟩
              · have c8164_ : x7903.toInt ≠ 0 := en_k_eq_f c8164
                refine At.enter rfl ?_
                refine r_aload_n e7911 ?_
                refine q_getR (Sh.ref hI8159.1 kx_176 rfl) ?_
                refine r_bipush 9 rfl ?_
                refine r_iconst 0 rfl ?_
                refine r_callV 134 rfl [.ref 177, .int 9, .int 0] [] (Nat.le_of_ble_eq_true rfl) rfl (T_X4_add_177 _ hI8159 9 0) ?_
                rintro _ _ ⟨g8165, rfl, hI8166, hF8167, v8168, rfl, hr8169⟩
                refine At.sti ?_
                have hF8170 := Fr.tr hF8163 hF8167 rfl rfl
                refine At.enter rfl ?_
                refine r_pop rfl ?_
                refine Ar.fall 135 rfl ?_
                refine At.enter rfl ?_
                refine r_vret ?_
                exact ⟨_, rfl, hI8166, hF8170, rfl⟩
          · have c8142_ : v8141.toInt = (-1) := en_i_ne_f c8142
            refine At.enter rfl ?_
            refine r_aload_n rfl ?_
            refine r_aload_n rfl ?_
            obtain ⟨v8171, hv8171⟩ : ∃ v, gI g7905 176 4 = v := ⟨_, rfl⟩
            have rv8171 := RgF.at hI7906.2.1 (p := 176) (b := 4) rfl
            rw [hv8171] at rv8171
            dsimp only at rv8171
            refine q_getI (Sh.int hI8056.1 kx_176 rfl) v8171 (((hF8057.1 176 4 (by decide)).trans (hF8050.1 176 4 (by decide))).trans hv8171) ?_
            refine q_putI (Sh.int hI8056.1 kx_176 rfl) rfl ?_
            have hI8172 := HI.wI0 hI8056 kx_176 rfl (p := 176) (b := 2) (v := v8171) rfl
            have hF8173 := Fr.wI (p := 176) (b := 2) (v := v8171) hF8060 rfl
            refine Ar.fall 16 rfl ?_
            refine At.enter rfl ?_
            refine q_vret ?_
            refine At.enter rfl ?_
            refine r_goto ?_
            refine At.enter rfl ?_
            refine q_vret ?_
            refine At.enter rfl ?_
            refine r_aload_n e7911 ?_
            refine q_getI (Sh.int hI8172.1 kx_176 rfl) v8171 (gI_sI_eq hI8056.1 kx_176 rfl _) ?_
            refine r_iconst (-1) rfl ?_
            refine r_ics 62 rfl (fun c8174 => ?_) (fun c8174 => ?_)
            · have c8174_ : v8171.toInt ≠ (-1) := en_i_ne_t c8174
              refine At.enter rfl ?_
              refine r_iload_n e7913 ?_
              refine r_ifs 124 rfl (fun c8175 => ?_) (fun c8175 => ?_)
              · have c8175_ : x7903.toInt = 0 := en_k_eq_t c8175
                refine At.enter rfl ?_
                refine r_vret ?_
                exact ⟨_, rfl, hI8172, hF8173, rfl⟩
              · have c8175_ : x7903.toInt ≠ 0 := en_k_eq_f c8175
                refine At.enter rfl ?_
                refine r_aload_n e7911 ?_
                refine q_getR (Sh.ref hI8172.1 kx_176 rfl) ?_
                refine r_bipush 9 rfl ?_
                refine r_iconst 0 rfl ?_
                refine r_callV 134 rfl [.ref 177, .int 9, .int 0] [] (Nat.le_of_ble_eq_true rfl) rfl (T_X4_add_177 _ hI8172 9 0) ?_
                rintro _ _ ⟨g8176, rfl, hI8177, hF8178, v8179, rfl, hr8180⟩
                refine At.sti ?_
                have hF8181 := Fr.tr hF8173 hF8178 rfl rfl
                refine At.enter rfl ?_
                refine r_pop rfl ?_
                refine Ar.fall 135 rfl ?_
                refine At.enter rfl ?_
                refine r_vret ?_
                exact ⟨_, rfl, hI8177, hF8181, rfl⟩
            · have c8174_ : v8171.toInt = (-1) := en_i_ne_f c8174
              exfalso; omega
    · have c8054_ : v8051.toInt ≠ 0 := en_k_eq_f c8054
      refine At.enter rfl ?_
      refine r_aload_n e7911 ?_
      refine r_callV 24 rfl [.ref 176] [] (Nat.le_of_ble_eq_true rfl) rfl (T_X5_step_176 _ hI8049) ?_
      rintro _ _ ⟨g8182, rfl, hI8183, hF8184, rfl⟩
      refine At.stn ?_
      have hF8187 := Fr.tr hF8053 hF8184 rfl rfl
      refine At.enter rfl ?_
      refine r_iload_n e7913 ?_
      refine r_ifs 28 rfl (fun c8188 => ?_) (fun c8188 => ?_)
      · have c8188_ : x7903.toInt ≠ 0 := en_k_ne_t c8188
        refine At.enter rfl ?_
        refine r_iconst 0 rfl ?_
        refine Ar.fall 33 rfl ?_
        refine At.enter rfl ?_
        refine r_istore_n _ rfl ?_
        refine q_iinc (w_p1 (by decide) (Or.inr rfl) e7914) (x7904.toInt + 1) rfl (by omega) (fun v8189 hv8189 => ?_)
        refine r_goto ?_
        exact ih7910 (400 - v8189.toInt) _ _ ⟨0, v8189, by first | rfl | omega, hI8183, hF8187, (w_p1 (by decide) (Or.inr rfl) (w_p1 (by decide) (Or.inr rfl) e7911)), (w_p1 (by decide) (Or.inr rfl) (w_p1 (by decide) (Or.inr rfl) e7912)), (w_p1 (by decide) (Or.inr rfl) (w_e1 _ _ _)), (w_e1 _ _ _), by decide, by omega⟩ ⟨by omega, by omega⟩
      · have c8188_ : x7903.toInt = 0 := en_k_ne_f c8188
        refine At.enter rfl ?_
        refine r_iconst 1 rfl ?_
        refine r_goto ?_
        refine At.enter rfl ?_
        refine r_istore_n _ rfl ?_
        refine q_iinc (w_p1 (by decide) (Or.inr rfl) e7914) (x7904.toInt + 1) rfl (by omega) (fun v8190 hv8190 => ?_)
        refine r_goto ?_
        exact ih7910 (400 - v8190.toInt) _ _ ⟨1, v8190, by first | rfl | omega, hI8183, hF8187, (w_p1 (by decide) (Or.inr rfl) (w_p1 (by decide) (Or.inr rfl) e7911)), (w_p1 (by decide) (Or.inr rfl) (w_p1 (by decide) (Or.inr rfl) e7912)), (w_p1 (by decide) (Or.inr rfl) (w_e1 _ _ _)), (w_e1 _ _ _), by decide, by omega⟩ ⟨by omega, by omega⟩
