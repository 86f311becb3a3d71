def F_X5_isSingle_176 : List (Nat × Nat) := []
def A_X5_isSingle_176 : List Nat := []
set_option maxRecDepth 100000 in
set_option maxHeartbeats 4000000 in
theorem T_X5_isSingle_176 (d : Nat) {N : Nat} {g0 : List en_E} (hI0 : HI g0) (a1 : Int32) : Ev (d + 2) 75 [.ref 176, .int a1] (g0, N) (fun w h' => ∃ g', h' = (g', N) ∧ HI g' ∧ Fr F_X5_isSingle_176 A_X5_isSingle_176 g0 g' ∧ ∃ r : Int32, w = some (.int r) ∧ (0 ≤ r.toInt ∧ r.toInt ≤ 1)) := by
  have hF0 : Fr F_X5_isSingle_176 A_X5_isSingle_176 g0 g0 := Fr.rf
  refine Ev.mk rfl rfl ⟨Nat.le_of_ble_eq_true rfl, Or.inr (q_rc hI0.1 kx_176 rfl)⟩ ?_
  show At _ none _ _ (0, [(0, .ref 176), (1, .int a1)], [], (_, _)) _
  refine At.enter rfl ?_
  refine r_aload_n rfl ?_
  obtain ⟨v25, hv25⟩ : ∃ v, gI g0 176 3 = v := ⟨_, rfl⟩
  refine q_getI (Sh.int hI0.1 kx_176 rfl) v25 hv25 ?_
  refine r_iconst 2 rfl ?_
  refine r_ics 8 rfl (fun c26 => ?_) (fun c26 => ?_)
  · have c26_ : v25.toInt ≠ 2 := en_i_ne_t c26
    refine At.enter rfl ?_
    refine r_iconst 0 rfl ?_
    refine Ar.fall 28 rfl ?_
    refine At.enter rfl ?_
    refine r_iretz (by decide) ?_
    exact ⟨_, rfl, hI0, hF0, _, rfl, by decide⟩
  · have c26_ : v25.toInt = 2 := en_i_ne_f c26
    refine At.enter rfl ?_
    refine r_aload_n rfl ?_
    refine q_getR (Sh.ref hI0.1 kx_176 rfl) ?_
    refine r_aload_n rfl ?_
    obtain ⟨v27, hv27⟩ : ∃ v, gI g0 176 4 = v := ⟨_, rfl⟩
    have rv27 := RgF.at hI0.2.1 (p := 176) (b := 4) rfl
    rw [hv27] at rv27
    dsimp only at rv27
    refine q_getI (Sh.int hI0.1 kx_176 rfl) v27 hv27 ?_
    refine r_callV 19 rfl [.ref 174, .int v27] [] (Nat.le_of_ble_eq_true rfl) rfl (T_X8_at_174 _ hI0 v27) ?_
    rintro _ _ ⟨g28, rfl, hI29, hF30, v31, rfl, hr32⟩
    refine At.sti ?_
    have hF33 := Fr.tr hF0 hF30 rfl rfl
    obtain ⟨v34, hv34⟩ : ∃ v, gI g0 174 1 = v := ⟨_, rfl⟩
    have rv34 := RgF.at hI0.2.1 (p := 174) (b := 1) rfl
    rw [hv34] at rv34
    dsimp only at rv34
    have tv34 := congrArg Int32.toInt hv34
    have x35 := HI.eqI hI0 (p := 174) (b := 1) (hv34)
    refine At.enter rfl ?_
    refine r_iload_n rfl ?_
    refine r_ics 23 rfl (fun c36 => ?_) (fun c36 => ?_)
    · have c36_ : v31.toInt ≠ a1.toInt := en_i_ne_t c36
      refine At.enter rfl ?_
      refine r_iconst 0 rfl ?_
      refine Ar.fall 28 rfl ?_
      refine At.enter rfl ?_
      refine r_iretz (by decide) ?_
      exact ⟨_, rfl, hI29, hF33, _, rfl, by decide⟩
    · have c36_ : v31.toInt = a1.toInt := en_i_ne_f c36
      refine At.enter rfl ?_
      refine r_iconst 1 rfl ?_
      refine r_goto ?_
      refine At.enter rfl ?_
      refine r_iretz (by decide) ?_
      exact ⟨_, rfl, hI29, hF33, _, rfl, by decide⟩

def F_X5_step_176 : List (Nat × Nat) := [(176, 3), (176, 4), (176, 5)]
def A_X5_step_176 : List Nat := []
set_option maxRecDepth 100000 in
set_option maxHeartbeats 4000000 in
theorem T_X5_step_176 (d : Nat) {N : Nat} {g0 : List en_E} (hI0 : HI g0) : Ev (d + 2) 73 [.ref 176] (g0, N) (fun w h' => ∃ g', h' = (g', N) ∧ HI g' ∧ Fr F_X5_step_176 A_X5_step_176 g0 g' ∧ w = none) := by
  have hF0 : Fr F_X5_step_176 A_X5_step_176 g0 g0 := Fr.rf
  refine Ev.mk rfl rfl ⟨Nat.le_of_ble_eq_true rfl, Or.inr (q_rc hI0.1 kx_176 rfl)⟩ ?_
  show At _ none _ _ (0, [(0, .ref 176)], [], (_, _)) _
  refine At.enter rfl ?_
  refine r_aload_n rfl ?_
  obtain ⟨v1385, hv1385⟩ : ∃ v, gI g0 176 5 = v := ⟨_, rfl⟩
  have rv1385 := RgF.at hI0.2.1 (p := 176) (b := 5) rfl
  rw [hv1385] at rv1385
  dsimp only at rv1385
  refine q_getI (Sh.int hI0.1 kx_176 rfl) v1385 hv1385 ?_
  refine r_istore_n ([(1, .int v1385), (0, .ref 176)]) rfl ?_
  refine Ar.fall 5 rfl ?_
  refine w_loopI (fun n_ l_ g_ => ∃ x1718 : Int32, n_ = 400 - x1718.toInt ∧ HI g_ ∧ Fr F_X5_step_176 A_X5_step_176 g0 g_ ∧ en_get 0 l_ = some (.ref 176) ∧ en_get 1 l_ = some (.int x1718) ∧ (0 ≤ x1718.toInt ∧ x1718.toInt ≤ 400)) ?_ (400 - v1385.toInt) ⟨v1385, by first | rfl | omega, hI0, hF0, rfl, rfl, by omega⟩
  rintro n1723 l1722 g1719 ⟨x1718, hm1728, hI1720, hF1721, e1725, e1726, r1727⟩ ih1724
  refine At.enter rfl ?_
  refine r_iload_n e1726 ?_
  refine r_aload_n e1725 ?_
  refine q_getR (Sh.ref hI1720.1 kx_176 rfl) ?_
  obtain ⟨v1729, hv1729⟩ : ∃ v, gI g0 174 1 = v := ⟨_, rfl⟩
  have rv1729 := RgF.at hI0.2.1 (p := 174) (b := 1) rfl
  rw [hv1729] at rv1729
  dsimp only at rv1729
  refine q_getI (Sh.int hI1720.1 kx_174 rfl) v1729 ((hF1721.1 174 1 (by decide)).trans hv1729) ?_
  have bv1731 := q_bnd x1718
  have bv1732 := q_bnd v1729
  refine r_ics 16 rfl (fun c1730 => ?_) (fun c1730 => ?_)
  · have c1730_ : x1718.toInt ≥ v1729.toInt := en_i_ge_t c1730
    refine At.enter rfl ?_
    refine r_aload_n e1725 ?_
    refine r_iload_n e1726 ?_
    refine q_putI (Sh.int hI1720.1 kx_176 rfl) rfl ?_
    have hI1733 := HI.wI1 hI1720 kx_176 rfl (p := 176) (b := 4) (v := x1718) rfl (by dsimp only; omega)
    have hF1734 := Fr.wI (p := 176) (b := 4) (v := x1718) hF1721 rfl
    refine r_aload_n e1725 ?_
    refine r_aload_n e1725 ?_
    refine q_getR (Sh.ref hI1733.1 kx_176 rfl) ?_
    refine r_iload_n e1726 ?_
    refine r_callV 49 rfl [.ref 174, .int x1718] [.ref 176] (Nat.le_of_ble_eq_true rfl) rfl (T_X8_at_174 _ hI1733 x1718) ?_
    rintro _ _ ⟨g1735, rfl, hI1736, hF1737, v1738, rfl, hr1739⟩
    refine At.sti ?_
    have hF1740 := Fr.tr hF1734 hF1737 rfl rfl
    have x1741 := HI.eqI hI1733 (p := 174) (b := 1) ((((gI_sI_ne (by decide)).trans (hF1721.1 174 1 (by decide))).trans hv1729))
    refine At.enter rfl ?_
    refine r_callS 52 rfl [.int v1738] [.ref 176] (Nat.le_of_ble_eq_true rfl) rfl (T_X5_kindOf _ hI1736 v1738) ?_
    rintro _ _ ⟨g1742, rfl, hI1743, hF1744, v1745, rfl, hr1746⟩
    refine At.sti ?_
    have hF1747 := Fr.tr hF1740 hF1744 rfl rfl
    refine At.enter rfl ?_
    refine q_putI (Sh.int hI1743.1 kx_176 rfl) rfl ?_
    have hI1748 := HI.wI0 hI1743 kx_176 rfl (p := 176) (b := 3) (v := v1745) rfl
    have hF1749 := Fr.wI (p := 176) (b := 3) (v := v1745) hF1747 rfl
    refine r_aload_n e1725 ?_
    refine q_getI (Sh.int hI1748.1 kx_176 rfl) v1745 (gI_sI_eq hI1743.1 kx_176 rfl _) ?_
    refine r_iconst 3 rfl ?_
    refine r_ics 63 rfl (fun c1750 => ?_) (fun c1750 => ?_)
    · have c1750_ : v1745.toInt = 3 := en_i_eq_t c1750
      refine w_loopI (fun n_ l_ g_ => ∃ x1778 : Int32, n_ = 400 - x1778.toInt ∧ HI g_ ∧ Fr F_X5_step_176 A_X5_step_176 g0 g_ ∧ en_get 0 l_ = some (.ref 176) ∧ en_get 1 l_ = some (.int x1778) ∧ (0 ≤ x1778.toInt ∧ x1778.toInt ≤ 400)) ?_ (400 - x1718.toInt) ⟨x1718, by first | rfl | omega, hI1748, hF1749, e1725, e1726, by omega⟩
      rintro n1783 l1782 g1779 ⟨x1778, hm1788, hI1780, hF1781, e1785, e1786, r1787⟩ ih1784
      refine At.enter rfl ?_
      refine r_iload_n e1786 ?_
      refine r_aload_n e1785 ?_
      refine q_getR (Sh.ref hI1780.1 kx_176 rfl) ?_
      refine q_getI (Sh.int hI1780.1 kx_174 rfl) v1729 ((hF1781.1 174 1 (by decide)).trans hv1729) ?_
      have bv1790 := q_bnd x1778
      refine r_ics 77 rfl (fun c1789 => ?_) (fun c1789 => ?_)
      · have c1789_ : x1778.toInt ≥ v1729.toInt := en_i_ge_t c1789
        refine At.enter rfl ?_
        refine r_aload_n e1785 ?_
        refine r_iload_n e1786 ?_
        refine q_putI (Sh.int hI1780.1 kx_176 rfl) rfl ?_
        have hI1791 := HI.wI1 hI1780 kx_176 rfl (p := 176) (b := 5) (v := x1778) rfl (by dsimp only; omega)
        have hF1792 := Fr.wI (p := 176) (b := 5) (v := x1778) hF1781 rfl
        refine r_vret ?_
        exact ⟨_, rfl, hI1791, hF1792, rfl⟩
      · have c1789_ : x1778.toInt < v1729.toInt := en_i_ge_f c1789
        refine At.enter rfl ?_
        refine r_aload_n e1785 ?_
        obtain ⟨v1793, hv1793⟩ : ∃ v, gI g1779 176 3 = v := ⟨_, rfl⟩
        refine q_getI (Sh.int hI1780.1 kx_176 rfl) v1793 hv1793 ?_
        refine r_iconst 2 rfl ?_
        refine r_ics 85 rfl (fun c1794 => ?_) (fun c1794 => ?_)
        · have c1794_ : v1793.toInt = 2 := en_i_eq_t c1794
          refine At.enter rfl ?_
          refine r_aload_n e1785 ?_
          refine r_iload_n e1786 ?_
          refine q_putI (Sh.int hI1780.1 kx_176 rfl) rfl ?_
          have hI1795 := HI.wI1 hI1780 kx_176 rfl (p := 176) (b := 5) (v := x1778) rfl (by dsimp only; omega)
          have hF1796 := Fr.wI (p := 176) (b := 5) (v := x1778) hF1781 rfl
          refine r_vret ?_
          exact ⟨_, rfl, hI1795, hF1796, rfl⟩
        · have c1794_ : v1793.toInt ≠ 2 := en_i_eq_f c1794
          refine At.enter rfl ?_
          refine r_aload_n e1785 ?_
          refine q_getR (Sh.ref hI1780.1 kx_176 rfl) ?_
          refine r_iload_n e1786 ?_
          refine r_callV 93 rfl [.ref 174, .int x1778] [] (Nat.le_of_ble_eq_true rfl) rfl (T_X8_at_174 _ hI1780 x1778) ?_
          rintro _ _ ⟨g1797, rfl, hI1798, hF1799, v1800, rfl, hr1801⟩
          refine At.sti ?_
          have hF1802 := Fr.tr hF1781 hF1799 rfl rfl
          have x1803 := HI.eqI hI1780 (p := 174) (b := 1) (((hF1781.1 174 1 (by decide)).trans hv1729))
          refine At.enter rfl ?_
          refine r_callS 96 rfl [.int v1800] [] (Nat.le_of_ble_eq_true rfl) rfl (T_X5_kindOf _ hI1798 v1800) ?_
          rintro _ _ ⟨g1804, rfl, hI1805, hF1806, v1807, rfl, hr1808⟩
          refine At.sti ?_
          have hF1809 := Fr.tr hF1802 hF1806 rfl rfl
          refine At.enter rfl ?_
          refine r_aload_n e1785 ?_
          refine q_getI (Sh.int hI1805.1 kx_176 rfl) v1793 (((hF1806.1 176 3 (by decide)).trans (hF1799.1 176 3 (by decide))).trans hv1793) ?_
          refine r_ics 103 rfl (fun c1810 => ?_) (fun c1810 => ?_)
          · have c1810_ : v1807.toInt ≠ v1793.toInt := en_i_ne_t c1810
            refine At.enter rfl ?_
            refine r_aload_n e1785 ?_
            refine r_iload_n e1786 ?_
            refine q_putI (Sh.int hI1805.1 kx_176 rfl) rfl ?_
            have hI1811 := HI.wI1 hI1805 kx_176 rfl (p := 176) (b := 5) (v := x1778) rfl (by dsimp only; omega)
            have hF1812 := Fr.wI (p := 176) (b := 5) (v := x1778) hF1809 rfl
            refine r_vret ?_
            exact ⟨_, rfl, hI1811, hF1812, rfl⟩
          · have c1810_ : v1807.toInt = v1793.toInt := en_i_ne_f c1810
            refine At.enter rfl ?_
            refine q_iinc e1786 (x1778.toInt + 1) rfl (by omega) (fun v1813 hv1813 => ?_)
            refine r_goto ?_
            exact ih1784 (400 - v1813.toInt) _ _ ⟨v1813, by first | rfl | omega, hI1805, hF1809, (w_p1 (by decide) (Or.inr rfl) e1785), (w_e1 _ _ _), by omega⟩ ⟨by omega, by omega⟩
    · have c1750_ : v1745.toInt ≠ 3 := en_i_eq_f c1750
      refine At.enter rfl ?_
      refine q_iinc e1726 (x1718.toInt + 1) rfl (by omega) (fun v1814 hv1814 => ?_)
      refine Ar.fall 66 rfl ?_
      refine w_loopI (fun n_ l_ g_ => ∃ x1842 : Int32, n_ = 401 - x1842.toInt ∧ HI g_ ∧ Fr F_X5_step_176 A_X5_step_176 g0 g_ ∧ en_get 0 l_ = some (.ref 176) ∧ en_get 1 l_ = some (.int x1842) ∧ (1 ≤ x1842.toInt ∧ x1842.toInt ≤ 401)) ?_ (401 - v1814.toInt) ⟨v1814, by first | rfl | omega, hI1748, hF1749, (w_p1 (by decide) (Or.inr rfl) e1725), (w_e1 _ _ _), by omega⟩
      rintro n1847 l1846 g1843 ⟨x1842, hm1852, hI1844, hF1845, e1849, e1850, r1851⟩ ih1848
      refine At.enter rfl ?_
      refine r_iload_n e1850 ?_
      refine r_aload_n e1849 ?_
      refine q_getR (Sh.ref hI1844.1 kx_176 rfl) ?_
      refine q_getI (Sh.int hI1844.1 kx_174 rfl) v1729 ((hF1845.1 174 1 (by decide)).trans hv1729) ?_
      have bv1854 := q_bnd x1842
      refine r_ics 77 rfl (fun c1853 => ?_) (fun c1853 => ?_)
      · have c1853_ : x1842.toInt ≥ v1729.toInt := en_i_ge_t c1853
        refine At.enter rfl ?_
        refine r_aload_n e1849 ?_
        refine r_iload_n e1850 ?_
        refine q_putI (Sh.int hI1844.1 kx_176 rfl) rfl ?_
        have hI1855 := HI.wI1 hI1844 kx_176 rfl (p := 176) (b := 5) (v := x1842) rfl (by dsimp only; omega)
        have hF1856 := Fr.wI (p := 176) (b := 5) (v := x1842) hF1845 rfl
        refine r_vret ?_
        exact ⟨_, rfl, hI1855, hF1856, rfl⟩
      · have c1853_ : x1842.toInt < v1729.toInt := en_i_ge_f c1853
        refine At.enter rfl ?_
        refine r_aload_n e1849 ?_
        obtain ⟨v1857, hv1857⟩ : ∃ v, gI g1843 176 3 = v := ⟨_, rfl⟩
        refine q_getI (Sh.int hI1844.1 kx_176 rfl) v1857 hv1857 ?_
        refine r_iconst 2 rfl ?_
        refine r_ics 85 rfl (fun c1858 => ?_) (fun c1858 => ?_)
        · have c1858_ : v1857.toInt = 2 := en_i_eq_t c1858
          refine At.enter rfl ?_
          refine r_aload_n e1849 ?_
          refine r_iload_n e1850 ?_
          refine q_putI (Sh.int hI1844.1 kx_176 rfl) rfl ?_
          have hI1859 := HI.wI1 hI1844 kx_176 rfl (p := 176) (b := 5) (v := x1842) rfl (by dsimp only; omega)
          have hF1860 := Fr.wI (p := 176) (b := 5) (v := x1842) hF1845 rfl
          refine r_vret ?_
          exact ⟨_, rfl, hI1859, hF1860, rfl⟩
        · have c1858_ : v1857.toInt ≠ 2 := en_i_eq_f c1858
          refine At.enter rfl ?_
          refine r_aload_n e1849 ?_
          refine q_getR (Sh.ref hI1844.1 kx_176 rfl) ?_
          refine r_iload_n e1850 ?_
          refine r_callV 93 rfl [.ref 174, .int x1842] [] (Nat.le_of_ble_eq_true rfl) rfl (T_X8_at_174 _ hI1844 x1842) ?_
          rintro _ _ ⟨g1861, rfl, hI1862, hF1863, v1864, rfl, hr1865⟩
          refine At.sti ?_
          have hF1866 := Fr.tr hF1845 hF1863 rfl rfl
          have x1867 := HI.eqI hI1844 (p := 174) (b := 1) (((hF1845.1 174 1 (by decide)).trans hv1729))
          refine At.enter rfl ?_
          refine r_callS 96 rfl [.int v1864] [] (Nat.le_of_ble_eq_true rfl) rfl (T_X5_kindOf _ hI1862 v1864) ?_
          rintro _ _ ⟨g1868, rfl, hI1869, hF1870, v1871, rfl, hr1872⟩
          refine At.sti ?_
          have hF1873 := Fr.tr hF1866 hF1870 rfl rfl
          refine At.enter rfl ?_
          refine r_aload_n e1849 ?_
          refine q_getI (Sh.int hI1869.1 kx_176 rfl) v1857 (((hF1870.1 176 3 (by decide)).trans (hF1863.1 176 3 (by decide))).trans hv1857) ?_
          refine r_ics 103 rfl (fun c1874 => ?_) (fun c1874 => ?_)
          · have c1874_ : v1871.toInt ≠ v1857.toInt := en_i_ne_t c1874
            refine At.enter rfl ?_
            refine r_aload_n e1849 ?_
            refine r_iload_n e1850 ?_
            refine q_putI (Sh.int hI1869.1 kx_176 rfl) rfl ?_
            have hI1875 := HI.wI1 hI1869 kx_176 rfl (p := 176) (b := 5) (v := x1842) rfl (by dsimp only; omega)
            have hF1876 := Fr.wI (p := 176) (b := 5) (v := x1842) hF1873 rfl
            refine r_vret ?_
            exact ⟨_, rfl, hI1875, hF1876, rfl⟩
          · have c1874_ : v1871.toInt = v1857.toInt := en_i_ne_f c1874
            refine At.enter rfl ?_
            refine q_iinc e1850 (x1842.toInt + 1) rfl (by omega) (fun v1877 hv1877 => ?_)
            refine r_goto ?_
            exact ih1848 (401 - v1877.toInt) _ _ ⟨v1877, by first | rfl | omega, hI1869, hF1873, (w_p1 (by decide) (Or.inr rfl) e1849), (w_e1 _ _ _), by omega⟩ ⟨by omega, by omega⟩
  · have c1730_ : x1718.toInt < v1729.toInt := en_i_ge_f c1730
    refine At.enter rfl ?_
    refine r_aload_n e1725 ?_
    refine q_getR (Sh.ref hI1720.1 kx_176 rfl) ?_
    refine r_iload_n e1726 ?_
    refine r_callV 24 rfl [.ref 174, .int x1718] [] (Nat.le_of_ble_eq_true rfl) rfl (T_X8_at_174 _ hI1720 x1718) ?_
    rintro _ _ ⟨g1878, rfl, hI1879, hF1880, v1881, rfl, hr1882⟩
    refine At.sti ?_
    have hF1883 := Fr.tr hF1721 hF1880 rfl rfl
    have x1884 := HI.eqI hI1720 (p := 174) (b := 1) (((hF1721.1 174 1 (by decide)).trans hv1729))
    refine At.enter rfl ?_
    refine r_bipush 32 rfl ?_
    refine r_ics 29 rfl (fun c1885 => ?_) (fun c1885 => ?_)
    · have c1885_ : v1881.toInt ≠ 32 := en_i_ne_t c1885
      refine At.enter rfl ?_
      refine r_aload_n e1725 ?_
      refine r_iload_n e1726 ?_
      refine q_putI (Sh.int hI1879.1 kx_176 rfl) rfl ?_
      have hI1886 := HI.wI1 hI1879 kx_176 rfl (p := 176) (b := 4) (v := x1718) rfl (by dsimp only; omega)
      have hF1887 := Fr.wI (p := 176) (b := 4) (v := x1718) hF1883 rfl
      refine r_aload_n e1725 ?_
      refine r_aload_n e1725 ?_
      refine q_getR (Sh.ref hI1886.1 kx_176 rfl) ?_
      refine r_iload_n e1726 ?_
      refine r_callV 49 rfl [.ref 174, .int x1718] [.ref 176] (Nat.le_of_ble_eq_true rfl) rfl (T_X8_at_174 _ hI1886 x1718) ?_
      rintro _ _ ⟨g1888, rfl, hI1889, hF1890, v1891, rfl, hr1892⟩
      refine At.sti ?_
      have hF1893 := Fr.tr hF1887 hF1890 rfl rfl
      have x1894 := HI.eqI hI1886 (p := 174) (b := 1) ((((gI_sI_ne (by decide)).trans ((hF1880.1 174 1 (by decide)).trans (hF1721.1 174 1 (by decide)))).trans hv1729))
      refine At.enter rfl ?_
      refine r_callS 52 rfl [.int v1891] [.ref 176] (Nat.le_of_ble_eq_true rfl) rfl (T_X5_kindOf _ hI1889 v1891) ?_
      rintro _ _ ⟨g1895, rfl, hI1896, hF1897, v1898, rfl, hr1899⟩
      refine At.sti ?_
      have hF1900 := Fr.tr hF1893 hF1897 rfl rfl
      refine At.enter rfl ?_
      refine q_putI (Sh.int hI1896.1 kx_176 rfl) rfl ?_
      have hI1901 := HI.wI0 hI1896 kx_176 rfl (p := 176) (b := 3) (v := v1898) rfl
      have hF1902 := Fr.wI (p := 176) (b := 3) (v := v1898) hF1900 rfl
      refine r_aload_n e1725 ?_
      refine q_getI (Sh.int hI1901.1 kx_176 rfl) v1898 (gI_sI_eq hI1896.1 kx_176 rfl _) ?_
      refine r_iconst 3 rfl ?_
      refine r_ics 63 rfl (fun c1903 => ?_) (fun c1903 => ?_)
      · have c1903_ : v1898.toInt = 3 := en_i_eq_t c1903
        refine w_loopI (fun n_ l_ g_ => ∃ x1958 : Int32, n_ = 400 - x1958.toInt ∧ HI g_ ∧ Fr F_X5_step_176 A_X5_step_176 g0 g_ ∧ en_get 0 l_ = some (.ref 176) ∧ en_get 1 l_ = some (.int x1958) ∧ (0 ≤ x1958.toInt ∧ x1958.toInt ≤ 400)) ?_ (400 - x1718.toInt) ⟨x1718, by first | rfl | omega, hI1901, hF1902, e1725, e1726, by omega⟩
        rintro n1963 l1962 g1959 ⟨x1958, hm1968, hI1960, hF1961, e1965, e1966, r1967⟩ ih1964
        refine At.enter rfl ?_
        refine r_iload_n e1966 ?_
        refine r_aload_n e1965 ?_
        refine q_getR (Sh.ref hI1960.1 kx_176 rfl) ?_
        refine q_getI (Sh.int hI1960.1 kx_174 rfl) v1729 ((hF1961.1 174 1 (by decide)).trans hv1729) ?_
        have bv1970 := q_bnd x1958
        refine r_ics 77 rfl (fun c1969 => ?_) (fun c1969 => ?_)
        · have c1969_ : x1958.toInt ≥ v1729.toInt := en_i_ge_t c1969
          refine At.enter rfl ?_
          refine r_aload_n e1965 ?_
          refine r_iload_n e1966 ?_
          refine q_putI (Sh.int hI1960.1 kx_176 rfl) rfl ?_
          have hI1971 := HI.wI1 hI1960 kx_176 rfl (p := 176) (b := 5) (v := x1958) rfl (by dsimp only; omega)
          have hF1972 := Fr.wI (p := 176) (b := 5) (v := x1958) hF1961 rfl
          refine r_vret ?_
          exact ⟨_, rfl, hI1971, hF1972, rfl⟩
        · have c1969_ : x1958.toInt < v1729.toInt := en_i_ge_f c1969
          refine At.enter rfl ?_
          refine r_aload_n e1965 ?_
          obtain ⟨v1973, hv1973⟩ : ∃ v, gI g1959 176 3 = v := ⟨_, rfl⟩
          refine q_getI (Sh.int hI1960.1 kx_176 rfl) v1973 hv1973 ?_
          refine r_iconst 2 rfl ?_
          refine r_ics 85 rfl (fun c1974 => ?_) (fun c1974 => ?_)
          · have c1974_ : v1973.toInt = 2 := en_i_eq_t c1974
            refine At.enter rfl ?_
            refine r_aload_n e1965 ?_
            refine r_iload_n e1966 ?_
            refine q_putI (Sh.int hI1960.1 kx_176 rfl) rfl ?_
            have hI1975 := HI.wI1 hI1960 kx_176 rfl (p := 176) (b := 5) (v := x1958) rfl (by dsimp only; omega)
            have hF1976 := Fr.wI (p := 176) (b := 5) (v := x1958) hF1961 rfl
            refine r_vret ?_
            exact ⟨_, rfl, hI1975, hF1976, rfl⟩
          · have c1974_ : v1973.toInt ≠ 2 := en_i_eq_f c1974
            refine At.enter rfl ?_
            refine r_aload_n e1965 ?_
            refine q_getR (Sh.ref hI1960.1 kx_176 rfl) ?_
            refine r_iload_n e1966 ?_
            refine r_callV 93 rfl [.ref 174, .int x1958] [] (Nat.le_of_ble_eq_true rfl) rfl (T_X8_at_174 _ hI1960 x1958) ?_
            rintro _ _ ⟨g1977, rfl, hI1978, hF1979, v1980, rfl, hr1981⟩
            refine At.sti ?_
            have hF1982 := Fr.tr hF1961 hF1979 rfl rfl
            have x1983 := HI.eqI hI1960 (p := 174) (b := 1) (((hF1961.1 174 1 (by decide)).trans hv1729))
            refine At.enter rfl ?_
            refine r_callS 96 rfl [.int v1980] [] (Nat.le_of_ble_eq_true rfl) rfl (T_X5_kindOf _ hI1978 v1980) ?_
            rintro _ _ ⟨g1984, rfl, hI1985, hF1986, v1987, rfl, hr1988⟩
            refine At.sti ?_
            have hF1989 := Fr.tr hF1982 hF1986 rfl rfl
            refine At.enter rfl ?_
            refine r_aload_n e1965 ?_
            refine q_getI (Sh.int hI1985.1 kx_176 rfl) v1973 (((hF1986.1 176 3 (by decide)).trans (hF1979.1 176 3 (by decide))).trans hv1973) ?_
            refine r_ics 103 rfl (fun c1990 => ?_) (fun c1990 => ?_)
            · have c1990_ : v1987.toInt ≠ v1973.toInt := en_i_ne_t c1990
              refine At.enter rfl ?_
              refine r_aload_n e1965 ?_
              refine r_iload_n e1966 ?_
              refine q_putI (Sh.int hI1985.1 kx_176 rfl) rfl ?_
              have hI1991 := HI.wI1 hI1985 kx_176 rfl (p := 176) (b := 5) (v := x1958) rfl (by dsimp only; omega)
              have hF1992 := Fr.wI (p := 176) (b := 5) (v := x1958) hF1989 rfl
              refine r_vret ?_
              exact ⟨_, rfl, hI1991, hF1992, rfl⟩
            · have c1990_ : v1987.toInt = v1973.toInt := en_i_ne_f c1990
              refine At.enter rfl ?_
              refine q_iinc e1966 (x1958.toInt + 1) rfl (by omega) (fun v1993 hv1993 => ?_)
              refine r_goto ?_
              exact ih1964 (400 - v1993.toInt) _ _ ⟨v1993, by first | rfl | omega, hI1985, hF1989, (w_p1 (by decide) (Or.inr rfl) e1965), (w_e1 _ _ _), by omega⟩ ⟨by omega, by omega⟩
      · have c1903_ : v1898.toInt ≠ 3 := en_i_eq_f c1903
        refine At.enter rfl ?_
        refine q_iinc e1726 (x1718.toInt + 1) rfl (by omega) (fun v1994 hv1994 => ?_)
        refine Ar.fall 66 rfl ?_
        refine w_loopI (fun n_ l_ g_ => ∃ x2022 : Int32, n_ = 400 - x2022.toInt ∧ HI g_ ∧ Fr F_X5_step_176 A_X5_step_176 g0 g_ ∧ en_get 0 l_ = some (.ref 176) ∧ en_get 1 l_ = some (.int x2022) ∧ (1 ≤ x2022.toInt ∧ x2022.toInt ≤ 400)) ?_ (400 - v1994.toInt) ⟨v1994, by first | rfl | omega, hI1901, hF1902, (w_p1 (by decide) (Or.inr rfl) e1725), (w_e1 _ _ _), by omega⟩
        rintro n2027 l2026 g2023 ⟨x2022, hm2032, hI2024, hF2025, e2029, e2030, r2031⟩ ih2028
        refine At.enter rfl ?_
        refine r_iload_n e2030 ?_
        refine r_aload_n e2029 ?_
        refine q_getR (Sh.ref hI2024.1 kx_176 rfl) ?_
        refine q_getI (Sh.int hI2024.1 kx_174 rfl) v1729 ((hF2025.1 174 1 (by decide)).trans hv1729) ?_
        have bv2034 := q_bnd x2022
        refine r_ics 77 rfl (fun c2033 => ?_) (fun c2033 => ?_)
        · have c2033_ : x2022.toInt ≥ v1729.toInt := en_i_ge_t c2033
          refine At.enter rfl ?_
          refine r_aload_n e2029 ?_
          refine r_iload_n e2030 ?_
          refine q_putI (Sh.int hI2024.1 kx_176 rfl) rfl ?_
          have hI2035 := HI.wI1 hI2024 kx_176 rfl (p := 176) (b := 5) (v := x2022) rfl (by dsimp only; omega)
          have hF2036 := Fr.wI (p := 176) (b := 5) (v := x2022) hF2025 rfl
          refine r_vret ?_
          exact ⟨_, rfl, hI2035, hF2036, rfl⟩
        · have c2033_ : x2022.toInt < v1729.toInt := en_i_ge_f c2033
          refine At.enter rfl ?_
          refine r_aload_n e2029 ?_
          obtain ⟨v2037, hv2037⟩ : ∃ v, gI g2023 176 3 = v := ⟨_, rfl⟩
          refine q_getI (Sh.int hI2024.1 kx_176 rfl) v2037 hv2037 ?_
          refine r_iconst 2 rfl ?_
          refine r_ics 85 rfl (fun c2038 => ?_) (fun c2038 => ?_)
          · have c2038_ : v2037.toInt = 2 := en_i_eq_t c2038
            refine At.enter rfl ?_
            refine r_aload_n e2029 ?_
            refine r_iload_n e2030 ?_
            refine q_putI (Sh.int hI2024.1 kx_176 rfl) rfl ?_
            have hI2039 := HI.wI1 hI2024 kx_176 rfl (p := 176) (b := 5) (v := x2022) rfl (by dsimp only; omega)
            have hF2040 := Fr.wI (p := 176) (b := 5) (v := x2022) hF2025 rfl
            refine r_vret ?_
            exact ⟨_, rfl, hI2039, hF2040, rfl⟩
          · have c2038_ : v2037.toInt ≠ 2 := en_i_eq_f c2038
            refine At.enter rfl ?_
            refine r_aload_n e2029 ?_
            refine q_getR (Sh.ref hI2024.1 kx_176 rfl) ?_
            refine r_iload_n e2030 ?_
            refine r_callV 93 rfl [.ref 174, .int x2022] [] (Nat.le_of_ble_eq_true rfl) rfl (T_X8_at_174 _ hI2024 x2022) ?_
            rintro _ _ ⟨g2041, rfl, hI2042, hF2043, v2044, rfl, hr2045⟩
            refine At.sti ?_
            have hF2046 := Fr.tr hF2025 hF2043 rfl rfl
            have x2047 := HI.eqI hI2024 (p := 174) (b := 1) (((hF2025.1 174 1 (by decide)).trans hv1729))
            refine At.enter rfl ?_
            refine r_callS 96 rfl [.int v2044] [] (Nat.le_of_ble_eq_true rfl) rfl (T_X5_kindOf _ hI2042 v2044) ?_
            rintro _ _ ⟨g2048, rfl, hI2049, hF2050, v2051, rfl, hr2052⟩
            refine At.sti ?_
            have hF2053 := Fr.tr hF2046 hF2050 rfl rfl
            refine At.enter rfl ?_
            refine r_aload_n e2029 ?_
            refine q_getI (Sh.int hI2049.1 kx_176 rfl) v2037 (((hF2050.1 176 3 (by decide)).trans (hF2043.1 176 3 (by decide))).trans hv2037) ?_
            refine r_ics 103 rfl (fun c2054 => ?_) (fun c2054 => ?_)
            · have c2054_ : v2051.toInt ≠ v2037.toInt := en_i_ne_t c2054
              refine At.enter rfl ?_
              refine r_aload_n e2029 ?_
              refine r_iload_n e2030 ?_
              refine q_putI (Sh.int hI2049.1 kx_176 rfl) rfl ?_
              have hI2055 := HI.wI1 hI2049 kx_176 rfl (p := 176) (b := 5) (v := x2022) rfl (by dsimp only; omega)
              have hF2056 := Fr.wI (p := 176) (b := 5) (v := x2022) hF2053 rfl
              refine r_vret ?_
              exact ⟨_, rfl, hI2055, hF2056, rfl⟩
            · have c2054_ : v2051.toInt = v2037.toInt := en_i_ne_f c2054
              refine At.enter rfl ?_
              refine q_iinc e2030 (x2022.toInt + 1) rfl (by omega) (fun v2057 hv2057 => ?_)
              refine r_goto ?_
              exact ih2028 (400 - v2057.toInt) _ _ ⟨v2057, by first | rfl | omega, hI2049, hF2053, (w_p1 (by decide) (Or.inr rfl) e2029), (w_e1 _ _ _), by omega⟩ ⟨by omega, by omega⟩
    · have c1885_ : v1881.toInt = 32 := en_i_ne_f c1885
      refine At.enter rfl ?_
      refine q_iinc e1726 (x1718.toInt + 1) rfl (by omega) (fun v2058 hv2058 => ?_)
      refine r_goto ?_
      exact ih1724 (400 - v2058.toInt) _ _ ⟨v2058, by first | rfl | omega, hI1879, hF1883, (w_p1 (by decide) (Or.inr rfl) e1725), (w_e1 _ _ _), by omega⟩ ⟨by omega, by omega⟩
