def F_X11_canHold_231 : List (Nat × Nat) := []
def A_X11_canHold_231 : List Nat := []
set_option maxRecDepth 100000 in
set_option maxHeartbeats 4000000 in
theorem T_X11_canHold_231 (d : Nat) {N : Nat} {g0 : List en_E} (hI0 : HI g0) (a1 : Int32) (h_a1 : 0 ≤ a1.toInt ∧ a1.toInt ≤ 11) (a2 : Int32) (h_a2 : 0 ≤ a2.toInt ∧ a2.toInt ≤ 7) : Ev (d + 2) 224 [.ref 231, .int a1, .int a2] (g0, N) (fun w h' => ∃ g', h' = (g', N) ∧ HI g' ∧ Fr F_X11_canHold_231 A_X11_canHold_231 g0 g' ∧ ∃ r : Int32, w = some (.int r) ∧ (0 ≤ r.toInt ∧ r.toInt ≤ 1)) := by
  have hF0 : Fr F_X11_canHold_231 A_X11_canHold_231 g0 g0 := Fr.rf
  refine Ev.mk rfl rfl ⟨Nat.le_of_ble_eq_true rfl, Or.inr (q_rc hI0.1 kx_231 rfl)⟩ ?_
  show At _ none _ _ (0, [(0, .ref 231), (1, .int a1), (2, .int a2)], [], (_, _)) _
  refine At.enter rfl ?_
  refine r_iconst 0 rfl ?_
  refine r_istore_n ([(3, .int 0), (0, .ref 231), (1, .int a1), (2, .int a2)]) rfl ?_
  refine r_aload_n rfl ?_
  refine r_iload_n rfl ?_
  refine r_iconst 0 rfl ?_
  refine q_inlV 8 rfl [.ref 231, .int a2, .int 0] [] (Nat.le_of_ble_eq_true rfl) rfl ?_
  refine Ev.mk rfl rfl ⟨Nat.le_of_ble_eq_true rfl, Or.inr (q_rc hI0.1 kx_231 rfl)⟩ ?_
  show At _ none _ _ (0, [(0, .ref 231), (1, .int a2), (2, .int 0)], [], (_, _)) _
  refine At.enter rfl ?_
  refine r_aload_n rfl ?_
  refine q_getR (Sh.ref hI0.1 kx_231 rfl) ?_
  refine r_bipush 46 rfl ?_
  refine r_bipush 6 rfl ?_
  refine r_iload_n rfl ?_
  refine q_imul (6 * a2.toInt) rfl (by omega) (fun v1235 hv1235 => ?_)
  refine q_iadd (46 + v1235.toInt) rfl (by omega) (fun v1236 hv1236 => ?_)
  refine r_iload_n rfl ?_
  refine q_iadd (v1236.toInt + 0) rfl (by omega) (fun v1237 hv1237 => ?_)
  obtain ⟨v1238, hv1238⟩ : ∃ v, eA g0 233 (6 * a2.toInt + 46) = v := ⟨_, rfl⟩
  have wv1238 := HI.l0 hI0 (j := (6 * a2.toInt + 46)) (a2.toInt) (by omega) (by omega)
  rw [hv1238] at wv1238
  refine q_iald (Sh.arr hI0.1 ka_233) (6 * a2.toInt + 46) (by omega) (by omega) v1238 hv1238 ?_
  refine q_ireti ?_
  refine At.enter rfl ?_
  refine r_istore ([(4, .int v1238), (3, .int 0), (0, .ref 231), (1, .int a1), (2, .int a2)]) rfl ?_
  refine r_iconst 0 rfl ?_
  refine r_istore ([(5, .int 0), (4, .int v1238), (3, .int 0), (0, .ref 231), (1, .int a1), (2, .int a2)]) rfl ?_
  refine Ar.fall 13 rfl ?_
  have z_1827 : (0 : Int32).toInt = 0 := rfl
  have z_1828 : (0 : Int32).toInt = 0 := rfl
  refine w_loopI (fun n_ l_ g_ => ∃ x1811 : Int32, ∃ x1812 : Int32, ∃ x1813 : Int32, n_ = 8 - x1813.toInt ∧ HI g_ ∧ Fr F_X11_canHold_231 A_X11_canHold_231 g0 g_ ∧ en_get 0 l_ = some (.ref 231) ∧ en_get 1 l_ = some (.int a1) ∧ en_get 2 l_ = some (.int a2) ∧ en_get 3 l_ = some (.int x1811) ∧ en_get 4 l_ = some (.int x1812) ∧ en_get 5 l_ = some (.int x1813) ∧ (0 ≤ x1813.toInt ∧ x1813.toInt ≤ 8)) ?_ (8 - 0) ⟨0, v1238, 0, by first | rfl | omega, hI0, hF0, rfl, rfl, rfl, rfl, rfl, rfl, by decide⟩
  rintro n1818 l1817 g1814 ⟨x1811, x1812, x1813, hm1829, hI1815, hF1816, e1820, e1821, e1822, e1823, e1824, e1825, r1826⟩ ih1819
  refine At.enter rfl ?_
  refine r_iload e1825 ?_
  refine r_aload_n e1820 ?_
  refine q_getR (Sh.ref hI1815.1 kx_231 rfl) ?_
  refine r_iconst 1 rfl ?_
  obtain ⟨v1830, hv1830⟩ : ∃ v, eA g0 233 1 = v := ⟨_, rfl⟩
  have tv1830 := congrArg Int32.toInt hv1830
  have wv1830 := HI.t1 hI0
  rw [hv1830] at wv1830
  refine q_iald (Sh.arr hI1815.1 ka_233) 1 rfl (by decide) v1830 ((eA_c (hF1816.2.1 233 (by decide))).trans hv1830) ?_
  have bv1832 := q_bnd x1813
  have bv1833 := q_bnd v1830
  refine r_ics 24 rfl (fun c1831 => ?_) (fun c1831 => ?_)
  · have c1831_ : x1813.toInt ≥ v1830.toInt := en_i_ge_t c1831
    refine At.enter rfl ?_
    refine r_iload_n e1823 ?_
    refine r_aload_n e1820 ?_
    refine q_getR (Sh.ref hI1815.1 kx_231 rfl) ?_
    refine r_bipush 6 rfl ?_
    obtain ⟨v1834, hv1834⟩ : ∃ v, eA g0 233 6 = v := ⟨_, rfl⟩
    have wv1834 := HI.t6 hI0
    rw [hv1834] at wv1834
    refine q_iald (Sh.arr hI1815.1 ka_233) 6 rfl (by decide) v1834 ((eA_c (hF1816.2.1 233 (by decide))).trans hv1834) ?_
    have bv1836 := q_bnd x1811
    have bv1837 := q_bnd v1834
    refine r_ics 67 rfl (fun c1835 => ?_) (fun c1835 => ?_)
    · have c1835_ : x1811.toInt ≥ v1834.toInt := en_i_ge_t c1835
      refine At.enter rfl ?_
      refine r_iconst 0 rfl ?_
      refine Ar.fall 83 rfl ?_
      refine At.enter rfl ?_
      refine r_iretz (by decide) ?_
      exact ⟨_, rfl, hI1815, hF1816, _, rfl, by decide⟩
    · have c1835_ : x1811.toInt < v1834.toInt := en_i_ge_f c1835
      refine At.enter rfl ?_
      refine r_iload e1824 ?_
      refine r_aload_n e1820 ?_
      refine q_getR (Sh.ref hI1815.1 kx_231 rfl) ?_
      refine r_iload_n e1821 ?_
      obtain ⟨v1838, hv1838⟩ : ∃ v, eA g0 246 a1.toInt = v := ⟨_, rfl⟩
      refine q_iald (Sh.arr hI1815.1 ka_246) a1.toInt rfl (by omega) v1838 ((eA_c (hF1816.2.1 246 (by decide))).trans hv1838) ?_
      have bv1840 := q_bnd x1812
      have bv1841 := q_bnd v1838
      refine r_ics 78 rfl (fun c1839 => ?_) (fun c1839 => ?_)
      · have c1839_ : x1812.toInt > v1838.toInt := en_i_gt_t c1839
        refine At.enter rfl ?_
        refine r_iconst 0 rfl ?_
        refine Ar.fall 83 rfl ?_
        refine At.enter rfl ?_
        refine r_iretz (by decide) ?_
        exact ⟨_, rfl, hI1815, hF1816, _, rfl, by decide⟩
      · have c1839_ : x1812.toInt ≤ v1838.toInt := en_i_gt_f c1839
        refine At.enter rfl ?_
        refine r_iconst 1 rfl ?_
        refine r_goto ?_
        refine At.enter rfl ?_
        refine r_iretz (by decide) ?_
        exact ⟨_, rfl, hI1815, hF1816, _, rfl, by decide⟩
  · have c1831_ : x1813.toInt < v1830.toInt := en_i_ge_f c1831
    refine At.enter rfl ?_
    refine r_aload_n e1820 ?_
    refine q_getR (Sh.ref hI1815.1 kx_231 rfl) ?_
    refine r_iload e1825 ?_
    obtain ⟨v1842, hv1842⟩ : ∃ v, eA g0 250 x1813.toInt = v := ⟨_, rfl⟩
    have rv1842 := RgA.at hI0.2.2.1 (Sh.arr hI0.1 ka_250).2 (p := 250) rfl (j := x1813.toInt) (by omega)
    rw [hv1842] at rv1842
    dsimp only at rv1842
    refine q_iald (Sh.arr hI1815.1 ka_250) x1813.toInt rfl (by omega) v1842 ((eA_c (hF1816.2.1 250 (by decide))).trans hv1842) ?_
    refine r_iload_n e1821 ?_
    refine r_ics 35 rfl (fun c1843 => ?_) (fun c1843 => ?_)
    · have c1843_ : v1842.toInt ≠ a1.toInt := en_i_ne_t c1843
      refine At.enter rfl ?_
      refine q_iinc e1825 (x1813.toInt + 1) rfl (by omega) (fun v1844 hv1844 => ?_)
      refine r_goto ?_
      have bv1845 := q_bnd x1811
      have bv1846 := q_bnd x1812
      exact ih1819 (8 - v1844.toInt) _ _ ⟨x1811, x1812, v1844, by first | rfl | omega, hI1815, hF1816, (w_p1 (by decide) (Or.inr rfl) e1820), (w_p1 (by decide) (Or.inr rfl) e1821), (w_p1 (by decide) (Or.inr rfl) e1822), (w_p1 (by decide) (Or.inr rfl) e1823), (w_p1 (by decide) (Or.inr rfl) e1824), (w_e1 _ _ _), by omega⟩ ⟨by omega, by omega⟩
    · have c1843_ : v1842.toInt = a1.toInt := en_i_ne_f c1843
      refine At.enter rfl ?_
      refine q_iincO e1823 (fun v1847 _ => ?_)
      refine r_iload (w_p1 (by decide) (Or.inr rfl) e1824) ?_
      refine r_aload_n (w_p1 (by decide) (Or.inr rfl) e1820) ?_
      refine r_iload (w_p1 (by decide) (Or.inr rfl) e1825) ?_
      refine r_iconst 0 rfl ?_
      refine q_inlV 47 rfl [.ref 231, .int x1813, .int 0] [.int x1812] (Nat.le_of_ble_eq_true rfl) rfl ?_
      refine Ev.mk rfl rfl ⟨Nat.le_of_ble_eq_true rfl, Or.inr (q_rc hI1815.1 kx_231 rfl)⟩ ?_
      show At _ none _ _ (0, [(0, .ref 231), (1, .int x1813), (2, .int 0)], [], (_, _)) _
      refine At.enter rfl ?_
      refine r_aload_n rfl ?_
      refine q_getR (Sh.ref hI1815.1 kx_231 rfl) ?_
      refine r_bipush 46 rfl ?_
      refine r_bipush 6 rfl ?_
      refine r_iload_n rfl ?_
      refine q_imul (6 * x1813.toInt) rfl (by omega) (fun v1848 hv1848 => ?_)
      refine q_iadd (46 + v1848.toInt) rfl (by omega) (fun v1849 hv1849 => ?_)
      refine r_iload_n rfl ?_
      refine q_iadd (v1849.toInt + 0) rfl (by omega) (fun v1850 hv1850 => ?_)
      obtain ⟨v1851, hv1851⟩ : ∃ v, eA g0 233 (6 * x1813.toInt + 46) = v := ⟨_, rfl⟩
      have wv1851 := HI.l0 hI0 (j := (6 * x1813.toInt + 46)) (x1813.toInt) (by omega) (by omega)
      rw [hv1851] at wv1851
      refine q_iald (Sh.arr hI1815.1 ka_233) (6 * x1813.toInt + 46) (by omega) (by omega) v1851 ((eA_c (hF1816.2.1 233 (by decide))).trans hv1851) ?_
      refine q_ireti ?_
      refine At.enter rfl ?_
      refine q_iaddO (fun v1852 _ => ?_)
      refine r_istore _ rfl ?_
      refine Ar.fall 50 rfl ?_
      refine At.enter rfl ?_
      refine q_iinc (w_p1 (by decide) (Or.inr rfl) (w_p1 (by decide) (Or.inr rfl) e1825)) (x1813.toInt + 1) rfl (by omega) (fun v1853 hv1853 => ?_)
      refine r_goto ?_
      have bv1854 := q_bnd v1847
      have bv1855 := q_bnd v1852
      exact ih1819 (8 - v1853.toInt) _ _ ⟨v1847, v1852, v1853, by first | rfl | omega, hI1815, hF1816, (w_p1 (by decide) (Or.inr rfl) (w_p1 (by decide) (Or.inr rfl) (w_p1 (by decide) (Or.inr rfl) e1820))), (w_p1 (by decide) (Or.inr rfl) (w_p1 (by decide) (Or.inr rfl) (w_p1 (by decide) (Or.inr rfl) e1821))), (w_p1 (by decide) (Or.inr rfl) (w_p1 (by decide) (Or.inr rfl) (w_p1 (by decide) (Or.inr rfl) e1822))), (w_p1 (by decide) (Or.inr rfl) (w_p1 (by decide) (Or.inr rfl) (w_e1 _ _ _))), (w_p1 (by decide) (Or.inr rfl) (w_e1 _ _ _)), (w_e1 _ _ _), by omega⟩ ⟨by omega, by omega⟩

def F_X11_bring_231 : List (Nat × Nat) := []
def A_X11_bring_231 : List Nat := [250, 253]
set_option maxRecDepth 100000 in
set_option maxHeartbeats 4000000 in
theorem T_X11_bring_231 (d : Nat) {N : Nat} {g0 : List en_E} (hI0 : HI g0) (a1 : Int32) (h_a1 : 0 ≤ a1.toInt ∧ a1.toInt ≤ 99) : Ev (d + 3) 227 [.ref 231, .int a1] (g0, N) (fun w h' => ∃ g', h' = (g', N) ∧ HI g' ∧ Fr F_X11_bring_231 A_X11_bring_231 g0 g' ∧ w = none) := by
  have hF0 : Fr F_X11_bring_231 A_X11_bring_231 g0 g0 := Fr.rf
  refine Ev.mk rfl rfl ⟨Nat.le_of_ble_eq_true rfl, Or.inr (q_rc hI0.1 kx_231 rfl)⟩ ?_
  show At _ none _ _ (0, [(0, .ref 231), (1, .int a1)], [], (_, _)) _
  refine At.enter rfl ?_
  refine r_iconst 0 rfl ?_
  refine r_istore_n ([(2, .int 0), (0, .ref 231), (1, .int a1)]) rfl ?_
  refine Ar.fall 2 rfl ?_
  have z_19438 : (0 : Int32).toInt = 0 := rfl
  refine w_loopI (fun n_ l_ g_ => ∃ x19427 : Int32, n_ = 100 - x19427.toInt ∧ HI g_ ∧ Fr F_X11_bring_231 A_X11_bring_231 g0 g_ ∧ en_get 0 l_ = some (.ref 231) ∧ en_get 1 l_ = some (.int a1) ∧ en_get 2 l_ = some (.int x19427) ∧ (0 ≤ x19427.toInt ∧ x19427.toInt ≤ 100)) ?_ (100 - 0) ⟨0, by first | rfl | omega, hI0, hF0, rfl, rfl, rfl, by decide⟩
  rintro n19432 l19431 g19428 ⟨x19427, hm19439, hI19429, hF19430, e19434, e19435, e19436, r19437⟩ ih19433
  refine At.enter rfl ?_
  refine r_iload_n e19436 ?_
  refine r_iload_n e19435 ?_
  have bv19441 := q_bnd x19427
  have bv19442 := q_bnd a1
  refine r_ics 7 rfl (fun c19440 => ?_) (fun c19440 => ?_)
  · have c19440_ : x19427.toInt > a1.toInt := en_i_gt_t c19440
    refine At.enter rfl ?_
    refine r_vret ?_
    exact ⟨_, rfl, hI19429, hF19430, rfl⟩
  · have c19440_ : x19427.toInt ≤ a1.toInt := en_i_gt_f c19440
    refine At.enter rfl ?_
    refine r_iconst 0 rfl ?_
    refine r_istore_n _ rfl ?_
    refine Ar.fall 9 rfl ?_
    have z_19826 : (0 : Int32).toInt = 0 := rfl
    refine w_loopI (fun n_ l_ g_ => ∃ x19814 : Int32, n_ = 8 - x19814.toInt ∧ HI g_ ∧ Fr F_X11_bring_231 A_X11_bring_231 g0 g_ ∧ en_get 0 l_ = some (.ref 231) ∧ en_get 1 l_ = some (.int a1) ∧ en_get 2 l_ = some (.int x19427) ∧ en_get 3 l_ = some (.int x19814) ∧ (0 ≤ x19814.toInt ∧ x19814.toInt ≤ 8)) ?_ (8 - 0) ⟨0, by first | rfl | omega, hI19429, hF19430, (w_p1 (by decide) (Or.inr rfl) e19434), (w_p1 (by decide) (Or.inr rfl) e19435), (w_p1 (by decide) (Or.inr rfl) e19436), (w_e1 _ _ _), by decide⟩
    rintro n19819 l19818 g19815 ⟨x19814, hm19827, hI19816, hF19817, e19821, e19822, e19823, e19824, r19825⟩ ih19820
    refine At.enter rfl ?_
    refine r_iload_n e19824 ?_
    refine r_aload_n e19821 ?_
    refine q_getR (Sh.ref hI19816.1 kx_231 rfl) ?_
    refine r_iconst 1 rfl ?_
    obtain ⟨v19828, hv19828⟩ : ∃ v, eA g0 233 1 = v := ⟨_, rfl⟩
    have tv19828 := congrArg Int32.toInt hv19828
    have wv19828 := HI.t1 hI0
    rw [hv19828] at wv19828
    refine q_iald (Sh.arr hI19816.1 ka_233) 1 rfl (by decide) v19828 ((eA_c (hF19817.2.1 233 (by decide))).trans hv19828) ?_
    have bv19830 := q_bnd x19814
    have bv19831 := q_bnd v19828
    refine r_ics 19 rfl (fun c19829 => ?_) (fun c19829 => ?_)
    · have c19829_ : x19814.toInt ≥ v19828.toInt := en_i_ge_t c19829
      refine At.enter rfl ?_
      refine q_iinc e19823 (x19427.toInt + 1) rfl (by omega) (fun v19832 hv19832 => ?_)
      refine r_goto ?_
      exact ih19433 (100 - v19832.toInt) _ _ ⟨v19832, by first | rfl | omega, hI19816, hF19817, (w_p1 (by decide) (Or.inr rfl) e19821), (w_p1 (by decide) (Or.inr rfl) e19822), (w_e1 _ _ _), by omega⟩ ⟨by omega, by omega⟩
    · have c19829_ : x19814.toInt < v19828.toInt := en_i_ge_f c19829
      refine At.enter rfl ?_
      refine r_aload_n e19821 ?_
      refine q_getR (Sh.ref hI19816.1 kx_231 rfl) ?_
      refine r_iload_n e19824 ?_
      obtain ⟨v19833, hv19833⟩ : ∃ v, eA g0 248 x19814.toInt = v := ⟨_, rfl⟩
      refine q_iald (Sh.arr hI19816.1 ka_248) x19814.toInt rfl (by omega) v19833 ((eA_c (hF19817.2.1 248 (by decide))).trans hv19833) ?_
      refine r_iload_n e19823 ?_
      refine r_ics 29 rfl (fun c19834 => ?_) (fun c19834 => ?_)
      · have c19834_ : v19833.toInt ≠ x19427.toInt := en_i_ne_t c19834
        refine At.enter rfl ?_
        refine q_iinc e19824 (x19814.toInt + 1) rfl (by omega) (fun v19835 hv19835 => ?_)
        refine r_goto ?_
        exact ih19820 (8 - v19835.toInt) _ _ ⟨v19835, by first | rfl | omega, hI19816, hF19817, (w_p1 (by decide) (Or.inr rfl) e19821), (w_p1 (by decide) (Or.inr rfl) e19822), (w_p1 (by decide) (Or.inr rfl) e19823), (w_e1 _ _ _), by omega⟩ ⟨by omega, by omega⟩
      · have c19834_ : v19833.toInt = x19427.toInt := en_i_ne_f c19834
        refine At.enter rfl ?_
        refine r_aload_n e19821 ?_
        refine q_getR (Sh.ref hI19816.1 kx_231 rfl) ?_
        refine r_iload_n e19824 ?_
        obtain ⟨v19836, hv19836⟩ : ∃ v, eA g19815 250 x19814.toInt = v := ⟨_, rfl⟩
        have rv19836 := RgA.at hI19816.2.2.1 (Sh.arr hI19816.1 ka_250).2 (p := 250) rfl (j := x19814.toInt) (by omega)
        rw [hv19836] at rv19836
        dsimp only at rv19836
        refine q_iald (Sh.arr hI19816.1 ka_250) x19814.toInt rfl (by omega) v19836 hv19836 ?_
        refine r_iconst (-1) rfl ?_
        refine r_ics 39 rfl (fun c19837 => ?_) (fun c19837 => ?_)
        · have c19837_ : v19836.toInt ≠ (-1) := en_i_ne_t c19837
          refine At.enter rfl ?_
          refine q_iinc e19824 (x19814.toInt + 1) rfl (by omega) (fun v19838 hv19838 => ?_)
          refine r_goto ?_
          exact ih19820 (8 - v19838.toInt) _ _ ⟨v19838, by first | rfl | omega, hI19816, hF19817, (w_p1 (by decide) (Or.inr rfl) e19821), (w_p1 (by decide) (Or.inr rfl) e19822), (w_p1 (by decide) (Or.inr rfl) e19823), (w_e1 _ _ _), by omega⟩ ⟨by omega, by omega⟩
        · have c19837_ : v19836.toInt = (-1) := en_i_ne_f c19837
          refine At.enter rfl ?_
          refine r_aload_n e19821 ?_
          refine r_iload_n e19824 ?_
          refine q_inlV 44 rfl [.ref 231, .int x19814] [] (Nat.le_of_ble_eq_true rfl) rfl ?_
          refine Ev.mk rfl rfl ⟨Nat.le_of_ble_eq_true rfl, Or.inr (q_rc hI19816.1 kx_231 rfl)⟩ ?_
          show At _ none _ _ (0, [(0, .ref 231), (1, .int x19814)], [], (_, _)) _
          refine At.enter rfl ?_
          refine r_aload_n rfl ?_
          obtain ⟨v19839, hv19839⟩ : ∃ v, gI g0 231 36 = v := ⟨_, rfl⟩
          refine q_getI (Sh.int hI19816.1 kx_231 rfl) v19839 ((hF19817.1 231 36 (by decide)).trans hv19839) ?_
          refine r_aload_n rfl ?_
          refine r_iload_n rfl ?_
          refine r_iconst 1 rfl ?_
          refine q_inlV 10 rfl [.ref 231, .int x19814, .int 1] [.int v19839] (Nat.le_of_ble_eq_true rfl) rfl ?_
          refine Ev.mk rfl rfl ⟨Nat.le_of_ble_eq_true rfl, Or.inr (q_rc hI19816.1 kx_231 rfl)⟩ ?_
          show At _ none _ _ (0, [(0, .ref 231), (1, .int x19814), (2, .int 1)], [], (_, _)) _
          refine At.enter rfl ?_
          refine r_aload_n rfl ?_
          refine q_getR (Sh.ref hI19816.1 kx_231 rfl) ?_
          refine r_bipush 46 rfl ?_
          refine r_bipush 6 rfl ?_
          refine r_iload_n rfl ?_
          refine q_imul (6 * x19814.toInt) rfl (by omega) (fun v19840 hv19840 => ?_)
          refine q_iadd (46 + v19840.toInt) rfl (by omega) (fun v19841 hv19841 => ?_)
          refine r_iload_n rfl ?_
          refine q_iadd (v19841.toInt + 1) rfl (by omega) (fun v19842 hv19842 => ?_)
          obtain ⟨v19843, hv19843⟩ : ∃ v, eA g0 233 (6 * x19814.toInt + 47) = v := ⟨_, rfl⟩
          have wv19843 := HI.l1 hI0 (j := (6 * x19814.toInt + 47)) (x19814.toInt) (by omega) (by omega)
          rw [hv19843] at wv19843
          refine q_iald (Sh.arr hI19816.1 ka_233) (6 * x19814.toInt + 47) (by omega) (by omega) v19843 ((eA_c (hF19817.2.1 233 (by decide))).trans hv19843) ?_
          refine q_ireti ?_
          refine At.enter rfl ?_
          refine q_inlS 13 rfl [.int v19839, .int v19843] [] (Nat.le_of_ble_eq_true rfl) rfl ?_
          refine Ev.mk rfl rfl ⟨Nat.le_of_ble_eq_true rfl, Or.inl rfl⟩ ?_
          show At _ none _ _ (0, [(0, .int v19839), (1, .int v19843)], [], (_, _)) _
          refine At.enter rfl ?_
          refine r_iload_n rfl ?_
          refine r_iload_n rfl ?_
          refine q_ishrO (fun v19844 hv19844 => ?_)
          refine r_iconst 1 rfl ?_
          refine q_iandO (fun v19845 hv19845 => ?_)
          refine r_iconst 1 rfl ?_
          refine r_ics 9 rfl (fun c19846 => ?_) (fun c19846 => ?_)
          · have c19846_ : v19845.toInt ≠ 1 := en_i_ne_t c19846
            refine At.enter rfl ?_
            refine r_iconst 0 rfl ?_
            refine Ar.fall 14 rfl ?_
            refine At.enter rfl ?_
            refine q_iretz (by decide) ?_
            refine At.enter rfl ?_
            refine r_iff 16 rfl (by decide) ?_
            refine At.enter rfl ?_
            refine r_aload_n rfl ?_
            refine q_getI (Sh.int hI19816.1 kx_231 rfl) v19839 ((hF19817.1 231 36 (by decide)).trans hv19839) ?_
            refine r_aload_n rfl ?_
            refine r_iload_n rfl ?_
            refine r_iconst 2 rfl ?_
            refine q_inlV 26 rfl [.ref 231, .int x19814, .int 2] [.int v19839] (Nat.le_of_ble_eq_true rfl) rfl ?_
            refine Ev.mk rfl rfl ⟨Nat.le_of_ble_eq_true rfl, Or.inr (q_rc hI19816.1 kx_231 rfl)⟩ ?_
            show At _ none _ _ (0, [(0, .ref 231), (1, .int x19814), (2, .int 2)], [], (_, _)) _
            refine At.enter rfl ?_
            refine r_aload_n rfl ?_
            refine q_getR (Sh.ref hI19816.1 kx_231 rfl) ?_
            refine r_bipush 46 rfl ?_
            refine r_bipush 6 rfl ?_
            refine r_iload_n rfl ?_
            refine q_imul (6 * x19814.toInt) rfl (by omega) (fun v19847 hv19847 => ?_)
            refine q_iadd (46 + v19847.toInt) rfl (by omega) (fun v19848 hv19848 => ?_)
            refine r_iload_n rfl ?_
            refine q_iadd (v19848.toInt + 2) rfl (by omega) (fun v19849 hv19849 => ?_)
            obtain ⟨v19850, hv19850⟩ : ∃ v, eA g0 233 (6 * x19814.toInt + 48) = v := ⟨_, rfl⟩
            have wv19850 := HI.l2 hI0 (j := (6 * x19814.toInt + 48)) (x19814.toInt) (by omega) (by omega)
            rw [hv19850] at wv19850
            refine q_iald (Sh.arr hI19816.1 ka_233) (6 * x19814.toInt + 48) (by omega) (by omega) v19850 ((eA_c (hF19817.2.1 233 (by decide))).trans hv19850) ?_
            refine q_ireti ?_
            refine At.enter rfl ?_
            refine q_inlS 29 rfl [.int v19839, .int v19850] [] (Nat.le_of_ble_eq_true rfl) rfl ?_
            refine Ev.mk rfl rfl ⟨Nat.le_of_ble_eq_true rfl, Or.inl rfl⟩ ?_
            show At _ none _ _ (0, [(0, .int v19839), (1, .int v19850)], [], (_, _)) _
            refine At.enter rfl ?_
            refine r_iload_n rfl ?_
            refine r_iload_n rfl ?_
            refine q_ishrO (fun v19851 hv19851 => ?_)
            refine r_iconst 1 rfl ?_
            refine q_iandO (fun v19852 hv19852 => ?_)
            refine r_iconst 1 rfl ?_
            refine r_ics 9 rfl (fun c19853 => ?_) (fun c19853 => ?_)
            · have c19853_ : v19852.toInt ≠ 1 := en_i_ne_t c19853
              refine At.enter rfl ?_
              refine r_iconst 0 rfl ?_
              refine Ar.fall 14 rfl ?_
              refine At.enter rfl ?_
              refine q_iretz (by decide) ?_
              refine At.enter rfl ?_
              refine r_iff 32 rfl (by decide) ?_
              refine At.enter rfl ?_
              refine r_iconst 1 rfl ?_
              refine r_goto ?_
              refine At.enter rfl ?_
              refine q_iretz (by decide) ?_
              refine At.enter rfl ?_
              refine r_iff 47 rfl (by decide) ?_
              refine At.enter rfl ?_
              refine r_aload_n e19821 ?_
              refine r_iload_n e19824 ?_
              refine r_iconst 1 rfl ?_
              refine q_inlV 53 rfl [.ref 231, .int x19814, .int 1] [] (Nat.le_of_ble_eq_true rfl) rfl ?_
              refine Ev.mk rfl rfl ⟨Nat.le_of_ble_eq_true rfl, Or.inr (q_rc hI19816.1 kx_231 rfl)⟩ ?_
              show At _ none _ _ (0, [(0, .ref 231), (1, .int x19814), (2, .int 1)], [], (_, _)) _
              refine At.enter rfl ?_
              refine r_aload_n rfl ?_
              refine q_getR (Sh.ref hI19816.1 kx_231 rfl) ?_
              refine r_bipush 46 rfl ?_
              refine r_bipush 6 rfl ?_
              refine r_iload_n rfl ?_
              refine q_imul (6 * x19814.toInt) rfl (by omega) (fun v19854 hv19854 => ?_)
              refine q_iadd (46 + v19854.toInt) rfl (by omega) (fun v19855 hv19855 => ?_)
              refine r_iload_n rfl ?_
              refine q_iadd (v19855.toInt + 1) rfl (by omega) (fun v19856 hv19856 => ?_)
              refine q_iald (Sh.arr hI19816.1 ka_233) (6 * x19814.toInt + 47) (by omega) (by omega) v19843 ((eA_c (hF19817.2.1 233 (by decide))).trans hv19843) ?_
              refine q_ireti ?_
              refine At.enter rfl ?_
              refine r_istore _ rfl ?_
              refine r_iload (w_e1 _ _ _) ?_
              refine r_aload_n (w_p1 (by decide) (Or.inr rfl) e19821) ?_
              refine r_iload_n (w_p1 (by decide) (Or.inr rfl) e19824) ?_
              refine r_iconst 2 rfl ?_
              refine q_inlV 63 rfl [.ref 231, .int x19814, .int 2] [.int v19843] (Nat.le_of_ble_eq_true rfl) rfl ?_
              refine Ev.mk rfl rfl ⟨Nat.le_of_ble_eq_true rfl, Or.inr (q_rc hI19816.1 kx_231 rfl)⟩ ?_
              show At _ none _ _ (0, [(0, .ref 231), (1, .int x19814), (2, .int 2)], [], (_, _)) _
              refine At.enter rfl ?_
              refine r_aload_n rfl ?_
              refine q_getR (Sh.ref hI19816.1 kx_231 rfl) ?_
              refine r_bipush 46 rfl ?_
              refine r_bipush 6 rfl ?_
              refine r_iload_n rfl ?_
              refine q_imul (6 * x19814.toInt) rfl (by omega) (fun v19857 hv19857 => ?_)
              refine q_iadd (46 + v19857.toInt) rfl (by omega) (fun v19858 hv19858 => ?_)
              refine r_iload_n rfl ?_
              refine q_iadd (v19858.toInt + 2) rfl (by omega) (fun v19859 hv19859 => ?_)
              refine q_iald (Sh.arr hI19816.1 ka_233) (6 * x19814.toInt + 48) (by omega) (by omega) v19850 ((eA_c (hF19817.2.1 233 (by decide))).trans hv19850) ?_
              refine q_ireti ?_
              refine At.enter rfl ?_
              refine r_ics 66 rfl (fun c19860 => ?_) (fun c19860 => ?_)
              · have c19860_ : v19843.toInt ≠ v19850.toInt := en_i_ne_t c19860
                refine At.enter rfl ?_
                refine r_aload_n (w_p1 (by decide) (Or.inr rfl) e19821) ?_
                refine r_iload (w_e1 _ _ _) ?_
                refine r_iload_n (w_p1 (by decide) (Or.inr rfl) e19824) ?_
                refine r_callV 91 rfl [.ref 231, .int v19843, .int x19814] [] (Nat.le_of_ble_eq_true rfl) rfl (T_X11_canHold_231 _ hI19816 v19843 (by omega) x19814 (by omega)) ?_
                rintro _ _ ⟨g19861, rfl, hI19862, hF19863, v19864, rfl, hr19865⟩
                refine At.sti ?_
                have hF19866 := Fr.tr hF19817 hF19863 rfl rfl
                refine At.enter rfl ?_
                refine r_ifs 94 rfl (fun c19867 => ?_) (fun c19867 => ?_)
                · have c19867_ : v19864.toInt = 0 := en_k_eq_t c19867
                  refine At.enter rfl ?_
                  refine q_iinc (w_p1 (by decide) (Or.inr rfl) e19824) (x19814.toInt + 1) rfl (by omega) (fun v19868 hv19868 => ?_)
                  refine r_goto ?_
                  exact ih19820 (8 - v19868.toInt) _ _ ⟨v19868, by first | rfl | omega, hI19862, hF19866, (w_p1 (by decide) (Or.inr rfl) (w_p1 (by decide) (Or.inr rfl) e19821)), (w_p1 (by decide) (Or.inr rfl) (w_p1 (by decide) (Or.inr rfl) e19822)), (w_p1 (by decide) (Or.inr rfl) (w_p1 (by decide) (Or.inr rfl) e19823)), (w_e1 _ _ _), by omega⟩ ⟨by omega, by omega⟩
                · have c19867_ : v19864.toInt ≠ 0 := en_k_eq_f c19867
                  refine At.enter rfl ?_
                  refine r_aload_n (w_p1 (by decide) (Or.inr rfl) e19821) ?_
                  refine q_getR (Sh.ref hI19862.1 kx_231 rfl) ?_
                  refine r_iload_n (w_p1 (by decide) (Or.inr rfl) e19824) ?_
                  refine r_iload (w_e1 _ _ _) ?_
                  refine q_iast (Sh.arr hI19862.1 ka_250) (x19814.toInt) rfl (by omega) ?_
                  have hI19869 := HI.wA1 hI19862 ka_250 (p := 250) rfl rfl (x19814.toInt) (v := v19843) (by dsimp only; omega)
                  have hF19870 := Fr.wA (p := 250) (j := x19814.toInt) (v := v19843) hF19866 rfl
                  refine Ar.fall 102 rfl ?_
                  refine At.enter rfl ?_
                  refine q_iinc (w_p1 (by decide) (Or.inr rfl) e19824) (x19814.toInt + 1) rfl (by omega) (fun v19871 hv19871 => ?_)
                  refine r_goto ?_
                  exact ih19820 (8 - v19871.toInt) _ _ ⟨v19871, by first | rfl | omega, hI19869, hF19870, (w_p1 (by decide) (Or.inr rfl) (w_p1 (by decide) (Or.inr rfl) e19821)), (w_p1 (by decide) (Or.inr rfl) (w_p1 (by decide) (Or.inr rfl) e19822)), (w_p1 (by decide) (Or.inr rfl) (w_p1 (by decide) (Or.inr rfl) e19823)), (w_e1 _ _ _), by omega⟩ ⟨by omega, by omega⟩
              · have c19860_ : v19843.toInt = v19850.toInt := en_i_ne_f c19860
                refine At.enter rfl ?_
                refine r_aload_n (w_p1 (by decide) (Or.inr rfl) e19821) ?_
                refine q_getR (Sh.ref hI19816.1 kx_231 rfl) ?_
                refine r_iload_n (w_p1 (by decide) (Or.inr rfl) e19824) ?_
                refine r_bipush (-2) rfl ?_
                refine q_iast (Sh.arr hI19816.1 ka_250) (x19814.toInt) rfl (by omega) ?_
                have hI19872 := HI.wA1 hI19816 ka_250 (p := 250) rfl rfl (x19814.toInt) (v := (-2)) (by decide)
                have hF19873 := Fr.wA (p := 250) (j := x19814.toInt) (v := (-2)) hF19817 rfl
                refine r_aload_n (w_p1 (by decide) (Or.inr rfl) e19821) ?_
                refine q_getR (Sh.ref hI19872.1 kx_231 rfl) ?_
                refine r_iload_n (w_p1 (by decide) (Or.inr rfl) e19824) ?_
                refine r_iload_n (w_p1 (by decide) (Or.inr rfl) e19822) ?_
                refine q_iast (Sh.arr hI19872.1 ka_253) (x19814.toInt) rfl (by omega) ?_
                have hI19874 := HI.wA0 hI19872 ka_253 (p := 253) rfl rfl (x19814.toInt) (a1)
                have hF19875 := Fr.wA (p := 253) (j := x19814.toInt) (v := a1) hF19873 rfl
                refine r_goto ?_
                refine At.enter rfl ?_
                refine q_iinc (w_p1 (by decide) (Or.inr rfl) e19824) (x19814.toInt + 1) rfl (by omega) (fun v19876 hv19876 => ?_)
                refine r_goto ?_
                exact ih19820 (8 - v19876.toInt) _ _ ⟨v19876, by first | rfl | omega, hI19874, hF19875, (w_p1 (by decide) (Or.inr rfl) (w_p1 (by decide) (Or.inr rfl) e19821)), (w_p1 (by decide) (Or.inr rfl) (w_p1 (by decide) (Or.inr rfl) e19822)), (w_p1 (by decide) (Or.inr rfl) (w_p1 (by decide) (Or.inr rfl) e19823)), (w_e1 _ _ _), by omega⟩ ⟨by omega, by omega⟩
            · have c19853_ : v19852.toInt = 1 := en_i_ne_f c19853
              refine At.enter rfl ?_
              refine r_iconst 1 rfl ?_
              refine r_goto ?_
              refine At.enter rfl ?_
              refine q_iretz (by decide) ?_
              refine At.enter rfl ?_
              refine r_ift (by decide) ?_
              refine At.enter rfl ?_
              refine r_iconst 0 rfl ?_
              refine Ar.fall 37 rfl ?_
              refine At.enter rfl ?_
              refine q_iretz (by decide) ?_
              refine At.enter rfl ?_
              refine r_ift (by decide) ?_
              refine At.enter rfl ?_
              refine q_iinc e19824 (x19814.toInt + 1) rfl (by omega) (fun v19877 hv19877 => ?_)
              refine r_goto ?_
              exact ih19820 (8 - v19877.toInt) _ _ ⟨v19877, by first | rfl | omega, hI19816, hF19817, (w_p1 (by decide) (Or.inr rfl) e19821), (w_p1 (by decide) (Or.inr rfl) e19822), (w_p1 (by decide) (Or.inr rfl) e19823), (w_e1 _ _ _), by omega⟩ ⟨by omega, by omega⟩
          · have c19846_ : v19845.toInt = 1 := en_i_ne_f c19846
            refine At.enter rfl ?_
            refine r_iconst 1 rfl ?_
            refine r_goto ?_
            refine At.enter rfl ?_
            refine q_iretz (by decide) ?_
            refine At.enter rfl ?_
            refine r_ift (by decide) ?_
            refine At.enter rfl ?_
            refine r_iconst 0 rfl ?_
            refine Ar.fall 37 rfl ?_
            refine At.enter rfl ?_
            refine q_iretz (by decide) ?_
            refine At.enter rfl ?_
            refine r_ift (by decide) ?_
            refine At.enter rfl ?_
            refine q_iinc e19824 (x19814.toInt + 1) rfl (by omega) (fun v19878 hv19878 => ?_)
            refine r_goto ?_
            exact ih19820 (8 - v19878.toInt) _ _ ⟨v19878, by first | rfl | omega, hI19816, hF19817, (w_p1 (by decide) (Or.inr rfl) e19821), (w_p1 (by decide) (Or.inr rfl) e19822), (w_p1 (by decide) (Or.inr rfl) e19823), (w_e1 _ _ _), by omega⟩ ⟨by omega, by omega⟩
