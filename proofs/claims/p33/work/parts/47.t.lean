def zF_X8_at_174 : List (Nat × Nat) := []
def zA_X8_at_174 : List Nat := []
set_option maxRecDepth 100000 in
set_option maxHeartbeats 4000000 in
theorem zT_X8_at_174 (d : Nat) {N : Nat} {g0 : List en_E} (hI0 : HI g0) (a1 : Int32) : Ev (d + 1) 94 [.ref 174, .int a1] (g0, N) (fun w h' => ∃ g', h' = (g', N) ∧ HI g' ∧ Fr zF_X8_at_174 zA_X8_at_174 g0 g' ∧ ∃ r : Int32, w = some (.int r) ∧ True ∧ ((r.toInt ≠ -1 → a1.toInt < (gI g0 174 1).toInt) ∧ ATX g0 a1.toInt r.toInt)) := by
  have hF0 : Fr zF_X8_at_174 zA_X8_at_174 g0 g0 := Fr.rf
  refine Ev.mk rfl rfl ⟨Nat.le_of_ble_eq_true rfl, Or.inr (q_rc hI0.1 kx_174 rfl)⟩ ?_
  show At _ none _ _ (0, [(0, .ref 174), (1, .int a1)], [], (_, _)) _
  refine At.enter rfl ?_
  refine r_iload_n rfl ?_
  refine r_ifs 4 rfl (fun c15 => ?_) (fun c15 => ?_)
  · have c15_ : a1.toInt < 0 := en_k_lt_t c15
    refine At.enter rfl ?_
    refine r_iconst (-1) rfl ?_
    refine Ar.fall 29 rfl ?_
    refine At.enter rfl ?_
    refine r_ireti ?_
    have zv16 : ((-1) : Int32).toInt = (-1) := rfl
    obtain ⟨v17, hv17⟩ : ∃ v, gI g0 174 1 = v := ⟨_, rfl⟩
    have rv17 := RgF.at hI0.2.1 (p := 174) (b := 1) rfl
    rw [hv17] at rv17
    dsimp only at rv17
    have tv17 := congrArg Int32.toInt hv17
    have x18 := HI.eqI hI0 (p := 174) (b := 1) (hv17)
    exact ⟨_, rfl, hI0, hF0, _, rfl, trivial, ⟨by omega, ATX.mk (by omega) (by omega)⟩⟩
  · have c15_ : a1.toInt ≥ 0 := en_k_lt_f c15
    refine At.enter rfl ?_
    refine r_iload_n rfl ?_
    refine r_aload_n rfl ?_
    obtain ⟨v19, hv19⟩ : ∃ v, gI g0 174 1 = v := ⟨_, rfl⟩
    have rv19 := RgF.at hI0.2.1 (p := 174) (b := 1) rfl
    rw [hv19] at rv19
    dsimp only at rv19
    refine q_getI (Sh.int hI0.1 kx_174 rfl) v19 hv19 ?_
    have bv21 := q_bnd a1
    have bv22 := q_bnd v19
    refine r_ics 12 rfl (fun c20 => ?_) (fun c20 => ?_)
    · have c20_ : a1.toInt ≥ v19.toInt := en_i_ge_t c20
      refine At.enter rfl ?_
      refine r_iconst (-1) rfl ?_
      refine Ar.fall 29 rfl ?_
      refine At.enter rfl ?_
      refine r_ireti ?_
      have zv23 : ((-1) : Int32).toInt = (-1) := rfl
      have x24 := HI.eqI hI0 (p := 174) (b := 1) (hv19)
      exact ⟨_, rfl, hI0, hF0, _, rfl, trivial, ⟨by omega, ATX.mk (by omega) (by omega)⟩⟩
    · have c20_ : a1.toInt < v19.toInt := en_i_ge_f c20
      refine At.enter rfl ?_
      refine r_iload_n rfl ?_
      refine r_sipush 400 rfl ?_
      refine r_ics 19 rfl (fun c25 => ?_) (fun c25 => ?_)
      · have c25_ : a1.toInt ≥ 400 := en_i_ge_t c25
        exfalso; omega
      · have c25_ : a1.toInt < 400 := en_i_ge_f c25
        refine At.enter rfl ?_
        refine r_aload_n rfl ?_
        refine q_getR (Sh.ref hI0.1 kx_174 rfl) ?_
        refine r_iload_n rfl ?_
        obtain ⟨v26, hv26⟩ : ∃ v, eA g0 175 a1.toInt = v := ⟨_, rfl⟩
        refine q_iald (Sh.arr hI0.1 ka_175) a1.toInt rfl (by omega) v26 hv26 ?_
        refine r_goto ?_
        refine At.enter rfl ?_
        refine r_ireti ?_
        have x27 := HI.eqI hI0 (p := 174) (b := 1) (hv19)
        have y28 := congrArg Int32.toInt hv26
        exact ⟨_, rfl, hI0, hF0, _, rfl, trivial, ⟨by omega, ATX.mk (by omega) (by omega)⟩⟩

def zF_X5_kindOf : List (Nat × Nat) := []
def zA_X5_kindOf : List Nat := []
set_option maxRecDepth 100000 in
set_option maxHeartbeats 4000000 in
theorem zT_X5_kindOf (d : Nat) {N : Nat} {g0 : List en_E} (hI0 : HI g0) (a0 : Int32) : Ev (d + 1) 74 [.int a0] (g0, N) (fun w h' => ∃ g', h' = (g', N) ∧ HI g' ∧ Fr zF_X5_kindOf zA_X5_kindOf g0 g' ∧ ∃ r : Int32, w = some (.int r) ∧ (0 ≤ r.toInt ∧ r.toInt ≤ 3) ∧ ((r.toInt ≠ 3 → a0.toInt ≠ -1) ∧ KND a0.toInt r.toInt)) := by
  have hF0 : Fr zF_X5_kindOf zA_X5_kindOf g0 g0 := Fr.rf
  refine Ev.mk rfl rfl ⟨Nat.le_of_ble_eq_true rfl, Or.inl rfl⟩ ?_
  show At _ none _ _ (0, [(0, .int a0)], [], (_, _)) _
  refine At.enter rfl ?_
  refine r_iload_n rfl ?_
  refine r_iconst (-1) rfl ?_
  refine r_ics 5 rfl (fun c15 => ?_) (fun c15 => ?_)
  · have c15_ : a0.toInt ≠ (-1) := en_i_ne_t c15
    refine At.enter rfl ?_
    refine r_iload_n rfl ?_
    refine r_bipush 97 rfl ?_
    refine r_ics 13 rfl (fun c16 => ?_) (fun c16 => ?_)
    · have c16_ : a0.toInt < 97 := en_i_lt_t c16
      refine At.enter rfl ?_
      refine r_iload_n rfl ?_
      refine r_bipush 48 rfl ?_
      refine r_ics 29 rfl (fun c17 => ?_) (fun c17 => ?_)
      · have c17_ : a0.toInt < 48 := en_i_lt_t c17
        refine At.enter rfl ?_
        refine r_iconst 2 rfl ?_
        refine Ar.fall 40 rfl ?_
        refine At.enter rfl ?_
        refine r_ireti ?_
        have zv18 : (2 : Int32).toInt = 2 := rfl
        exact ⟨_, rfl, hI0, hF0, _, rfl, by decide, ⟨by omega, KND.mk (by omega)⟩⟩
      · have c17_ : a0.toInt ≥ 48 := en_i_lt_f c17
        refine At.enter rfl ?_
        refine r_iload_n rfl ?_
        refine r_bipush 57 rfl ?_
        refine r_ics 35 rfl (fun c19 => ?_) (fun c19 => ?_)
        · have c19_ : a0.toInt > 57 := en_i_gt_t c19
          refine At.enter rfl ?_
          refine r_iconst 2 rfl ?_
          refine Ar.fall 40 rfl ?_
          refine At.enter rfl ?_
          refine r_ireti ?_
          have zv20 : (2 : Int32).toInt = 2 := rfl
          exact ⟨_, rfl, hI0, hF0, _, rfl, by decide, ⟨by omega, KND.mk (by omega)⟩⟩
        · have c19_ : a0.toInt ≤ 57 := en_i_gt_f c19
          refine At.enter rfl ?_
          refine r_iconst 1 rfl ?_
          refine r_goto ?_
          refine At.enter rfl ?_
          refine r_ireti ?_
          have zv21 : (1 : Int32).toInt = 1 := rfl
          exact ⟨_, rfl, hI0, hF0, _, rfl, by decide, ⟨by omega, KND.mk (by omega)⟩⟩
    · have c16_ : a0.toInt ≥ 97 := en_i_lt_f c16
      refine At.enter rfl ?_
      refine r_iload_n rfl ?_
      refine r_bipush 122 rfl ?_
      refine r_ics 19 rfl (fun c22 => ?_) (fun c22 => ?_)
      · have c22_ : a0.toInt > 122 := en_i_gt_t c22
        refine At.enter rfl ?_
        refine r_iload_n rfl ?_
        refine r_bipush 48 rfl ?_
        refine r_ics 29 rfl (fun c23 => ?_) (fun c23 => ?_)
        · have c23_ : a0.toInt < 48 := en_i_lt_t c23
          exfalso; omega
        · have c23_ : a0.toInt ≥ 48 := en_i_lt_f c23
          refine At.enter rfl ?_
          refine r_iload_n rfl ?_
          refine r_bipush 57 rfl ?_
          refine r_ics 35 rfl (fun c24 => ?_) (fun c24 => ?_)
          · have c24_ : a0.toInt > 57 := en_i_gt_t c24
            refine At.enter rfl ?_
            refine r_iconst 2 rfl ?_
            refine Ar.fall 40 rfl ?_
            refine At.enter rfl ?_
            refine r_ireti ?_
            have zv25 : (2 : Int32).toInt = 2 := rfl
            exact ⟨_, rfl, hI0, hF0, _, rfl, by decide, ⟨by omega, KND.mk (by omega)⟩⟩
          · have c24_ : a0.toInt ≤ 57 := en_i_gt_f c24
            exfalso; omega
      · have c22_ : a0.toInt ≤ 122 := en_i_gt_f c22
        refine At.enter rfl ?_
        refine r_iconst 0 rfl ?_
        refine r_goto ?_
        refine At.enter rfl ?_
        refine r_ireti ?_
        have zv26 : (0 : Int32).toInt = 0 := rfl
        exact ⟨_, rfl, hI0, hF0, _, rfl, by decide, ⟨by omega, KND.mk (by omega)⟩⟩
  · have c15_ : a0.toInt = (-1) := en_i_ne_f c15
    refine At.enter rfl ?_
    refine r_iconst 3 rfl ?_
    refine r_ireti ?_
    have zv27 : (3 : Int32).toInt = 3 := rfl
    exact ⟨_, rfl, hI0, hF0, _, rfl, by decide, ⟨by omega, KND.mk (by omega)⟩⟩

def zF_X5_isSingle_176 : List (Nat × Nat) := []
def zA_X5_isSingle_176 : List Nat := []
set_option maxRecDepth 100000 in
set_option maxHeartbeats 4000000 in
theorem zT_X5_isSingle_176 (d : Nat) {N : Nat} {g0 : List en_E} (hI0 : HI g0) (a1 : Int32) (h_a1 : 0 ≤ a1.toInt ∧ a1.toInt ≤ 127) : Ev (d + 2) 75 [.ref 176, .int a1] (g0, N) (fun w h' => ∃ g', h' = (g', N) ∧ HI g' ∧ Fr zF_X5_isSingle_176 zA_X5_isSingle_176 g0 g' ∧ ∃ r : Int32, w = some (.int r) ∧ (0 ≤ r.toInt ∧ r.toInt ≤ 1) ∧ (BL (rX g0 3 = 2 ∧ rX g0 4 < nX g0 ∧ TX g0 (rX g0 4) = a1.toInt) r.toInt)) := by
  have hF0 : Fr zF_X5_isSingle_176 zA_X5_isSingle_176 g0 g0 := Fr.rf
  refine Ev.mk rfl rfl ⟨Nat.le_of_ble_eq_true rfl, Or.inr (q_rc hI0.1 kx_176 rfl)⟩ ?_
  show At _ none _ _ (0, [(0, .ref 176), (1, .int a1)], [], (_, _)) _
  refine At.enter rfl ?_
  refine r_aload_n rfl ?_
  obtain ⟨v27, hv27⟩ : ∃ v, gI g0 176 3 = v := ⟨_, rfl⟩
  refine q_getI (Sh.int hI0.1 kx_176 rfl) v27 hv27 ?_
  refine r_iconst 2 rfl ?_
  refine r_ics 8 rfl (fun c28 => ?_) (fun c28 => ?_)
  · have c28_ : v27.toInt ≠ 2 := en_i_ne_t c28
    refine At.enter rfl ?_
    refine r_iconst 0 rfl ?_
    refine Ar.fall 28 rfl ?_
    refine At.enter rfl ?_
    refine r_iretz (by decide) ?_
    have zv29 : (0 : Int32).toInt = 0 := rfl
    obtain ⟨v30, hv30⟩ : ∃ v, gI g0 176 4 = v := ⟨_, rfl⟩
    have rv30 := RgF.at hI0.2.1 (p := 176) (b := 4) rfl
    rw [hv30] at rv30
    dsimp only at rv30
    have tv30 := congrArg Int32.toInt hv30
    exact ⟨_, rfl, hI0, hF0, _, rfl, by decide, (ISX.mk (rX.e hI0 (b := 3) (hv27)) (rX.e hI0 (b := 4) (hv30)) (by omega) (by omega) (Or.inl ⟨by omega, by omega⟩))⟩
  · have c28_ : v27.toInt = 2 := en_i_ne_f c28
    refine At.enter rfl ?_
    refine r_aload_n rfl ?_
    refine q_getR (Sh.ref hI0.1 kx_176 rfl) ?_
    refine r_aload_n rfl ?_
    obtain ⟨v31, hv31⟩ : ∃ v, gI g0 176 4 = v := ⟨_, rfl⟩
    have rv31 := RgF.at hI0.2.1 (p := 176) (b := 4) rfl
    rw [hv31] at rv31
    dsimp only at rv31
    refine q_getI (Sh.int hI0.1 kx_176 rfl) v31 hv31 ?_
    refine r_callV 19 rfl [.ref 174, .int v31] [] (Nat.le_of_ble_eq_true rfl) rfl (zT_X8_at_174 _ hI0 v31) ?_
    rintro _ _ ⟨g32, rfl, hI33, hF34, v35, rfl, hr36⟩
    refine At.sti ?_
    have hF37 := Fr.tr hF0 hF34 rfl rfl
    obtain ⟨v38, hv38⟩ : ∃ v, gI g0 174 1 = v := ⟨_, rfl⟩
    have rv38 := RgF.at hI0.2.1 (p := 174) (b := 1) rfl
    rw [hv38] at rv38
    dsimp only at rv38
    have tv38 := congrArg Int32.toInt hv38
    have x39 := HI.eqI hI0 (p := 174) (b := 1) (hv38)
    have at40 : ATX g0 v31.toInt v35.toInt := hr36.2.2
    refine At.enter rfl ?_
    refine r_iload_n rfl ?_
    refine r_ics 23 rfl (fun c41 => ?_) (fun c41 => ?_)
    · have c41_ : v35.toInt ≠ a1.toInt := en_i_ne_t c41
      refine At.enter rfl ?_
      refine r_iconst 0 rfl ?_
      refine Ar.fall 28 rfl ?_
      refine At.enter rfl ?_
      refine r_iretz (by decide) ?_
      have zv42 : (0 : Int32).toInt = 0 := rfl
      exact ⟨_, rfl, hI33, hF37, _, rfl, by decide, (ISX.mk (rX.e hI0 (b := 3) (hv27)) (rX.e hI0 (b := 4) (hv31)) (by omega) (by omega) (Or.inr ⟨by omega, _, at40, by omega⟩))⟩
    · have c41_ : v35.toInt = a1.toInt := en_i_ne_f c41
      refine At.enter rfl ?_
      refine r_iconst 1 rfl ?_
      refine r_goto ?_
      refine At.enter rfl ?_
      refine r_iretz (by decide) ?_
      have zv43 : (1 : Int32).toInt = 1 := rfl
      exact ⟨_, rfl, hI33, hF37, _, rfl, by decide, (ISX.mk (rX.e hI0 (b := 3) (hv27)) (rX.e hI0 (b := 4) (hv31)) (by omega) (by omega) (Or.inr ⟨by omega, _, at40, by omega⟩))⟩

def zF_X5_step_176 : List (Nat × Nat) := [(176, 3), (176, 4), (176, 5)]
def zA_X5_step_176 : List Nat := []
set_option maxRecDepth 100000 in
set_option maxHeartbeats 4000000 in
theorem zT_X5_step_176 (d : Nat) {N : Nat} {g0 : List en_E} (hI0 : HI g0) (hB : BYX g0) (hN : rX g0 5 ≤ nX g0) : Ev (d + 2) 73 [.ref 176] (g0, N) (fun w h' => ∃ g', h' = (g', N) ∧ HI g' ∧ Fr zF_X5_step_176 zA_X5_step_176 g0 g' ∧ w = none ∧ (TKX g' ∧ SKP (TX g0) (nX g0) (rX g0 5) (rX g' 4))) := by
  have hF0 : Fr zF_X5_step_176 zA_X5_step_176 g0 g0 := Fr.rf
  refine Ev.mk rfl rfl ⟨Nat.le_of_ble_eq_true rfl, Or.inr (q_rc hI0.1 kx_176 rfl)⟩ ?_
  show At _ none _ _ (0, [(0, .ref 176)], [], (_, _)) _
  refine At.enter rfl ?_
  refine r_aload_n rfl ?_
  obtain ⟨v1500, hv1500⟩ : ∃ v, gI g0 176 5 = v := ⟨_, rfl⟩
  have rv1500 := RgF.at hI0.2.1 (p := 176) (b := 5) rfl
  rw [hv1500] at rv1500
  dsimp only at rv1500
  refine q_getI (Sh.int hI0.1 kx_176 rfl) v1500 hv1500 ?_
  refine r_istore_n ([(1, .int v1500), (0, .ref 176)]) rfl ?_
  refine Ar.fall 5 rfl ?_
  have x1871 := rX.e hI0 (b := 5) (hv1500)
  obtain ⟨v1872, hv1872⟩ : ∃ v, gI g0 174 1 = v := ⟨_, rfl⟩
  have rv1872 := RgF.at hI0.2.1 (p := 174) (b := 1) rfl
  rw [hv1872] at rv1872
  dsimp only at rv1872
  have tv1872 := congrArg Int32.toInt hv1872
  have x1873 := nX.e hI0 (hv1872)
  refine w_loopI (fun n_ l_ g_ => ∃ x1858 : Int32, n_ = 400 - x1858.toInt ∧ HI g_ ∧ Fr zF_X5_step_176 zA_X5_step_176 g0 g_ ∧ en_get 0 l_ = some (.ref 176) ∧ en_get 1 l_ = some (.int x1858) ∧ (0 ≤ x1858.toInt ∧ x1858.toInt ≤ 400) ∧ (∀ j : Int, rX g0 5 ≤ j → j < x1858.toInt → TX g0 j = 32) ∧ (rX g0 5 ≤ x1858.toInt) ∧ (x1858.toInt ≤ nX g0)) ?_ (400 - v1500.toInt) ⟨v1500, by first | rfl | omega, hI0, hF0, rfl, rfl, by omega, (fun j h0 h1 => absurd h1 (by omega)), by omega, by omega⟩
  rintro n1863 l1862 g1859 ⟨x1858, hm1874, hI1860, hF1861, e1865, e1866, r1867, q1868, q1869, q1870⟩ ih1864
  refine At.enter rfl ?_
  refine r_iload_n e1866 ?_
  refine r_aload_n e1865 ?_
  refine q_getR (Sh.ref hI1860.1 kx_176 rfl) ?_
  refine q_getI (Sh.int hI1860.1 kx_174 rfl) v1872 ((hF1861.1 174 1 (by decide)).trans hv1872) ?_
  have bv1876 := q_bnd x1858
  have bv1877 := q_bnd v1872
  refine r_ics 16 rfl (fun c1875 => ?_) (fun c1875 => ?_)
  · have c1875_ : x1858.toInt ≥ v1872.toInt := en_i_ge_t c1875
    refine At.enter rfl ?_
    refine r_aload_n e1865 ?_
    refine r_iload_n e1866 ?_
    refine q_putI (Sh.int hI1860.1 kx_176 rfl) rfl ?_
    have hI1878 := HI.wI1 hI1860 kx_176 rfl (p := 176) (b := 4) (v := x1858) rfl (by dsimp only; omega)
    have hF1879 := Fr.wI (p := 176) (b := 4) (v := x1858) hF1861 rfl
    refine r_aload_n e1865 ?_
    refine r_aload_n e1865 ?_
    refine q_getR (Sh.ref hI1878.1 kx_176 rfl) ?_
    refine r_iload_n e1866 ?_
    refine r_callV 49 rfl [.ref 174, .int x1858] [.ref 176] (Nat.le_of_ble_eq_true rfl) rfl (zT_X8_at_174 _ hI1878 x1858) ?_
    rintro _ _ ⟨g1880, rfl, hI1881, hF1882, v1883, rfl, hr1884⟩
    refine At.sti ?_
    have hF1885 := Fr.tr hF1879 hF1882 rfl rfl
    have x1886 := HI.eqI hI1878 (p := 174) (b := 1) ((((gI_sI_ne (by decide)).trans (hF1861.1 174 1 (by decide))).trans hv1872))
    have at1887 : ATX g0 x1858.toInt v1883.toInt := (hr1884.2.2).c (((gA_sI).trans (hF1861.2.1 175 (by decide)))) (((gI_sI_ne (by decide)).trans (hF1861.1 174 1 (by decide))))
    refine At.enter rfl ?_
    refine r_callS 52 rfl [.int v1883] [.ref 176] (Nat.le_of_ble_eq_true rfl) rfl (zT_X5_kindOf _ hI1881 v1883) ?_
    rintro _ _ ⟨g1888, rfl, hI1889, hF1890, v1891, rfl, hr1892⟩
    refine At.sti ?_
    have hF1893 := Fr.tr hF1885 hF1890 rfl rfl
    refine At.enter rfl ?_
    refine q_putI (Sh.int hI1889.1 kx_176 rfl) rfl ?_
    have hI1894 := HI.wI0 hI1889 kx_176 rfl (p := 176) (b := 3) (v := v1891) rfl
    have hF1895 := Fr.wI (p := 176) (b := 3) (v := v1891) hF1893 rfl
    refine r_aload_n e1865 ?_
    refine q_getI (Sh.int hI1894.1 kx_176 rfl) v1891 (gI_sI_eq hI1889.1 kx_176 rfl _) ?_
    refine r_iconst 3 rfl ?_
    refine r_ics 63 rfl (fun c1896 => ?_) (fun c1896 => ?_)
    · have c1896_ : v1891.toInt = 3 := en_i_eq_t c1896
      have x1937 := nX.e hI0 (hv1872)
      refine w_loopI (fun n_ l_ g_ => ∃ x1922 : Int32, n_ = 400 - x1922.toInt ∧ HI g_ ∧ Fr zF_X5_step_176 zA_X5_step_176 g0 g_ ∧ gI g_ 176 3 = v1891 ∧ gI g_ 176 4 = x1858 ∧ en_get 0 l_ = some (.ref 176) ∧ en_get 1 l_ = some (.int x1922) ∧ (0 ≤ x1922.toInt ∧ x1922.toInt ≤ 400) ∧ (∀ j : Int, x1858.toInt ≤ j → j < x1922.toInt → KND (TX g0 j) v1891.toInt) ∧ (RWI v1891.toInt x1858.toInt x1922.toInt) ∧ (x1922.toInt ≤ nX g0)) ?_ (400 - x1858.toInt) ⟨x1858, by first | rfl | omega, hI1894, hF1895, (gI_sI_eq hI1889.1 kx_176 rfl _), ((gI_sI_ne (by decide)).trans ((hF1890.1 176 4 (by decide)).trans ((hF1882.1 176 4 (by decide)).trans (gI_sI_eq hI1860.1 kx_176 rfl _)))), e1865, e1866, by omega, (ROWK.z at1887 hr1892.2.2 (by omega)), (RWI.z (by omega)), (by first | omega | (have z := (at1887).in_ (fun e => by have y := (hr1892.2.2).1 e; omega); omega))⟩
      rintro n1927 l1926 g1923 ⟨x1922, hm1938, hI1924, hF1925, e1929, e1930, e1931, e1932, r1933, q1934, q1935, q1936⟩ ih1928
      have tv1939 := congrArg Int32.toInt e1929
      have tv1940 := congrArg Int32.toInt e1930
      refine At.enter rfl ?_
      refine r_iload_n e1932 ?_
      refine r_aload_n e1931 ?_
      refine q_getR (Sh.ref hI1924.1 kx_176 rfl) ?_
      refine q_getI (Sh.int hI1924.1 kx_174 rfl) v1872 ((hF1925.1 174 1 (by decide)).trans hv1872) ?_
      have bv1942 := q_bnd x1922
      refine r_ics 77 rfl (fun c1941 => ?_) (fun c1941 => ?_)
      · have c1941_ : x1922.toInt ≥ v1872.toInt := en_i_ge_t c1941
        refine At.enter rfl ?_
        refine r_aload_n e1931 ?_
        refine r_iload_n e1932 ?_
        refine q_putI (Sh.int hI1924.1 kx_176 rfl) rfl ?_
        have hI1943 := HI.wI1 hI1924 kx_176 rfl (p := 176) (b := 5) (v := x1922) rfl (by dsimp only; omega)
        have hF1944 := Fr.wI (p := 176) (b := 5) (v := x1922) hF1925 rfl
        refine r_vret ?_
        have x1945 := rX.e hI0 (b := 5) (hv1500)
        have x1946 := nX.e hI0 (hv1872)
        exact ⟨_, rfl, hI1943, hF1944, rfl, (STEP.mk ((gA_sI).trans (hF1925.2.1 175 (by decide))) ((gI_sI_ne (by decide)).trans (hF1925.1 174 1 (by decide))) (rX.e hI1943 (b := 4) (((gI_sI_ne (by decide)).trans e1930))) (rX.e hI1943 (b := 3) (((gI_sI_ne (by decide)).trans e1929))) (rX.e hI1943 (b := 5) ((gI_sI_eq hI1924.1 kx_176 rfl _))) hB (by omega) (by omega) (by omega) (by omega) q1868 (fun hz => by omega) at1887 hr1892.2.2 q1935.1 q1935.2.1 (by omega) q1934 q1935.2.2 (fun hz1 hz2 => by omega))⟩
      · have c1941_ : x1922.toInt < v1872.toInt := en_i_ge_f c1941
        refine At.enter rfl ?_
        refine r_aload_n e1931 ?_
        refine q_getI (Sh.int hI1924.1 kx_176 rfl) v1891 e1929 ?_
        refine r_iconst 2 rfl ?_
        refine r_ics 85 rfl (fun c1947 => ?_) (fun c1947 => ?_)
        · have c1947_ : v1891.toInt = 2 := en_i_eq_t c1947
          exfalso; omega
        · have c1947_ : v1891.toInt ≠ 2 := en_i_eq_f c1947
          refine At.enter rfl ?_
          refine r_aload_n e1931 ?_
          refine q_getR (Sh.ref hI1924.1 kx_176 rfl) ?_
          refine r_iload_n e1932 ?_
          refine r_callV 93 rfl [.ref 174, .int x1922] [] (Nat.le_of_ble_eq_true rfl) rfl (zT_X8_at_174 _ hI1924 x1922) ?_
          rintro _ _ ⟨g1948, rfl, hI1949, hF1950, v1951, rfl, hr1952⟩
          refine At.sti ?_
          have hF1953 := Fr.tr hF1925 hF1950 rfl rfl
          have x1954 := HI.eqI hI1924 (p := 174) (b := 1) (((hF1925.1 174 1 (by decide)).trans hv1872))
          have at1955 : ATX g0 x1922.toInt v1951.toInt := (hr1952.2.2).c ((hF1925.2.1 175 (by decide))) ((hF1925.1 174 1 (by decide)))
          refine At.enter rfl ?_
          refine r_callS 96 rfl [.int v1951] [] (Nat.le_of_ble_eq_true rfl) rfl (zT_X5_kindOf _ hI1949 v1951) ?_
          rintro _ _ ⟨g1956, rfl, hI1957, hF1958, v1959, rfl, hr1960⟩
          refine At.sti ?_
          have hF1961 := Fr.tr hF1953 hF1958 rfl rfl
          refine At.enter rfl ?_
          refine r_aload_n e1931 ?_
          refine q_getI (Sh.int hI1957.1 kx_176 rfl) v1891 (((hF1958.1 176 3 (by decide)).trans (hF1950.1 176 3 (by decide))).trans e1929) ?_
          refine r_ics 103 rfl (fun c1962 => ?_) (fun c1962 => ?_)
          · have c1962_ : v1959.toInt ≠ v1891.toInt := en_i_ne_t c1962
            refine At.enter rfl ?_
            refine r_aload_n e1931 ?_
            refine r_iload_n e1932 ?_
            refine q_putI (Sh.int hI1957.1 kx_176 rfl) rfl ?_
            have hI1963 := HI.wI1 hI1957 kx_176 rfl (p := 176) (b := 5) (v := x1922) rfl (by dsimp only; omega)
            have hF1964 := Fr.wI (p := 176) (b := 5) (v := x1922) hF1961 rfl
            refine r_vret ?_
            have x1965 := rX.e hI0 (b := 5) (hv1500)
            have x1966 := nX.e hI0 (hv1872)
            exact ⟨_, rfl, hI1963, hF1964, rfl, (STEP.mk ((gA_sI).trans ((hF1958.2.1 175 (by decide)).trans ((hF1950.2.1 175 (by decide)).trans (hF1925.2.1 175 (by decide))))) ((gI_sI_ne (by decide)).trans ((hF1958.1 174 1 (by decide)).trans ((hF1950.1 174 1 (by decide)).trans (hF1925.1 174 1 (by decide))))) (rX.e hI1963 (b := 4) ((((gI_sI_ne (by decide)).trans ((hF1958.1 176 4 (by decide)).trans (hF1950.1 176 4 (by decide)))).trans e1930))) (rX.e hI1963 (b := 3) ((((gI_sI_ne (by decide)).trans ((hF1958.1 176 3 (by decide)).trans (hF1950.1 176 3 (by decide)))).trans e1929))) (rX.e hI1963 (b := 5) ((gI_sI_eq hI1957.1 kx_176 rfl _))) hB (by omega) (by omega) (by omega) (by omega) q1868 (fun hz => by omega) at1887 hr1892.2.2 q1935.1 q1935.2.1 (by omega) q1934 q1935.2.2 (fun hz1 hz2 => by first | (exfalso; omega) | exact KND.ne at1955 (by omega) hz2 hr1960.2.2 (by omega)))⟩
          · have c1962_ : v1959.toInt = v1891.toInt := en_i_ne_f c1962
            refine At.enter rfl ?_
            refine q_iinc e1932 (x1922.toInt + 1) rfl (by omega) (fun v1967 hv1967 => ?_)
            refine r_goto ?_
            exact ih1928 (400 - v1967.toInt) _ _ ⟨v1967, by first | rfl | omega, hI1957, hF1961, (((hF1958.1 176 3 (by decide)).trans (hF1950.1 176 3 (by decide))).trans e1929), (((hF1958.1 176 4 (by decide)).trans (hF1950.1 176 4 (by decide))).trans e1930), (w_p1 (by decide) (Or.inr rfl) e1931), (w_e1 _ _ _), by omega, (ROWK.st q1934 (show v1967.toInt = x1922.toInt + 1 from by omega) at1955 hr1960.2.2 (by omega) (fun z => ROWK.ne3 hB (by omega) (by omega) at1955 hr1960.2.2 (by omega))), (RWI.st q1935 (by omega) (fun z => ROWK.ne3 hB (by omega) (by omega) at1955 hr1960.2.2 (by omega)) (show v1967.toInt = x1922.toInt + 1 from by omega)), by omega⟩ ⟨by omega, by omega⟩
    · have c1896_ : v1891.toInt ≠ 3 := en_i_eq_f c1896
      refine At.enter rfl ?_
      refine q_iinc e1866 (x1858.toInt + 1) rfl (by omega) (fun v1968 hv1968 => ?_)
      refine Ar.fall 66 rfl ?_
      have x2011 := nX.e hI0 (hv1872)
      refine w_loopI (fun n_ l_ g_ => ∃ x1996 : Int32, n_ = 401 - x1996.toInt ∧ HI g_ ∧ Fr zF_X5_step_176 zA_X5_step_176 g0 g_ ∧ gI g_ 176 3 = v1891 ∧ gI g_ 176 4 = x1858 ∧ en_get 0 l_ = some (.ref 176) ∧ en_get 1 l_ = some (.int x1996) ∧ (1 ≤ x1996.toInt ∧ x1996.toInt ≤ 401) ∧ (∀ j : Int, x1858.toInt ≤ j → j < x1996.toInt → KND (TX g0 j) v1891.toInt) ∧ (RWI v1891.toInt x1858.toInt x1996.toInt) ∧ (x1996.toInt ≤ nX g0)) ?_ (401 - v1968.toInt) ⟨v1968, by first | rfl | omega, hI1894, hF1895, (gI_sI_eq hI1889.1 kx_176 rfl _), ((gI_sI_ne (by decide)).trans ((hF1890.1 176 4 (by decide)).trans ((hF1882.1 176 4 (by decide)).trans (gI_sI_eq hI1860.1 kx_176 rfl _)))), (w_p1 (by decide) (Or.inr rfl) e1865), (w_e1 _ _ _), by omega, (ROWK.z at1887 hr1892.2.2 (by omega)), (RWI.z (by omega)), (by first | omega | (have z := (at1887).in_ (fun e => by have y := (hr1892.2.2).1 e; omega); omega))⟩
      rintro n2001 l2000 g1997 ⟨x1996, hm2012, hI1998, hF1999, e2003, e2004, e2005, e2006, r2007, q2008, q2009, q2010⟩ ih2002
      have tv2013 := congrArg Int32.toInt e2003
      have tv2014 := congrArg Int32.toInt e2004
      refine At.enter rfl ?_
      refine r_iload_n e2006 ?_
      refine r_aload_n e2005 ?_
      refine q_getR (Sh.ref hI1998.1 kx_176 rfl) ?_
      refine q_getI (Sh.int hI1998.1 kx_174 rfl) v1872 ((hF1999.1 174 1 (by decide)).trans hv1872) ?_
      have bv2016 := q_bnd x1996
      refine r_ics 77 rfl (fun c2015 => ?_) (fun c2015 => ?_)
      · have c2015_ : x1996.toInt ≥ v1872.toInt := en_i_ge_t c2015
        refine At.enter rfl ?_
        refine r_aload_n e2005 ?_
        refine r_iload_n e2006 ?_
        refine q_putI (Sh.int hI1998.1 kx_176 rfl) rfl ?_
        have hI2017 := HI.wI1 hI1998 kx_176 rfl (p := 176) (b := 5) (v := x1996) rfl (by dsimp only; omega)
        have hF2018 := Fr.wI (p := 176) (b := 5) (v := x1996) hF1999 rfl
        refine r_vret ?_
        have x2019 := rX.e hI0 (b := 5) (hv1500)
        have x2020 := nX.e hI0 (hv1872)
        exact ⟨_, rfl, hI2017, hF2018, rfl, (STEP.mk ((gA_sI).trans (hF1999.2.1 175 (by decide))) ((gI_sI_ne (by decide)).trans (hF1999.1 174 1 (by decide))) (rX.e hI2017 (b := 4) (((gI_sI_ne (by decide)).trans e2004))) (rX.e hI2017 (b := 3) (((gI_sI_ne (by decide)).trans e2003))) (rX.e hI2017 (b := 5) ((gI_sI_eq hI1998.1 kx_176 rfl _))) hB (by omega) (by omega) (by omega) (by omega) q1868 (fun hz => by omega) at1887 hr1892.2.2 q2009.1 q2009.2.1 (by omega) q2008 q2009.2.2 (fun hz1 hz2 => by omega))⟩
      · have c2015_ : x1996.toInt < v1872.toInt := en_i_ge_f c2015
        refine At.enter rfl ?_
        refine r_aload_n e2005 ?_
        refine q_getI (Sh.int hI1998.1 kx_176 rfl) v1891 e2003 ?_
        refine r_iconst 2 rfl ?_
        refine r_ics 85 rfl (fun c2021 => ?_) (fun c2021 => ?_)
        · have c2021_ : v1891.toInt = 2 := en_i_eq_t c2021
          refine At.enter rfl ?_
          refine r_aload_n e2005 ?_
          refine r_iload_n e2006 ?_
          refine q_putI (Sh.int hI1998.1 kx_176 rfl) rfl ?_
          have hI2022 := HI.wI1 hI1998 kx_176 rfl (p := 176) (b := 5) (v := x1996) rfl (by dsimp only; omega)
          have hF2023 := Fr.wI (p := 176) (b := 5) (v := x1996) hF1999 rfl
          refine r_vret ?_
          have x2024 := rX.e hI0 (b := 5) (hv1500)
          have x2025 := nX.e hI0 (hv1872)
          exact ⟨_, rfl, hI2022, hF2023, rfl, (STEP.mk ((gA_sI).trans (hF1999.2.1 175 (by decide))) ((gI_sI_ne (by decide)).trans (hF1999.1 174 1 (by decide))) (rX.e hI2022 (b := 4) (((gI_sI_ne (by decide)).trans e2004))) (rX.e hI2022 (b := 3) (((gI_sI_ne (by decide)).trans e2003))) (rX.e hI2022 (b := 5) ((gI_sI_eq hI1998.1 kx_176 rfl _))) hB (by omega) (by omega) (by omega) (by omega) q1868 (fun hz => by omega) at1887 hr1892.2.2 q2009.1 q2009.2.1 (by omega) q2008 q2009.2.2 (fun hz1 hz2 => by omega))⟩
        · have c2021_ : v1891.toInt ≠ 2 := en_i_eq_f c2021
          refine At.enter rfl ?_
          refine r_aload_n e2005 ?_
          refine q_getR (Sh.ref hI1998.1 kx_176 rfl) ?_
          refine r_iload_n e2006 ?_
          refine r_callV 93 rfl [.ref 174, .int x1996] [] (Nat.le_of_ble_eq_true rfl) rfl (zT_X8_at_174 _ hI1998 x1996) ?_
          rintro _ _ ⟨g2026, rfl, hI2027, hF2028, v2029, rfl, hr2030⟩
          refine At.sti ?_
          have hF2031 := Fr.tr hF1999 hF2028 rfl rfl
          have x2032 := HI.eqI hI1998 (p := 174) (b := 1) (((hF1999.1 174 1 (by decide)).trans hv1872))
          have at2033 : ATX g0 x1996.toInt v2029.toInt := (hr2030.2.2).c ((hF1999.2.1 175 (by decide))) ((hF1999.1 174 1 (by decide)))
          refine At.enter rfl ?_
          refine r_callS 96 rfl [.int v2029] [] (Nat.le_of_ble_eq_true rfl) rfl (zT_X5_kindOf _ hI2027 v2029) ?_
          rintro _ _ ⟨g2034, rfl, hI2035, hF2036, v2037, rfl, hr2038⟩
          refine At.sti ?_
          have hF2039 := Fr.tr hF2031 hF2036 rfl rfl
          refine At.enter rfl ?_
          refine r_aload_n e2005 ?_
          refine q_getI (Sh.int hI2035.1 kx_176 rfl) v1891 (((hF2036.1 176 3 (by decide)).trans (hF2028.1 176 3 (by decide))).trans e2003) ?_
          refine r_ics 103 rfl (fun c2040 => ?_) (fun c2040 => ?_)
          · have c2040_ : v2037.toInt ≠ v1891.toInt := en_i_ne_t c2040
            refine At.enter rfl ?_
            refine r_aload_n e2005 ?_
            refine r_iload_n e2006 ?_
            refine q_putI (Sh.int hI2035.1 kx_176 rfl) rfl ?_
            have hI2041 := HI.wI1 hI2035 kx_176 rfl (p := 176) (b := 5) (v := x1996) rfl (by dsimp only; omega)
            have hF2042 := Fr.wI (p := 176) (b := 5) (v := x1996) hF2039 rfl
            refine r_vret ?_
            have x2043 := rX.e hI0 (b := 5) (hv1500)
            have x2044 := nX.e hI0 (hv1872)
            exact ⟨_, rfl, hI2041, hF2042, rfl, (STEP.mk ((gA_sI).trans ((hF2036.2.1 175 (by decide)).trans ((hF2028.2.1 175 (by decide)).trans (hF1999.2.1 175 (by decide))))) ((gI_sI_ne (by decide)).trans ((hF2036.1 174 1 (by decide)).trans ((hF2028.1 174 1 (by decide)).trans (hF1999.1 174 1 (by decide))))) (rX.e hI2041 (b := 4) ((((gI_sI_ne (by decide)).trans ((hF2036.1 176 4 (by decide)).trans (hF2028.1 176 4 (by decide)))).trans e2004))) (rX.e hI2041 (b := 3) ((((gI_sI_ne (by decide)).trans ((hF2036.1 176 3 (by decide)).trans (hF2028.1 176 3 (by decide)))).trans e2003))) (rX.e hI2041 (b := 5) ((gI_sI_eq hI2035.1 kx_176 rfl _))) hB (by omega) (by omega) (by omega) (by omega) q1868 (fun hz => by omega) at1887 hr1892.2.2 q2009.1 q2009.2.1 (by omega) q2008 q2009.2.2 (fun hz1 hz2 => by first | (exfalso; omega) | exact KND.ne at2033 (by omega) hz2 hr2038.2.2 (by omega)))⟩
          · have c2040_ : v2037.toInt = v1891.toInt := en_i_ne_f c2040
            refine At.enter rfl ?_
            refine q_iinc e2006 (x1996.toInt + 1) rfl (by omega) (fun v2045 hv2045 => ?_)
            refine r_goto ?_
            exact ih2002 (401 - v2045.toInt) _ _ ⟨v2045, by first | rfl | omega, hI2035, hF2039, (((hF2036.1 176 3 (by decide)).trans (hF2028.1 176 3 (by decide))).trans e2003), (((hF2036.1 176 4 (by decide)).trans (hF2028.1 176 4 (by decide))).trans e2004), (w_p1 (by decide) (Or.inr rfl) e2005), (w_e1 _ _ _), by omega, (ROWK.st q2008 (show v2045.toInt = x1996.toInt + 1 from by omega) at2033 hr2038.2.2 (by omega) (fun z => ROWK.ne3 hB (by omega) (by omega) at2033 hr2038.2.2 (by omega))), (RWI.st q2009 (by omega) (fun z => ROWK.ne3 hB (by omega) (by omega) at2033 hr2038.2.2 (by omega)) (show v2045.toInt = x1996.toInt + 1 from by omega)), by omega⟩ ⟨by omega, by omega⟩
  · have c1875_ : x1858.toInt < v1872.toInt := en_i_ge_f c1875
    refine At.enter rfl ?_
    refine r_aload_n e1865 ?_
    refine q_getR (Sh.ref hI1860.1 kx_176 rfl) ?_
    refine r_iload_n e1866 ?_
    refine r_callV 24 rfl [.ref 174, .int x1858] [] (Nat.le_of_ble_eq_true rfl) rfl (zT_X8_at_174 _ hI1860 x1858) ?_
    rintro _ _ ⟨g2046, rfl, hI2047, hF2048, v2049, rfl, hr2050⟩
    refine At.sti ?_
    have hF2051 := Fr.tr hF1861 hF2048 rfl rfl
    have x2052 := HI.eqI hI1860 (p := 174) (b := 1) (((hF1861.1 174 1 (by decide)).trans hv1872))
    have at2053 : ATX g0 x1858.toInt v2049.toInt := (hr2050.2.2).c ((hF1861.2.1 175 (by decide))) ((hF1861.1 174 1 (by decide)))
    refine At.enter rfl ?_
    refine r_bipush 32 rfl ?_
    refine r_ics 29 rfl (fun c2054 => ?_) (fun c2054 => ?_)
    · have c2054_ : v2049.toInt ≠ 32 := en_i_ne_t c2054
      refine At.enter rfl ?_
      refine r_aload_n e1865 ?_
      refine r_iload_n e1866 ?_
      refine q_putI (Sh.int hI2047.1 kx_176 rfl) rfl ?_
      have hI2055 := HI.wI1 hI2047 kx_176 rfl (p := 176) (b := 4) (v := x1858) rfl (by dsimp only; omega)
      have hF2056 := Fr.wI (p := 176) (b := 4) (v := x1858) hF2051 rfl
      refine r_aload_n e1865 ?_
      refine r_aload_n e1865 ?_
      refine q_getR (Sh.ref hI2055.1 kx_176 rfl) ?_
      refine r_iload_n e1866 ?_
      refine r_callV 49 rfl [.ref 174, .int x1858] [.ref 176] (Nat.le_of_ble_eq_true rfl) rfl (zT_X8_at_174 _ hI2055 x1858) ?_
      rintro _ _ ⟨g2057, rfl, hI2058, hF2059, v2060, rfl, hr2061⟩
      refine At.sti ?_
      have hF2062 := Fr.tr hF2056 hF2059 rfl rfl
      have x2063 := HI.eqI hI2055 (p := 174) (b := 1) ((((gI_sI_ne (by decide)).trans ((hF2048.1 174 1 (by decide)).trans (hF1861.1 174 1 (by decide)))).trans hv1872))
      have at2064 : ATX g0 x1858.toInt v2060.toInt := (hr2061.2.2).c (((gA_sI).trans ((hF2048.2.1 175 (by decide)).trans (hF1861.2.1 175 (by decide))))) (((gI_sI_ne (by decide)).trans ((hF2048.1 174 1 (by decide)).trans (hF1861.1 174 1 (by decide)))))
      refine At.enter rfl ?_
      refine r_callS 52 rfl [.int v2060] [.ref 176] (Nat.le_of_ble_eq_true rfl) rfl (zT_X5_kindOf _ hI2058 v2060) ?_
      rintro _ _ ⟨g2065, rfl, hI2066, hF2067, v2068, rfl, hr2069⟩
      refine At.sti ?_
      have hF2070 := Fr.tr hF2062 hF2067 rfl rfl
      refine At.enter rfl ?_
      refine q_putI (Sh.int hI2066.1 kx_176 rfl) rfl ?_
      have hI2071 := HI.wI0 hI2066 kx_176 rfl (p := 176) (b := 3) (v := v2068) rfl
      have hF2072 := Fr.wI (p := 176) (b := 3) (v := v2068) hF2070 rfl
      refine r_aload_n e1865 ?_
      refine q_getI (Sh.int hI2071.1 kx_176 rfl) v2068 (gI_sI_eq hI2066.1 kx_176 rfl _) ?_
      refine r_iconst 3 rfl ?_
      refine r_ics 63 rfl (fun c2073 => ?_) (fun c2073 => ?_)
      · have c2073_ : v2068.toInt = 3 := en_i_eq_t c2073
        have x2139 := nX.e hI0 (hv1872)
        refine w_loopI (fun n_ l_ g_ => ∃ x2124 : Int32, n_ = 400 - x2124.toInt ∧ HI g_ ∧ Fr zF_X5_step_176 zA_X5_step_176 g0 g_ ∧ gI g_ 176 3 = v2068 ∧ gI g_ 176 4 = x1858 ∧ en_get 0 l_ = some (.ref 176) ∧ en_get 1 l_ = some (.int x2124) ∧ (0 ≤ x2124.toInt ∧ x2124.toInt ≤ 400) ∧ (∀ j : Int, x1858.toInt ≤ j → j < x2124.toInt → KND (TX g0 j) v2068.toInt) ∧ (RWI v2068.toInt x1858.toInt x2124.toInt) ∧ (x2124.toInt ≤ nX g0)) ?_ (400 - x1858.toInt) ⟨x1858, by first | rfl | omega, hI2071, hF2072, (gI_sI_eq hI2066.1 kx_176 rfl _), ((gI_sI_ne (by decide)).trans ((hF2067.1 176 4 (by decide)).trans ((hF2059.1 176 4 (by decide)).trans (gI_sI_eq hI2047.1 kx_176 rfl _)))), e1865, e1866, by omega, (ROWK.z at2064 hr2069.2.2 (by omega)), (RWI.z (by omega)), (by first | omega | (have z := (at2064).in_ (fun e => by have y := (hr2069.2.2).1 e; omega); omega))⟩
        rintro n2129 l2128 g2125 ⟨x2124, hm2140, hI2126, hF2127, e2131, e2132, e2133, e2134, r2135, q2136, q2137, q2138⟩ ih2130
        have tv2141 := congrArg Int32.toInt e2131
        have tv2142 := congrArg Int32.toInt e2132
        refine At.enter rfl ?_
        refine r_iload_n e2134 ?_
        refine r_aload_n e2133 ?_
        refine q_getR (Sh.ref hI2126.1 kx_176 rfl) ?_
        refine q_getI (Sh.int hI2126.1 kx_174 rfl) v1872 ((hF2127.1 174 1 (by decide)).trans hv1872) ?_
        have bv2144 := q_bnd x2124
        refine r_ics 77 rfl (fun c2143 => ?_) (fun c2143 => ?_)
        · have c2143_ : x2124.toInt ≥ v1872.toInt := en_i_ge_t c2143
          refine At.enter rfl ?_
          refine r_aload_n e2133 ?_
          refine r_iload_n e2134 ?_
          refine q_putI (Sh.int hI2126.1 kx_176 rfl) rfl ?_
          have hI2145 := HI.wI1 hI2126 kx_176 rfl (p := 176) (b := 5) (v := x2124) rfl (by dsimp only; omega)
          have hF2146 := Fr.wI (p := 176) (b := 5) (v := x2124) hF2127 rfl
          refine r_vret ?_
          have x2147 := rX.e hI0 (b := 5) (hv1500)
          have x2148 := nX.e hI0 (hv1872)
          exact ⟨_, rfl, hI2145, hF2146, rfl, (STEP.mk ((gA_sI).trans (hF2127.2.1 175 (by decide))) ((gI_sI_ne (by decide)).trans (hF2127.1 174 1 (by decide))) (rX.e hI2145 (b := 4) (((gI_sI_ne (by decide)).trans e2132))) (rX.e hI2145 (b := 3) (((gI_sI_ne (by decide)).trans e2131))) (rX.e hI2145 (b := 5) ((gI_sI_eq hI2126.1 kx_176 rfl _))) hB (by omega) (by omega) (by omega) (by omega) q1868 (fun hz => by first | (exfalso; omega) | (have y := (at2053).1 (by omega) hz; omega)) at2064 hr2069.2.2 q2137.1 q2137.2.1 (by omega) q2136 q2137.2.2 (fun hz1 hz2 => by omega))⟩
        · have c2143_ : x2124.toInt < v1872.toInt := en_i_ge_f c2143
          refine At.enter rfl ?_
          refine r_aload_n e2133 ?_
          refine q_getI (Sh.int hI2126.1 kx_176 rfl) v2068 e2131 ?_
          refine r_iconst 2 rfl ?_
          refine r_ics 85 rfl (fun c2149 => ?_) (fun c2149 => ?_)
          · have c2149_ : v2068.toInt = 2 := en_i_eq_t c2149
            exfalso; omega
          · have c2149_ : v2068.toInt ≠ 2 := en_i_eq_f c2149
            refine At.enter rfl ?_
            refine r_aload_n e2133 ?_
            refine q_getR (Sh.ref hI2126.1 kx_176 rfl) ?_
            refine r_iload_n e2134 ?_
            refine r_callV 93 rfl [.ref 174, .int x2124] [] (Nat.le_of_ble_eq_true rfl) rfl (zT_X8_at_174 _ hI2126 x2124) ?_
            rintro _ _ ⟨g2150, rfl, hI2151, hF2152, v2153, rfl, hr2154⟩
            refine At.sti ?_
            have hF2155 := Fr.tr hF2127 hF2152 rfl rfl
            have x2156 := HI.eqI hI2126 (p := 174) (b := 1) (((hF2127.1 174 1 (by decide)).trans hv1872))
            have at2157 : ATX g0 x2124.toInt v2153.toInt := (hr2154.2.2).c ((hF2127.2.1 175 (by decide))) ((hF2127.1 174 1 (by decide)))
            refine At.enter rfl ?_
            refine r_callS 96 rfl [.int v2153] [] (Nat.le_of_ble_eq_true rfl) rfl (zT_X5_kindOf _ hI2151 v2153) ?_
            rintro _ _ ⟨g2158, rfl, hI2159, hF2160, v2161, rfl, hr2162⟩
            refine At.sti ?_
            have hF2163 := Fr.tr hF2155 hF2160 rfl rfl
            refine At.enter rfl ?_
            refine r_aload_n e2133 ?_
            refine q_getI (Sh.int hI2159.1 kx_176 rfl) v2068 (((hF2160.1 176 3 (by decide)).trans (hF2152.1 176 3 (by decide))).trans e2131) ?_
            refine r_ics 103 rfl (fun c2164 => ?_) (fun c2164 => ?_)
            · have c2164_ : v2161.toInt ≠ v2068.toInt := en_i_ne_t c2164
              refine At.enter rfl ?_
              refine r_aload_n e2133 ?_
              refine r_iload_n e2134 ?_
              refine q_putI (Sh.int hI2159.1 kx_176 rfl) rfl ?_
              have hI2165 := HI.wI1 hI2159 kx_176 rfl (p := 176) (b := 5) (v := x2124) rfl (by dsimp only; omega)
              have hF2166 := Fr.wI (p := 176) (b := 5) (v := x2124) hF2163 rfl
              refine r_vret ?_
              have x2167 := rX.e hI0 (b := 5) (hv1500)
              have x2168 := nX.e hI0 (hv1872)
              exact ⟨_, rfl, hI2165, hF2166, rfl, (STEP.mk ((gA_sI).trans ((hF2160.2.1 175 (by decide)).trans ((hF2152.2.1 175 (by decide)).trans (hF2127.2.1 175 (by decide))))) ((gI_sI_ne (by decide)).trans ((hF2160.1 174 1 (by decide)).trans ((hF2152.1 174 1 (by decide)).trans (hF2127.1 174 1 (by decide))))) (rX.e hI2165 (b := 4) ((((gI_sI_ne (by decide)).trans ((hF2160.1 176 4 (by decide)).trans (hF2152.1 176 4 (by decide)))).trans e2132))) (rX.e hI2165 (b := 3) ((((gI_sI_ne (by decide)).trans ((hF2160.1 176 3 (by decide)).trans (hF2152.1 176 3 (by decide)))).trans e2131))) (rX.e hI2165 (b := 5) ((gI_sI_eq hI2159.1 kx_176 rfl _))) hB (by omega) (by omega) (by omega) (by omega) q1868 (fun hz => by first | (exfalso; omega) | (have y := (at2053).1 (by omega) hz; omega)) at2064 hr2069.2.2 q2137.1 q2137.2.1 (by omega) q2136 q2137.2.2 (fun hz1 hz2 => by first | (exfalso; omega) | exact KND.ne at2157 (by omega) hz2 hr2162.2.2 (by omega)))⟩
            · have c2164_ : v2161.toInt = v2068.toInt := en_i_ne_f c2164
              refine At.enter rfl ?_
              refine q_iinc e2134 (x2124.toInt + 1) rfl (by omega) (fun v2169 hv2169 => ?_)
              refine r_goto ?_
              exact ih2130 (400 - v2169.toInt) _ _ ⟨v2169, by first | rfl | omega, hI2159, hF2163, (((hF2160.1 176 3 (by decide)).trans (hF2152.1 176 3 (by decide))).trans e2131), (((hF2160.1 176 4 (by decide)).trans (hF2152.1 176 4 (by decide))).trans e2132), (w_p1 (by decide) (Or.inr rfl) e2133), (w_e1 _ _ _), by omega, (ROWK.st q2136 (show v2169.toInt = x2124.toInt + 1 from by omega) at2157 hr2162.2.2 (by omega) (fun z => ROWK.ne3 hB (by omega) (by omega) at2157 hr2162.2.2 (by omega))), (RWI.st q2137 (by omega) (fun z => ROWK.ne3 hB (by omega) (by omega) at2157 hr2162.2.2 (by omega)) (show v2169.toInt = x2124.toInt + 1 from by omega)), by omega⟩ ⟨by omega, by omega⟩
      · have c2073_ : v2068.toInt ≠ 3 := en_i_eq_f c2073
        refine At.enter rfl ?_
        refine q_iinc e1866 (x1858.toInt + 1) rfl (by omega) (fun v2170 hv2170 => ?_)
        refine Ar.fall 66 rfl ?_
        have x2213 := nX.e hI0 (hv1872)
        refine w_loopI (fun n_ l_ g_ => ∃ x2198 : Int32, n_ = 400 - x2198.toInt ∧ HI g_ ∧ Fr zF_X5_step_176 zA_X5_step_176 g0 g_ ∧ gI g_ 176 3 = v2068 ∧ gI g_ 176 4 = x1858 ∧ en_get 0 l_ = some (.ref 176) ∧ en_get 1 l_ = some (.int x2198) ∧ (1 ≤ x2198.toInt ∧ x2198.toInt ≤ 400) ∧ (∀ j : Int, x1858.toInt ≤ j → j < x2198.toInt → KND (TX g0 j) v2068.toInt) ∧ (RWI v2068.toInt x1858.toInt x2198.toInt) ∧ (x2198.toInt ≤ nX g0)) ?_ (400 - v2170.toInt) ⟨v2170, by first | rfl | omega, hI2071, hF2072, (gI_sI_eq hI2066.1 kx_176 rfl _), ((gI_sI_ne (by decide)).trans ((hF2067.1 176 4 (by decide)).trans ((hF2059.1 176 4 (by decide)).trans (gI_sI_eq hI2047.1 kx_176 rfl _)))), (w_p1 (by decide) (Or.inr rfl) e1865), (w_e1 _ _ _), by omega, (ROWK.z at2064 hr2069.2.2 (by omega)), (RWI.z (by omega)), (by first | omega | (have z := (at2064).in_ (fun e => by have y := (hr2069.2.2).1 e; omega); omega))⟩
        rintro n2203 l2202 g2199 ⟨x2198, hm2214, hI2200, hF2201, e2205, e2206, e2207, e2208, r2209, q2210, q2211, q2212⟩ ih2204
        have tv2215 := congrArg Int32.toInt e2205
        have tv2216 := congrArg Int32.toInt e2206
        refine At.enter rfl ?_
        refine r_iload_n e2208 ?_
        refine r_aload_n e2207 ?_
        refine q_getR (Sh.ref hI2200.1 kx_176 rfl) ?_
        refine q_getI (Sh.int hI2200.1 kx_174 rfl) v1872 ((hF2201.1 174 1 (by decide)).trans hv1872) ?_
        have bv2218 := q_bnd x2198
        refine r_ics 77 rfl (fun c2217 => ?_) (fun c2217 => ?_)
        · have c2217_ : x2198.toInt ≥ v1872.toInt := en_i_ge_t c2217
          refine At.enter rfl ?_
          refine r_aload_n e2207 ?_
          refine r_iload_n e2208 ?_
          refine q_putI (Sh.int hI2200.1 kx_176 rfl) rfl ?_
          have hI2219 := HI.wI1 hI2200 kx_176 rfl (p := 176) (b := 5) (v := x2198) rfl (by dsimp only; omega)
          have hF2220 := Fr.wI (p := 176) (b := 5) (v := x2198) hF2201 rfl
          refine r_vret ?_
          have x2221 := rX.e hI0 (b := 5) (hv1500)
          have x2222 := nX.e hI0 (hv1872)
          exact ⟨_, rfl, hI2219, hF2220, rfl, (STEP.mk ((gA_sI).trans (hF2201.2.1 175 (by decide))) ((gI_sI_ne (by decide)).trans (hF2201.1 174 1 (by decide))) (rX.e hI2219 (b := 4) (((gI_sI_ne (by decide)).trans e2206))) (rX.e hI2219 (b := 3) (((gI_sI_ne (by decide)).trans e2205))) (rX.e hI2219 (b := 5) ((gI_sI_eq hI2200.1 kx_176 rfl _))) hB (by omega) (by omega) (by omega) (by omega) q1868 (fun hz => by first | (exfalso; omega) | (have y := (at2053).1 (by omega) hz; omega)) at2064 hr2069.2.2 q2211.1 q2211.2.1 (by omega) q2210 q2211.2.2 (fun hz1 hz2 => by omega))⟩
        · have c2217_ : x2198.toInt < v1872.toInt := en_i_ge_f c2217
          refine At.enter rfl ?_
          refine r_aload_n e2207 ?_
          refine q_getI (Sh.int hI2200.1 kx_176 rfl) v2068 e2205 ?_
          refine r_iconst 2 rfl ?_
          refine r_ics 85 rfl (fun c2223 => ?_) (fun c2223 => ?_)
          · have c2223_ : v2068.toInt = 2 := en_i_eq_t c2223
            refine At.enter rfl ?_
            refine r_aload_n e2207 ?_
            refine r_iload_n e2208 ?_
            refine q_putI (Sh.int hI2200.1 kx_176 rfl) rfl ?_
            have hI2224 := HI.wI1 hI2200 kx_176 rfl (p := 176) (b := 5) (v := x2198) rfl (by dsimp only; omega)
            have hF2225 := Fr.wI (p := 176) (b := 5) (v := x2198) hF2201 rfl
            refine r_vret ?_
            have x2226 := rX.e hI0 (b := 5) (hv1500)
            have x2227 := nX.e hI0 (hv1872)
            exact ⟨_, rfl, hI2224, hF2225, rfl, (STEP.mk ((gA_sI).trans (hF2201.2.1 175 (by decide))) ((gI_sI_ne (by decide)).trans (hF2201.1 174 1 (by decide))) (rX.e hI2224 (b := 4) (((gI_sI_ne (by decide)).trans e2206))) (rX.e hI2224 (b := 3) (((gI_sI_ne (by decide)).trans e2205))) (rX.e hI2224 (b := 5) ((gI_sI_eq hI2200.1 kx_176 rfl _))) hB (by omega) (by omega) (by omega) (by omega) q1868 (fun hz => by first | (exfalso; omega) | (have y := (at2053).1 (by omega) hz; omega)) at2064 hr2069.2.2 q2211.1 q2211.2.1 (by omega) q2210 q2211.2.2 (fun hz1 hz2 => by omega))⟩
          · have c2223_ : v2068.toInt ≠ 2 := en_i_eq_f c2223
            refine At.enter rfl ?_
            refine r_aload_n e2207 ?_
            refine q_getR (Sh.ref hI2200.1 kx_176 rfl) ?_
            refine r_iload_n e2208 ?_
            refine r_callV 93 rfl [.ref 174, .int x2198] [] (Nat.le_of_ble_eq_true rfl) rfl (zT_X8_at_174 _ hI2200 x2198) ?_
            rintro _ _ ⟨g2228, rfl, hI2229, hF2230, v2231, rfl, hr2232⟩
            refine At.sti ?_
            have hF2233 := Fr.tr hF2201 hF2230 rfl rfl
            have x2234 := HI.eqI hI2200 (p := 174) (b := 1) (((hF2201.1 174 1 (by decide)).trans hv1872))
            have at2235 : ATX g0 x2198.toInt v2231.toInt := (hr2232.2.2).c ((hF2201.2.1 175 (by decide))) ((hF2201.1 174 1 (by decide)))
            refine At.enter rfl ?_
            refine r_callS 96 rfl [.int v2231] [] (Nat.le_of_ble_eq_true rfl) rfl (zT_X5_kindOf _ hI2229 v2231) ?_
            rintro _ _ ⟨g2236, rfl, hI2237, hF2238, v2239, rfl, hr2240⟩
            refine At.sti ?_
            have hF2241 := Fr.tr hF2233 hF2238 rfl rfl
            refine At.enter rfl ?_
            refine r_aload_n e2207 ?_
            refine q_getI (Sh.int hI2237.1 kx_176 rfl) v2068 (((hF2238.1 176 3 (by decide)).trans (hF2230.1 176 3 (by decide))).trans e2205) ?_
            refine r_ics 103 rfl (fun c2242 => ?_) (fun c2242 => ?_)
            · have c2242_ : v2239.toInt ≠ v2068.toInt := en_i_ne_t c2242
              refine At.enter rfl ?_
              refine r_aload_n e2207 ?_
              refine r_iload_n e2208 ?_
              refine q_putI (Sh.int hI2237.1 kx_176 rfl) rfl ?_
              have hI2243 := HI.wI1 hI2237 kx_176 rfl (p := 176) (b := 5) (v := x2198) rfl (by dsimp only; omega)
              have hF2244 := Fr.wI (p := 176) (b := 5) (v := x2198) hF2241 rfl
              refine r_vret ?_
              have x2245 := rX.e hI0 (b := 5) (hv1500)
              have x2246 := nX.e hI0 (hv1872)
              exact ⟨_, rfl, hI2243, hF2244, rfl, (STEP.mk ((gA_sI).trans ((hF2238.2.1 175 (by decide)).trans ((hF2230.2.1 175 (by decide)).trans (hF2201.2.1 175 (by decide))))) ((gI_sI_ne (by decide)).trans ((hF2238.1 174 1 (by decide)).trans ((hF2230.1 174 1 (by decide)).trans (hF2201.1 174 1 (by decide))))) (rX.e hI2243 (b := 4) ((((gI_sI_ne (by decide)).trans ((hF2238.1 176 4 (by decide)).trans (hF2230.1 176 4 (by decide)))).trans e2206))) (rX.e hI2243 (b := 3) ((((gI_sI_ne (by decide)).trans ((hF2238.1 176 3 (by decide)).trans (hF2230.1 176 3 (by decide)))).trans e2205))) (rX.e hI2243 (b := 5) ((gI_sI_eq hI2237.1 kx_176 rfl _))) hB (by omega) (by omega) (by omega) (by omega) q1868 (fun hz => by first | (exfalso; omega) | (have y := (at2053).1 (by omega) hz; omega)) at2064 hr2069.2.2 q2211.1 q2211.2.1 (by omega) q2210 q2211.2.2 (fun hz1 hz2 => by first | (exfalso; omega) | exact KND.ne at2235 (by omega) hz2 hr2240.2.2 (by omega)))⟩
            · have c2242_ : v2239.toInt = v2068.toInt := en_i_ne_f c2242
              refine At.enter rfl ?_
              refine q_iinc e2208 (x2198.toInt + 1) rfl (by omega) (fun v2247 hv2247 => ?_)
              refine r_goto ?_
              exact ih2204 (400 - v2247.toInt) _ _ ⟨v2247, by first | rfl | omega, hI2237, hF2241, (((hF2238.1 176 3 (by decide)).trans (hF2230.1 176 3 (by decide))).trans e2205), (((hF2238.1 176 4 (by decide)).trans (hF2230.1 176 4 (by decide))).trans e2206), (w_p1 (by decide) (Or.inr rfl) e2207), (w_e1 _ _ _), by omega, (ROWK.st q2210 (show v2247.toInt = x2198.toInt + 1 from by omega) at2235 hr2240.2.2 (by omega) (fun z => ROWK.ne3 hB (by omega) (by omega) at2235 hr2240.2.2 (by omega))), (RWI.st q2211 (by omega) (fun z => ROWK.ne3 hB (by omega) (by omega) at2235 hr2240.2.2 (by omega)) (show v2247.toInt = x2198.toInt + 1 from by omega)), by omega⟩ ⟨by omega, by omega⟩
    · have c2054_ : v2049.toInt = 32 := en_i_ne_f c2054
      refine At.enter rfl ?_
      refine q_iinc e1866 (x1858.toInt + 1) rfl (by omega) (fun v2248 hv2248 => ?_)
      refine r_goto ?_
      exact ih1864 (400 - v2248.toInt) _ _ ⟨v2248, by first | rfl | omega, hI2047, hF2051, (w_p1 (by decide) (Or.inr rfl) e1865), (w_e1 _ _ _), by omega, (BLK.st q1868 (show v2248.toInt = x1858.toInt + 1 from by omega) at2053 (by omega)), by omega, by omega⟩ ⟨by omega, by omega⟩

def zF_X5_numberHere_176 : List (Nat × Nat) := []
def zA_X5_numberHere_176 : List Nat := []
set_option maxRecDepth 100000 in
set_option maxHeartbeats 4000000 in
theorem zT_X5_numberHere_176 (d : Nat) {N : Nat} {g0 : List en_E} (hI0 : HI g0) (hT : TKX g0) : Ev (d + 2) 77 [.ref 176] (g0, N) (fun w h' => ∃ g', h' = (g', N) ∧ HI g' ∧ Fr zF_X5_numberHere_176 zA_X5_numberHere_176 g0 g' ∧ ∃ r : Int32, w = some (.int r) ∧ True ∧ (NHX g0 r.toInt)) := by
  have hF0 : Fr zF_X5_numberHere_176 zA_X5_numberHere_176 g0 g0 := Fr.rf
  refine Ev.mk rfl rfl ⟨Nat.le_of_ble_eq_true rfl, Or.inr (q_rc hI0.1 kx_176 rfl)⟩ ?_
  show At _ none _ _ (0, [(0, .ref 176)], [], (_, _)) _
  refine At.enter rfl ?_
  refine r_iconst 0 rfl ?_
  refine r_istore_n ([(1, .int 0), (0, .ref 176)]) rfl ?_
  refine r_aload_n rfl ?_
  obtain ⟨v178, hv178⟩ : ∃ v, gI g0 176 4 = v := ⟨_, rfl⟩
  have rv178 := RgF.at hI0.2.1 (p := 176) (b := 4) rfl
  rw [hv178] at rv178
  dsimp only at rv178
  refine q_getI (Sh.int hI0.1 kx_176 rfl) v178 hv178 ?_
  refine r_istore_n ([(2, .int v178), (1, .int 0), (0, .ref 176)]) rfl ?_
  refine Ar.fall 7 rfl ?_
  have z_240 : (0 : Int32).toInt = 0 := rfl
  have x241 := rX.e hI0 (b := 4) (hv178)
  obtain ⟨v242, hv242⟩ : ∃ v, gI g0 176 5 = v := ⟨_, rfl⟩
  have rv242 := RgF.at hI0.2.1 (p := 176) (b := 5) rfl
  rw [hv242] at rv242
  dsimp only at rv242
  have tv242 := congrArg Int32.toInt hv242
  have x243 := rX.e hI0 (b := 5) (hv242)
  have y244 := hT.2.1.le.1
  refine w_loopI (fun n_ l_ g_ => ∃ x225 : Int32, ∃ x226 : Int32, n_ = 400 - x226.toInt ∧ HI g_ ∧ Fr zF_X5_numberHere_176 zA_X5_numberHere_176 g0 g_ ∧ en_get 0 l_ = some (.ref 176) ∧ en_get 1 l_ = some (.int x225) ∧ en_get 2 l_ = some (.int x226) ∧ (0 ≤ x226.toInt ∧ x226.toInt ≤ 400) ∧ (NHI g0 x225.toInt x226.toInt) ∧ (rX g0 4 ≤ x226.toInt) ∧ (x226.toInt ≤ rX g0 5)) ?_ (400 - v178.toInt) ⟨0, v178, by first | rfl | omega, hI0, hF0, rfl, rfl, rfl, by omega, (NHI.z (by first | rfl | omega) (by omega)), by omega, by omega⟩
  rintro n231 l230 g227 ⟨x225, x226, hm245, hI228, hF229, e233, e234, e235, r236, q237, q238, q239⟩ ih232
  have x246 := rX.e hI0 (b := 4) (hv178)
  have x247 := rX.e hI0 (b := 5) (hv242)
  refine At.enter rfl ?_
  refine r_iload_n e235 ?_
  refine r_aload_n e233 ?_
  refine q_getI (Sh.int hI228.1 kx_176 rfl) v242 ((hF229.1 176 5 (by decide)).trans hv242) ?_
  have bv249 := q_bnd x226
  have bv250 := q_bnd v242
  refine r_ics 15 rfl (fun c248 => ?_) (fun c248 => ?_)
  · have c248_ : x226.toInt ≥ v242.toInt := en_i_ge_t c248
    refine At.enter rfl ?_
    refine r_iload_n e234 ?_
    refine r_ireti ?_
    have x251 := rX.e hI0 (b := 4) (hv178)
    have x252 := rX.e hI0 (b := 5) (hv242)
    exact ⟨_, rfl, hI228, hF229, _, rfl, trivial, (NHX.mk hT q237 (by omega) (by omega))⟩
  · have c248_ : x226.toInt < v242.toInt := en_i_ge_f c248
    refine At.enter rfl ?_
    refine r_iload_n e234 ?_
    refine r_sipush 1000 rfl ?_
    refine r_ics 22 rfl (fun c253 => ?_) (fun c253 => ?_)
    · have c253_ : x225.toInt > 1000 := en_i_gt_t c253
      refine At.enter rfl ?_
      refine r_iload_n e234 ?_
      refine r_ireti ?_
      have x254 := rX.e hI0 (b := 4) (hv178)
      have x255 := rX.e hI0 (b := 5) (hv242)
      exact ⟨_, rfl, hI228, hF229, _, rfl, trivial, (NHX.mk hT q237 (by omega) (by omega))⟩
    · have c253_ : x225.toInt ≤ 1000 := en_i_gt_f c253
      refine At.enter rfl ?_
      refine r_iload_n e234 ?_
      refine r_bipush 10 rfl ?_
      refine q_imulO (fun v256 ov256 => ?_)
      refine r_aload_n e233 ?_
      refine q_getR (Sh.ref hI228.1 kx_176 rfl) ?_
      refine r_iload_n e235 ?_
      refine r_callV 34 rfl [.ref 174, .int x226] [.int v256] (Nat.le_of_ble_eq_true rfl) rfl (zT_X8_at_174 _ hI228 x226) ?_
      rintro _ _ ⟨g257, rfl, hI258, hF259, v260, rfl, hr261⟩
      refine At.sti ?_
      have hF262 := Fr.tr hF229 hF259 rfl rfl
      obtain ⟨v263, hv263⟩ : ∃ v, gI g0 174 1 = v := ⟨_, rfl⟩
      have rv263 := RgF.at hI0.2.1 (p := 174) (b := 1) rfl
      rw [hv263] at rv263
      dsimp only at rv263
      have tv263 := congrArg Int32.toInt hv263
      have x264 := HI.eqI hI228 (p := 174) (b := 1) (((hF229.1 174 1 (by decide)).trans hv263))
      have at265 : ATX g0 x226.toInt v260.toInt := (hr261.2.2).c ((hF229.2.1 175 (by decide))) ((hF229.1 174 1 (by decide)))
      refine At.enter rfl ?_
      refine q_iaddO (fun v266 ov266 => ?_)
      refine r_bipush 48 rfl ?_
      refine q_isubO (fun v267 ov267 => ?_)
      refine r_istore_n _ rfl ?_
      refine q_iinc (w_p1 (by decide) (Or.inr rfl) e235) (x226.toInt + 1) rfl (by omega) (fun v268 hv268 => ?_)
      refine r_goto ?_
      have bv269 := q_bnd v267
      exact ih232 (400 - v268.toInt) _ _ ⟨v267, v268, by first | rfl | omega, hI258, hF262, (w_p1 (by decide) (Or.inr rfl) (w_p1 (by decide) (Or.inr rfl) e233)), (w_p1 (by decide) (Or.inr rfl) (w_e1 _ _ _)), (w_e1 _ _ _), by omega, (NHI.st hT q237 (by omega) ⟨by omega, by omega⟩ (show v268.toInt = x226.toInt + 1 from by omega) at265 (by rfl) (by rfl) ov256 ov266 ov267), by omega, by omega⟩ ⟨by omega, by omega⟩

def zF_X4_add_177 : List (Nat × Nat) := [(177, 0)]
def zA_X4_add_177 : List Nat := [178, 179]
set_option maxRecDepth 100000 in
set_option maxHeartbeats 4000000 in
theorem zT_X4_add_177 (d : Nat) {N : Nat} {g0 : List en_E} (hI0 : HI g0) (a1 : Int32) (a2 : Int32) : Ev (d + 1) 60 [.ref 177, .int a1, .int a2] (g0, N) (fun w h' => ∃ g', h' = (g', N) ∧ HI g' ∧ Fr zF_X4_add_177 zA_X4_add_177 g0 g' ∧ ∃ r : Int32, w = some (.int r) ∧ ((-1) ≤ r.toInt ∧ r.toInt ≤ 399)) := by
  have hF0 : Fr zF_X4_add_177 zA_X4_add_177 g0 g0 := Fr.rf
  refine Ev.mk rfl rfl ⟨Nat.le_of_ble_eq_true rfl, Or.inr (q_rc hI0.1 kx_177 rfl)⟩ ?_
  show At _ none _ _ (0, [(0, .ref 177), (1, .int a1), (2, .int a2)], [], (_, _)) _
  refine At.enter rfl ?_
  refine r_aload_n rfl ?_
  obtain ⟨v21, hv21⟩ : ∃ v, gI g0 177 0 = v := ⟨_, rfl⟩
  have rv21 := RgF.at hI0.2.1 (p := 177) (b := 0) rfl
  rw [hv21] at rv21
  dsimp only at rv21
  refine q_getI (Sh.int hI0.1 kx_177 rfl) v21 hv21 ?_
  refine r_sipush 400 rfl ?_
  refine r_ics 10 rfl (fun c22 => ?_) (fun c22 => ?_)
  · have c22_ : v21.toInt < 400 := en_i_lt_t c22
    refine At.enter rfl ?_
    refine r_aload_n rfl ?_
    refine q_getR (Sh.ref hI0.1 kx_177 rfl) ?_
    refine r_aload_n rfl ?_
    refine q_getI (Sh.int hI0.1 kx_177 rfl) v21 hv21 ?_
    refine r_iload_n rfl ?_
    refine q_iast (Sh.arr hI0.1 ka_178) (v21.toInt) rfl (by omega) ?_
    have hI23 := HI.wA0 hI0 ka_178 (p := 178) rfl rfl (v21.toInt) (a1)
    have hF24 := Fr.wA (p := 178) (j := v21.toInt) (v := a1) hF0 rfl
    refine r_aload_n rfl ?_
    refine q_getR (Sh.ref hI23.1 kx_177 rfl) ?_
    refine r_aload_n rfl ?_
    refine q_getI (Sh.int hI23.1 kx_177 rfl) v21 ((gI_sW).trans hv21) ?_
    refine r_iload_n rfl ?_
    refine q_iast (Sh.arr hI23.1 ka_179) (v21.toInt) rfl (by omega) ?_
    have hI25 := HI.wA0 hI23 ka_179 (p := 179) rfl rfl (v21.toInt) (a2)
    have hF26 := Fr.wA (p := 179) (j := v21.toInt) (v := a2) hF24 rfl
    refine r_aload_n rfl ?_
    refine r_dup rfl ?_
    refine q_getI (Sh.int hI25.1 kx_177 rfl) v21 (((gI_sW).trans (gI_sW)).trans hv21) ?_
    refine r_iconst 1 rfl ?_
    refine q_iadd (v21.toInt + 1) rfl (by omega) (fun v27 hv27 => ?_)
    refine q_putI (Sh.int hI25.1 kx_177 rfl) rfl ?_
    have hI28 := HI.wI1 hI25 kx_177 rfl (p := 177) (b := 0) (v := v27) rfl (by dsimp only; omega)
    have hF29 := Fr.wI (p := 177) (b := 0) (v := v27) hF26 rfl
    refine r_aload_n rfl ?_
    refine q_getI (Sh.int hI28.1 kx_177 rfl) v27 (gI_sI_eq hI25.1 kx_177 rfl _) ?_
    refine r_iconst 1 rfl ?_
    refine q_isub (v27.toInt - 1) rfl (by omega) (fun v30 hv30 => ?_)
    refine r_ireti ?_
    exact ⟨_, rfl, hI28, hF29, _, rfl, by omega⟩
  · have c22_ : v21.toInt ≥ 400 := en_i_lt_f c22
    refine At.enter rfl ?_
    refine r_iconst (-1) rfl ?_
    refine r_ireti ?_
    exact ⟨_, rfl, hI0, hF0, _, rfl, by decide⟩

def zF_X4_aimAtEnd_177 : List (Nat × Nat) := []
def zA_X4_aimAtEnd_177 : List Nat := [179]
set_option maxRecDepth 100000 in
set_option maxHeartbeats 4000000 in
theorem zT_X4_aimAtEnd_177 (d : Nat) {N : Nat} {g0 : List en_E} (hI0 : HI g0) (a1 : Int32) : Ev (d + 1) 61 [.ref 177, .int a1] (g0, N) (fun w h' => ∃ g', h' = (g', N) ∧ HI g' ∧ Fr zF_X4_aimAtEnd_177 zA_X4_aimAtEnd_177 g0 g' ∧ w = none) := by
  have hF0 : Fr zF_X4_aimAtEnd_177 zA_X4_aimAtEnd_177 g0 g0 := Fr.rf
  refine Ev.mk rfl rfl ⟨Nat.le_of_ble_eq_true rfl, Or.inr (q_rc hI0.1 kx_177 rfl)⟩ ?_
  show At _ none _ _ (0, [(0, .ref 177), (1, .int a1)], [], (_, _)) _
  refine At.enter rfl ?_
  refine r_iload_n rfl ?_
  refine r_ifs 4 rfl (fun c15 => ?_) (fun c15 => ?_)
  · have c15_ : a1.toInt < 0 := en_k_lt_t c15
    refine At.enter rfl ?_
    refine r_vret ?_
    exact ⟨_, rfl, hI0, hF0, rfl⟩
  · have c15_ : a1.toInt ≥ 0 := en_k_lt_f c15
    refine At.enter rfl ?_
    refine r_iload_n rfl ?_
    refine r_aload_n rfl ?_
    obtain ⟨v16, hv16⟩ : ∃ v, gI g0 177 0 = v := ⟨_, rfl⟩
    have rv16 := RgF.at hI0.2.1 (p := 177) (b := 0) rfl
    rw [hv16] at rv16
    dsimp only at rv16
    refine q_getI (Sh.int hI0.1 kx_177 rfl) v16 hv16 ?_
    have bv18 := q_bnd a1
    have bv19 := q_bnd v16
    refine r_ics 12 rfl (fun c17 => ?_) (fun c17 => ?_)
    · have c17_ : a1.toInt ≥ v16.toInt := en_i_ge_t c17
      refine At.enter rfl ?_
      refine r_vret ?_
      exact ⟨_, rfl, hI0, hF0, rfl⟩
    · have c17_ : a1.toInt < v16.toInt := en_i_ge_f c17
      refine At.enter rfl ?_
      refine r_aload_n rfl ?_
      refine q_getR (Sh.ref hI0.1 kx_177 rfl) ?_
      refine r_iload_n rfl ?_
      refine r_aload_n rfl ?_
      refine q_getI (Sh.int hI0.1 kx_177 rfl) v16 hv16 ?_
      refine q_iast (Sh.arr hI0.1 ka_179) (a1.toInt) rfl (by omega) ?_
      have hI20 := HI.wA0 hI0 ka_179 (p := 179) rfl rfl (a1.toInt) (v16)
      have hF21 := Fr.wA (p := 179) (j := a1.toInt) (v := v16) hF0 rfl
      refine Ar.fall 22 rfl ?_
      refine At.enter rfl ?_
      refine r_vret ?_
      exact ⟨_, rfl, hI20, hF21, rfl⟩

def zF_X5_isWord_176 : List (Nat × Nat) := []
def zA_X5_isWord_176 : List Nat := []
set_option maxRecDepth 100000 in
set_option maxHeartbeats 4000000 in
theorem zT_X5_isWord_176 (d : Nat) {N : Nat} {g0 : List en_E} (hI0 : HI g0) (f1 : UInt32) (h_f1 : 1 ≤ f1.toNat ∧ f1.toNat ≤ 17) (hT : TKX g0) : Ev (d + 2) 76 [.ref 176, .float f1] (g0, N) (fun w h' => ∃ g', h' = (g', N) ∧ HI g' ∧ Fr zF_X5_isWord_176 zA_X5_isWord_176 g0 g' ∧ ∃ r : Int32, w = some (.int r) ∧ (0 ≤ r.toInt ∧ r.toInt ≤ 1) ∧ (BL (rX g0 3 = 0 ∧ VAL (TX g0) (rX g0 4) (rX g0 5) = tvl f1) r.toInt)) := by
  have hF0 : Fr zF_X5_isWord_176 zA_X5_isWord_176 g0 g0 := Fr.rf
  obtain ⟨m_f1, e_f1⟩ : ∃ m : Int, ((en_tl.getD (f1.toNat - 1) 0 : Nat) : Int) = m := ⟨_, rfl⟩
  have r_f1 := st_lenf h_f1
  rw [e_f1] at r_f1
  refine Ev.mk rfl rfl ⟨Nat.le_of_ble_eq_true rfl, Or.inr (q_rc hI0.1 kx_176 rfl)⟩ ?_
  show At _ none _ _ (0, [(0, .ref 176), (1, .float f1)], [], (_, _)) _
  refine At.enter rfl ?_
  refine r_aload_n rfl ?_
  obtain ⟨v432, hv432⟩ : ∃ v, gI g0 176 3 = v := ⟨_, rfl⟩
  refine q_getI (Sh.int hI0.1 kx_176 rfl) v432 hv432 ?_
  refine r_ifs 7 rfl (fun c433 => ?_) (fun c433 => ?_)
  · have c433_ : v432.toInt ≠ 0 := en_k_ne_t c433
    refine At.enter rfl ?_
    refine r_iconst 0 rfl ?_
    refine r_iretz (by decide) ?_
    have zv434 : (0 : Int32).toInt = 0 := rfl
    have x435 := rX.e hI0 (b := 3) (hv432)
    exact ⟨_, rfl, hI0, hF0, _, rfl, by decide, (ISW.no1 (by omega) (by omega))⟩
  · have c433_ : v432.toInt = 0 := en_k_ne_f c433
    refine At.enter rfl ?_
    refine r_aload_n rfl ?_
    obtain ⟨v436, hv436⟩ : ∃ v, gI g0 176 5 = v := ⟨_, rfl⟩
    have rv436 := RgF.at hI0.2.1 (p := 176) (b := 5) rfl
    rw [hv436] at rv436
    dsimp only at rv436
    refine q_getI (Sh.int hI0.1 kx_176 rfl) v436 hv436 ?_
    refine r_aload_n rfl ?_
    obtain ⟨v437, hv437⟩ : ∃ v, gI g0 176 4 = v := ⟨_, rfl⟩
    have rv437 := RgF.at hI0.2.1 (p := 176) (b := 4) rfl
    rw [hv437] at rv437
    dsimp only at rv437
    refine q_getI (Sh.int hI0.1 kx_176 rfl) v437 hv437 ?_
    refine q_isub (v436.toInt - v437.toInt) rfl (by omega) (fun v438 hv438 => ?_)
    refine r_sload_n rfl ?_
    refine q_slen rfl (Nat.le_of_ble_eq_true rfl) h_f1 m_f1 e_f1 (fun v439 hv439 => ?_)
    refine r_ics 23 rfl (fun c440 => ?_) (fun c440 => ?_)
    · have c440_ : v438.toInt = v439.toInt := en_i_eq_t c440
      refine At.enter rfl ?_
      refine r_iconst 0 rfl ?_
      refine r_istore_n ([(2, .int 0), (0, .ref 176), (1, .float f1)]) rfl ?_
      refine Ar.fall 27 rfl ?_
      have z_622 : (0 : Int32).toInt = 0 := rfl
      have x623 := rX.e hI0 (b := 4) (hv437)
      have x624 := rX.e hI0 (b := 5) (hv436)
      refine w_loopI (fun n_ l_ g_ => ∃ x609 : Int32, n_ = 8 - x609.toInt ∧ HI g_ ∧ Fr zF_X5_isWord_176 zA_X5_isWord_176 g0 g_ ∧ en_get 0 l_ = some (.ref 176) ∧ en_get 1 l_ = some (.float f1) ∧ en_get 2 l_ = some (.int x609) ∧ (0 ≤ x609.toInt ∧ x609.toInt ≤ 8) ∧ (∀ j : Int, 0 ≤ j → j < x609.toInt → TX g0 (rX g0 4 + j) = CHF f1 j) ∧ (0 ≤ x609.toInt)) ?_ (8 - 0) ⟨0, by first | rfl | omega, hI0, hF0, rfl, rfl, rfl, by decide, (fun j h0 h1 => absurd h1 (by omega)), by omega⟩
      rintro n614 l613 g610 ⟨x609, hm625, hI611, hF612, e616, e617, e618, r619, q620, q621⟩ ih615
      have x626 := rX.e hI0 (b := 4) (hv437)
      have x627 := rX.e hI0 (b := 5) (hv436)
      refine At.enter rfl ?_
      refine r_iload_n e618 ?_
      refine r_sload_n e617 ?_
      refine q_slen rfl (Nat.le_of_ble_eq_true rfl) h_f1 m_f1 e_f1 (fun v628 hv628 => ?_)
      have bv630 := q_bnd x609
      have bv631 := q_bnd v628
      refine r_ics 35 rfl (fun c629 => ?_) (fun c629 => ?_)
      · have c629_ : x609.toInt ≥ v628.toInt := en_i_ge_t c629
        refine At.enter rfl ?_
        refine r_iconst 1 rfl ?_
        refine r_iretz (by decide) ?_
        have zv632 : (1 : Int32).toInt = 1 := rfl
        have x633 := rX.e hI0 (b := 3) (hv432)
        have x634 := rX.e hI0 (b := 4) (hv437)
        have x635 := rX.e hI0 (b := 5) (hv436)
        exact ⟨_, rfl, hI611, hF612, _, rfl, by decide, (ISW.yes e_f1 (by omega) (by omega) q620 (by omega) (by omega))⟩
      · have c629_ : x609.toInt < v628.toInt := en_i_ge_f c629
        refine At.enter rfl ?_
        refine r_aload_n e616 ?_
        refine q_getR (Sh.ref hI611.1 kx_176 rfl) ?_
        refine r_aload_n e616 ?_
        refine q_getI (Sh.int hI611.1 kx_176 rfl) v437 ((hF612.1 176 4 (by decide)).trans hv437) ?_
        refine r_iload_n e618 ?_
        refine q_iadd (v437.toInt + x609.toInt) rfl (by omega) (fun v636 hv636 => ?_)
        refine r_callV 48 rfl [.ref 174, .int v636] [] (Nat.le_of_ble_eq_true rfl) rfl (zT_X8_at_174 _ hI611 v636) ?_
        rintro _ _ ⟨g637, rfl, hI638, hF639, v640, rfl, hr641⟩
        refine At.sti ?_
        have hF642 := Fr.tr hF612 hF639 rfl rfl
        obtain ⟨v643, hv643⟩ : ∃ v, gI g0 174 1 = v := ⟨_, rfl⟩
        have rv643 := RgF.at hI0.2.1 (p := 174) (b := 1) rfl
        rw [hv643] at rv643
        dsimp only at rv643
        have tv643 := congrArg Int32.toInt hv643
        have x644 := HI.eqI hI611 (p := 174) (b := 1) (((hF612.1 174 1 (by decide)).trans hv643))
        have at645 : ATX g0 v636.toInt v640.toInt := (hr641.2.2).c ((hF612.2.1 175 (by decide))) ((hF612.1 174 1 (by decide)))
        refine At.enter rfl ?_
        refine r_sload_n e617 ?_
        refine r_iload_n e618 ?_
        refine q_scha rfl (Nat.le_of_ble_eq_true rfl) h_f1 m_f1 e_f1 (x609.toInt) rfl (by omega) (fun v646 hv646 => ?_)
        obtain ⟨hv646, gv646⟩ := hv646
        refine r_ics 56 rfl (fun c647 => ?_) (fun c647 => ?_)
        · have c647_ : v640.toInt = v646.toInt := en_i_eq_t c647
          refine At.enter rfl ?_
          refine q_iinc e618 (x609.toInt + 1) rfl (by omega) (fun v648 hv648 => ?_)
          refine r_goto ?_
          exact ih615 (8 - v648.toInt) _ _ ⟨v648, by first | rfl | omega, hI638, hF642, (w_p1 (by decide) (Or.inr rfl) e616), (w_p1 (by decide) (Or.inr rfl) e617), (w_e1 _ _ _), by omega, (ISW.st q620 (show v648.toInt = x609.toInt + 1 from by omega) (by omega) at645 (CHF.mk gv646) (by omega) (by omega)), by omega⟩ ⟨by omega, by omega⟩
        · have c647_ : v640.toInt ≠ v646.toInt := en_i_eq_f c647
          refine At.enter rfl ?_
          refine r_iconst 0 rfl ?_
          refine r_iretz (by decide) ?_
          have zv649 : (0 : Int32).toInt = 0 := rfl
          have x650 := rX.e hI0 (b := 3) (hv432)
          have x651 := rX.e hI0 (b := 4) (hv437)
          have x652 := rX.e hI0 (b := 5) (hv436)
          exact ⟨_, rfl, hI638, hF642, _, rfl, by decide, (ISW.no3 hT h_f1 e_f1 (i := x609.toInt) ⟨by omega, by omega⟩ (by omega) (by omega) at645 (CHF.mk gv646) (by omega) (by omega))⟩
    · have c440_ : v438.toInt ≠ v439.toInt := en_i_eq_f c440
      refine At.enter rfl ?_
      refine r_iconst 0 rfl ?_
      refine r_iretz (by decide) ?_
      have zv653 : (0 : Int32).toInt = 0 := rfl
      have x654 := rX.e hI0 (b := 3) (hv432)
      have x655 := rX.e hI0 (b := 4) (hv437)
      have x656 := rX.e hI0 (b := 5) (hv436)
      exact ⟨_, rfl, hI0, hF0, _, rfl, by decide, (ISW.no2 hT h_f1 e_f1 (by omega) (by omega))⟩

def zF_X5_wordHere_176 : List (Nat × Nat) := []
def zA_X5_wordHere_176 : List Nat := []
set_option maxRecDepth 100000 in
set_option maxHeartbeats 4000000 in
theorem zT_X5_wordHere_176 (d : Nat) {N : Nat} {g0 : List en_E} (hI0 : HI g0) (hT : TKX g0) : Ev (d + 3) 78 [.ref 176] (g0, N) (fun w h' => ∃ g', h' = (g', N) ∧ HI g' ∧ Fr zF_X5_wordHere_176 zA_X5_wordHere_176 g0 g' ∧ ∃ r : Int32, w = some (.int r) ∧ ((-1) ≤ r.toInt ∧ r.toInt ≤ 8) ∧ (WHX (CDX g0) r.toInt)) := by
  have hF0 : Fr zF_X5_wordHere_176 zA_X5_wordHere_176 g0 g0 := Fr.rf
  refine Ev.mk rfl rfl ⟨Nat.le_of_ble_eq_true rfl, Or.inr (q_rc hI0.1 kx_176 rfl)⟩ ?_
  show At _ none _ _ (0, [(0, .ref 176)], [], (_, _)) _
  refine At.enter rfl ?_
  refine r_iconst 0 rfl ?_
  refine r_istore_n ([(1, .int 0), (0, .ref 176)]) rfl ?_
  refine Ar.fall 2 rfl ?_
  have z_1998 : (0 : Int32).toInt = 0 := rfl
  refine w_loopI (fun n_ l_ g_ => ∃ x1987 : Int32, n_ = 9 - x1987.toInt ∧ HI g_ ∧ Fr zF_X5_wordHere_176 zA_X5_wordHere_176 g0 g_ ∧ en_get 0 l_ = some (.ref 176) ∧ en_get 1 l_ = some (.int x1987) ∧ (0 ≤ x1987.toInt ∧ x1987.toInt ≤ 9) ∧ (WHI (CDX g0) x1987.toInt)) ?_ (9 - 0) ⟨0, by first | rfl | omega, hI0, hF0, rfl, rfl, by decide, (WHI.z (by first | rfl | omega))⟩
  rintro n1992 l1991 g1988 ⟨x1987, hm1999, hI1989, hF1990, e1994, e1995, r1996, q1997⟩ ih1993
  refine At.enter rfl ?_
  refine r_iload_n e1995 ?_
  refine r_bipush 9 rfl ?_
  refine r_ics 8 rfl (fun c2000 => ?_) (fun c2000 => ?_)
  · have c2000_ : x1987.toInt ≥ 9 := en_i_ge_t c2000
    refine At.enter rfl ?_
    refine r_iconst (-1) rfl ?_
    refine r_ireti ?_
    have zv2001 : ((-1) : Int32).toInt = (-1) := rfl
    exact ⟨_, rfl, hI1989, hF1990, _, rfl, by decide, (WHX.no q1997 (by omega) (by omega))⟩
  · have c2000_ : x1987.toInt < 9 := en_i_ge_f c2000
    refine At.enter rfl ?_
    refine r_aload_n e1994 ?_
    refine r_iload_n e1995 ?_
    refine q_inlS 13 rfl [.int x1987] [.ref 176] (Nat.le_of_ble_eq_true rfl) rfl ?_
    refine Ev.mk rfl rfl ⟨Nat.le_of_ble_eq_true rfl, Or.inl rfl⟩ ?_
    show At _ none _ _ (0, [(0, .int x1987)], [], (_, _)) _
    refine At.enter rfl ?_
    refine r_iload_n rfl ?_
    by_cases c2002_0 : x1987.toInt = 0
    · refine r_tsw 52 (by rw [c2002_0]; rfl) ?_
      refine At.enter rfl ?_
      refine r_ldcS (by decide) 5 rfl ?_
      refine q_sret ?_
      refine At.enter rfl ?_
      refine r_callV 16 rfl [.ref 176, .float 5] [] (Nat.le_of_ble_eq_true rfl) rfl (zT_X5_isWord_176 _ hI1989 5 (by decide) (TKX.c hT ((hF1990.2.1 175 (by decide))) ((hF1990.1 174 1 (by decide))) ((hF1990.1 176 3 (by decide))) ((hF1990.1 176 4 (by decide))) ((hF1990.1 176 5 (by decide))))) ?_
      rintro _ _ ⟨g2003, rfl, hI2004, hF2005, v2006, rfl, hr2007⟩
      refine At.sti ?_
      have hF2008 := Fr.tr hF1990 hF2005 rfl rfl
      have hb2009 : BL (CDX g0 = 40) v2006.toInt := by have z := ISW.code (c := 40) hr2007.2 (TKX.c hT ((hF1990.2.1 175 (by decide))) ((hF1990.1 174 1 (by decide))) ((hF1990.1 176 3 (by decide))) ((hF1990.1 176 4 (by decide))) ((hF1990.1 176 5 (by decide)))) (isWC_d (by omega)) (by decide +kernel); rw [CDX.c ((hF1990.2.1 175 (by decide))) ((hF1990.1 176 3 (by decide))) ((hF1990.1 176 4 (by decide))) ((hF1990.1 176 5 (by decide)))] at z; exact z
      refine At.enter rfl ?_
      refine r_ifs 19 rfl (fun c2010 => ?_) (fun c2010 => ?_)
      · have c2010_ : v2006.toInt = 0 := en_k_eq_t c2010
        have i2011 := BL.no hb2009 (by omega)
        refine At.enter rfl ?_
        refine q_iinc e1995 (x1987.toInt + 1) rfl (by omega) (fun v2012 hv2012 => ?_)
        refine r_goto ?_
        exact ih1993 (9 - v2012.toInt) _ _ ⟨v2012, by first | rfl | omega, hI2004, hF2008, (w_p1 (by decide) (Or.inr rfl) e1994), (w_e1 _ _ _), by omega, (WHI.st q1997 (show v2012.toInt = x1987.toInt + 1 from by omega) hb2009 (by omega) (by omega))⟩ ⟨by omega, by omega⟩
      · have c2010_ : v2006.toInt ≠ 0 := en_k_eq_f c2010
        have i2013 := BL.yes hb2009 (by omega)
        refine At.enter rfl ?_
        refine r_iload_n e1995 ?_
        refine r_ireti ?_
        exact ⟨_, rfl, hI2004, hF2008, _, rfl, by omega, (WHX.yes (k := x1987.toInt) hb2009 (by omega) (by omega) ⟨by omega, by omega⟩ (by omega))⟩
    by_cases c2002_1 : x1987.toInt = 1
    · refine r_tsw 55 (by rw [c2002_1]; rfl) ?_
      refine At.enter rfl ?_
      refine r_ldcS (by decide) 6 rfl ?_
      refine q_sret ?_
      refine At.enter rfl ?_
      refine r_callV 16 rfl [.ref 176, .float 6] [] (Nat.le_of_ble_eq_true rfl) rfl (zT_X5_isWord_176 _ hI1989 6 (by decide) (TKX.c hT ((hF1990.2.1 175 (by decide))) ((hF1990.1 174 1 (by decide))) ((hF1990.1 176 3 (by decide))) ((hF1990.1 176 4 (by decide))) ((hF1990.1 176 5 (by decide))))) ?_
      rintro _ _ ⟨g2014, rfl, hI2015, hF2016, v2017, rfl, hr2018⟩
      refine At.sti ?_
      have hF2019 := Fr.tr hF1990 hF2016 rfl rfl
      have hb2020 : BL (CDX g0 = 41) v2017.toInt := by have z := ISW.code (c := 41) hr2018.2 (TKX.c hT ((hF1990.2.1 175 (by decide))) ((hF1990.1 174 1 (by decide))) ((hF1990.1 176 3 (by decide))) ((hF1990.1 176 4 (by decide))) ((hF1990.1 176 5 (by decide)))) (isWC_d (by omega)) (by decide +kernel); rw [CDX.c ((hF1990.2.1 175 (by decide))) ((hF1990.1 176 3 (by decide))) ((hF1990.1 176 4 (by decide))) ((hF1990.1 176 5 (by decide)))] at z; exact z
      refine At.enter rfl ?_
      refine r_ifs 19 rfl (fun c2021 => ?_) (fun c2021 => ?_)
      · have c2021_ : v2017.toInt = 0 := en_k_eq_t c2021
        have i2022 := BL.no hb2020 (by omega)
        refine At.enter rfl ?_
        refine q_iinc e1995 (x1987.toInt + 1) rfl (by omega) (fun v2023 hv2023 => ?_)
        refine r_goto ?_
        exact ih1993 (9 - v2023.toInt) _ _ ⟨v2023, by first | rfl | omega, hI2015, hF2019, (w_p1 (by decide) (Or.inr rfl) e1994), (w_e1 _ _ _), by omega, (WHI.st q1997 (show v2023.toInt = x1987.toInt + 1 from by omega) hb2020 (by omega) (by omega))⟩ ⟨by omega, by omega⟩
      · have c2021_ : v2017.toInt ≠ 0 := en_k_eq_f c2021
        have i2024 := BL.yes hb2020 (by omega)
        refine At.enter rfl ?_
        refine r_iload_n e1995 ?_
        refine r_ireti ?_
        exact ⟨_, rfl, hI2015, hF2019, _, rfl, by omega, (WHX.yes (k := x1987.toInt) hb2020 (by omega) (by omega) ⟨by omega, by omega⟩ (by omega))⟩
    by_cases c2002_2 : x1987.toInt = 2
    · refine r_tsw 58 (by rw [c2002_2]; rfl) ?_
      refine At.enter rfl ?_
      refine r_ldcS (by decide) 7 rfl ?_
      refine q_sret ?_
      refine At.enter rfl ?_
      refine r_callV 16 rfl [.ref 176, .float 7] [] (Nat.le_of_ble_eq_true rfl) rfl (zT_X5_isWord_176 _ hI1989 7 (by decide) (TKX.c hT ((hF1990.2.1 175 (by decide))) ((hF1990.1 174 1 (by decide))) ((hF1990.1 176 3 (by decide))) ((hF1990.1 176 4 (by decide))) ((hF1990.1 176 5 (by decide))))) ?_
      rintro _ _ ⟨g2025, rfl, hI2026, hF2027, v2028, rfl, hr2029⟩
      refine At.sti ?_
      have hF2030 := Fr.tr hF1990 hF2027 rfl rfl
      have hb2031 : BL (CDX g0 = 42) v2028.toInt := by have z := ISW.code (c := 42) hr2029.2 (TKX.c hT ((hF1990.2.1 175 (by decide))) ((hF1990.1 174 1 (by decide))) ((hF1990.1 176 3 (by decide))) ((hF1990.1 176 4 (by decide))) ((hF1990.1 176 5 (by decide)))) (isWC_d (by omega)) (by decide +kernel); rw [CDX.c ((hF1990.2.1 175 (by decide))) ((hF1990.1 176 3 (by decide))) ((hF1990.1 176 4 (by decide))) ((hF1990.1 176 5 (by decide)))] at z; exact z
      refine At.enter rfl ?_
      refine r_ifs 19 rfl (fun c2032 => ?_) (fun c2032 => ?_)
      · have c2032_ : v2028.toInt = 0 := en_k_eq_t c2032
        have i2033 := BL.no hb2031 (by omega)
        refine At.enter rfl ?_
        refine q_iinc e1995 (x1987.toInt + 1) rfl (by omega) (fun v2034 hv2034 => ?_)
        refine r_goto ?_
        exact ih1993 (9 - v2034.toInt) _ _ ⟨v2034, by first | rfl | omega, hI2026, hF2030, (w_p1 (by decide) (Or.inr rfl) e1994), (w_e1 _ _ _), by omega, (WHI.st q1997 (show v2034.toInt = x1987.toInt + 1 from by omega) hb2031 (by omega) (by omega))⟩ ⟨by omega, by omega⟩
      · have c2032_ : v2028.toInt ≠ 0 := en_k_eq_f c2032
        have i2035 := BL.yes hb2031 (by omega)
        refine At.enter rfl ?_
        refine r_iload_n e1995 ?_
        refine r_ireti ?_
        exact ⟨_, rfl, hI2026, hF2030, _, rfl, by omega, (WHX.yes (k := x1987.toInt) hb2031 (by omega) (by omega) ⟨by omega, by omega⟩ (by omega))⟩
    by_cases c2002_3 : x1987.toInt = 3
    · refine r_tsw 61 (by rw [c2002_3]; rfl) ?_
      refine At.enter rfl ?_
      refine r_ldcS (by decide) 8 rfl ?_
      refine q_sret ?_
      refine At.enter rfl ?_
      refine r_callV 16 rfl [.ref 176, .float 8] [] (Nat.le_of_ble_eq_true rfl) rfl (zT_X5_isWord_176 _ hI1989 8 (by decide) (TKX.c hT ((hF1990.2.1 175 (by decide))) ((hF1990.1 174 1 (by decide))) ((hF1990.1 176 3 (by decide))) ((hF1990.1 176 4 (by decide))) ((hF1990.1 176 5 (by decide))))) ?_
      rintro _ _ ⟨g2036, rfl, hI2037, hF2038, v2039, rfl, hr2040⟩
      refine At.sti ?_
      have hF2041 := Fr.tr hF1990 hF2038 rfl rfl
      have hb2042 : BL (CDX g0 = 43) v2039.toInt := by have z := ISW.code (c := 43) hr2040.2 (TKX.c hT ((hF1990.2.1 175 (by decide))) ((hF1990.1 174 1 (by decide))) ((hF1990.1 176 3 (by decide))) ((hF1990.1 176 4 (by decide))) ((hF1990.1 176 5 (by decide)))) (isWC_d (by omega)) (by decide +kernel); rw [CDX.c ((hF1990.2.1 175 (by decide))) ((hF1990.1 176 3 (by decide))) ((hF1990.1 176 4 (by decide))) ((hF1990.1 176 5 (by decide)))] at z; exact z
      refine At.enter rfl ?_
      refine r_ifs 19 rfl (fun c2043 => ?_) (fun c2043 => ?_)
      · have c2043_ : v2039.toInt = 0 := en_k_eq_t c2043
        have i2044 := BL.no hb2042 (by omega)
        refine At.enter rfl ?_
        refine q_iinc e1995 (x1987.toInt + 1) rfl (by omega) (fun v2045 hv2045 => ?_)
        refine r_goto ?_
        exact ih1993 (9 - v2045.toInt) _ _ ⟨v2045, by first | rfl | omega, hI2037, hF2041, (w_p1 (by decide) (Or.inr rfl) e1994), (w_e1 _ _ _), by omega, (WHI.st q1997 (show v2045.toInt = x1987.toInt + 1 from by omega) hb2042 (by omega) (by omega))⟩ ⟨by omega, by omega⟩
      · have c2043_ : v2039.toInt ≠ 0 := en_k_eq_f c2043
        have i2046 := BL.yes hb2042 (by omega)
        refine At.enter rfl ?_
        refine r_iload_n e1995 ?_
        refine r_ireti ?_
        exact ⟨_, rfl, hI2037, hF2041, _, rfl, by omega, (WHX.yes (k := x1987.toInt) hb2042 (by omega) (by omega) ⟨by omega, by omega⟩ (by omega))⟩
    by_cases c2002_4 : x1987.toInt = 4
    · refine r_tsw 64 (by rw [c2002_4]; rfl) ?_
      refine At.enter rfl ?_
      refine r_ldcS (by decide) 9 rfl ?_
      refine q_sret ?_
      refine At.enter rfl ?_
      refine r_callV 16 rfl [.ref 176, .float 9] [] (Nat.le_of_ble_eq_true rfl) rfl (zT_X5_isWord_176 _ hI1989 9 (by decide) (TKX.c hT ((hF1990.2.1 175 (by decide))) ((hF1990.1 174 1 (by decide))) ((hF1990.1 176 3 (by decide))) ((hF1990.1 176 4 (by decide))) ((hF1990.1 176 5 (by decide))))) ?_
      rintro _ _ ⟨g2047, rfl, hI2048, hF2049, v2050, rfl, hr2051⟩
      refine At.sti ?_
      have hF2052 := Fr.tr hF1990 hF2049 rfl rfl
      have hb2053 : BL (CDX g0 = 44) v2050.toInt := by have z := ISW.code (c := 44) hr2051.2 (TKX.c hT ((hF1990.2.1 175 (by decide))) ((hF1990.1 174 1 (by decide))) ((hF1990.1 176 3 (by decide))) ((hF1990.1 176 4 (by decide))) ((hF1990.1 176 5 (by decide)))) (isWC_d (by omega)) (by decide +kernel); rw [CDX.c ((hF1990.2.1 175 (by decide))) ((hF1990.1 176 3 (by decide))) ((hF1990.1 176 4 (by decide))) ((hF1990.1 176 5 (by decide)))] at z; exact z
      refine At.enter rfl ?_
      refine r_ifs 19 rfl (fun c2054 => ?_) (fun c2054 => ?_)
      · have c2054_ : v2050.toInt = 0 := en_k_eq_t c2054
        have i2055 := BL.no hb2053 (by omega)
        refine At.enter rfl ?_
        refine q_iinc e1995 (x1987.toInt + 1) rfl (by omega) (fun v2056 hv2056 => ?_)
        refine r_goto ?_
        exact ih1993 (9 - v2056.toInt) _ _ ⟨v2056, by first | rfl | omega, hI2048, hF2052, (w_p1 (by decide) (Or.inr rfl) e1994), (w_e1 _ _ _), by omega, (WHI.st q1997 (show v2056.toInt = x1987.toInt + 1 from by omega) hb2053 (by omega) (by omega))⟩ ⟨by omega, by omega⟩
      · have c2054_ : v2050.toInt ≠ 0 := en_k_eq_f c2054
        have i2057 := BL.yes hb2053 (by omega)
        refine At.enter rfl ?_
        refine r_iload_n e1995 ?_
        refine r_ireti ?_
        exact ⟨_, rfl, hI2048, hF2052, _, rfl, by omega, (WHX.yes (k := x1987.toInt) hb2053 (by omega) (by omega) ⟨by omega, by omega⟩ (by omega))⟩
    by_cases c2002_5 : x1987.toInt = 5
    · refine r_tsw 67 (by rw [c2002_5]; rfl) ?_
      refine At.enter rfl ?_
      refine r_ldcS (by decide) 10 rfl ?_
      refine q_sret ?_
      refine At.enter rfl ?_
      refine r_callV 16 rfl [.ref 176, .float 10] [] (Nat.le_of_ble_eq_true rfl) rfl (zT_X5_isWord_176 _ hI1989 10 (by decide) (TKX.c hT ((hF1990.2.1 175 (by decide))) ((hF1990.1 174 1 (by decide))) ((hF1990.1 176 3 (by decide))) ((hF1990.1 176 4 (by decide))) ((hF1990.1 176 5 (by decide))))) ?_
      rintro _ _ ⟨g2058, rfl, hI2059, hF2060, v2061, rfl, hr2062⟩
      refine At.sti ?_
      have hF2063 := Fr.tr hF1990 hF2060 rfl rfl
      have hb2064 : BL (CDX g0 = 45) v2061.toInt := by have z := ISW.code (c := 45) hr2062.2 (TKX.c hT ((hF1990.2.1 175 (by decide))) ((hF1990.1 174 1 (by decide))) ((hF1990.1 176 3 (by decide))) ((hF1990.1 176 4 (by decide))) ((hF1990.1 176 5 (by decide)))) (isWC_d (by omega)) (by decide +kernel); rw [CDX.c ((hF1990.2.1 175 (by decide))) ((hF1990.1 176 3 (by decide))) ((hF1990.1 176 4 (by decide))) ((hF1990.1 176 5 (by decide)))] at z; exact z
      refine At.enter rfl ?_
      refine r_ifs 19 rfl (fun c2065 => ?_) (fun c2065 => ?_)
      · have c2065_ : v2061.toInt = 0 := en_k_eq_t c2065
        have i2066 := BL.no hb2064 (by omega)
        refine At.enter rfl ?_
        refine q_iinc e1995 (x1987.toInt + 1) rfl (by omega) (fun v2067 hv2067 => ?_)
        refine r_goto ?_
        exact ih1993 (9 - v2067.toInt) _ _ ⟨v2067, by first | rfl | omega, hI2059, hF2063, (w_p1 (by decide) (Or.inr rfl) e1994), (w_e1 _ _ _), by omega, (WHI.st q1997 (show v2067.toInt = x1987.toInt + 1 from by omega) hb2064 (by omega) (by omega))⟩ ⟨by omega, by omega⟩
      · have c2065_ : v2061.toInt ≠ 0 := en_k_eq_f c2065
        have i2068 := BL.yes hb2064 (by omega)
        refine At.enter rfl ?_
        refine r_iload_n e1995 ?_
        refine r_ireti ?_
        exact ⟨_, rfl, hI2059, hF2063, _, rfl, by omega, (WHX.yes (k := x1987.toInt) hb2064 (by omega) (by omega) ⟨by omega, by omega⟩ (by omega))⟩
    by_cases c2002_6 : x1987.toInt = 6
    · refine r_tsw 70 (by rw [c2002_6]; rfl) ?_
      refine At.enter rfl ?_
      refine r_ldcS (by decide) 11 rfl ?_
      refine q_sret ?_
      refine At.enter rfl ?_
      refine r_callV 16 rfl [.ref 176, .float 11] [] (Nat.le_of_ble_eq_true rfl) rfl (zT_X5_isWord_176 _ hI1989 11 (by decide) (TKX.c hT ((hF1990.2.1 175 (by decide))) ((hF1990.1 174 1 (by decide))) ((hF1990.1 176 3 (by decide))) ((hF1990.1 176 4 (by decide))) ((hF1990.1 176 5 (by decide))))) ?_
      rintro _ _ ⟨g2069, rfl, hI2070, hF2071, v2072, rfl, hr2073⟩
      refine At.sti ?_
      have hF2074 := Fr.tr hF1990 hF2071 rfl rfl
      have hb2075 : BL (CDX g0 = 46) v2072.toInt := by have z := ISW.code (c := 46) hr2073.2 (TKX.c hT ((hF1990.2.1 175 (by decide))) ((hF1990.1 174 1 (by decide))) ((hF1990.1 176 3 (by decide))) ((hF1990.1 176 4 (by decide))) ((hF1990.1 176 5 (by decide)))) (isWC_d (by omega)) (by decide +kernel); rw [CDX.c ((hF1990.2.1 175 (by decide))) ((hF1990.1 176 3 (by decide))) ((hF1990.1 176 4 (by decide))) ((hF1990.1 176 5 (by decide)))] at z; exact z
      refine At.enter rfl ?_
      refine r_ifs 19 rfl (fun c2076 => ?_) (fun c2076 => ?_)
      · have c2076_ : v2072.toInt = 0 := en_k_eq_t c2076
        have i2077 := BL.no hb2075 (by omega)
        refine At.enter rfl ?_
        refine q_iinc e1995 (x1987.toInt + 1) rfl (by omega) (fun v2078 hv2078 => ?_)
        refine r_goto ?_
        exact ih1993 (9 - v2078.toInt) _ _ ⟨v2078, by first | rfl | omega, hI2070, hF2074, (w_p1 (by decide) (Or.inr rfl) e1994), (w_e1 _ _ _), by omega, (WHI.st q1997 (show v2078.toInt = x1987.toInt + 1 from by omega) hb2075 (by omega) (by omega))⟩ ⟨by omega, by omega⟩
      · have c2076_ : v2072.toInt ≠ 0 := en_k_eq_f c2076
        have i2079 := BL.yes hb2075 (by omega)
        refine At.enter rfl ?_
        refine r_iload_n e1995 ?_
        refine r_ireti ?_
        exact ⟨_, rfl, hI2070, hF2074, _, rfl, by omega, (WHX.yes (k := x1987.toInt) hb2075 (by omega) (by omega) ⟨by omega, by omega⟩ (by omega))⟩
    by_cases c2002_7 : x1987.toInt = 7
    · refine r_tsw 73 (by rw [c2002_7]; rfl) ?_
      refine At.enter rfl ?_
      refine r_ldcS (by decide) 12 rfl ?_
      refine q_sret ?_
      refine At.enter rfl ?_
      refine r_callV 16 rfl [.ref 176, .float 12] [] (Nat.le_of_ble_eq_true rfl) rfl (zT_X5_isWord_176 _ hI1989 12 (by decide) (TKX.c hT ((hF1990.2.1 175 (by decide))) ((hF1990.1 174 1 (by decide))) ((hF1990.1 176 3 (by decide))) ((hF1990.1 176 4 (by decide))) ((hF1990.1 176 5 (by decide))))) ?_
      rintro _ _ ⟨g2080, rfl, hI2081, hF2082, v2083, rfl, hr2084⟩
      refine At.sti ?_
      have hF2085 := Fr.tr hF1990 hF2082 rfl rfl
      have hb2086 : BL (CDX g0 = 47) v2083.toInt := by have z := ISW.code (c := 47) hr2084.2 (TKX.c hT ((hF1990.2.1 175 (by decide))) ((hF1990.1 174 1 (by decide))) ((hF1990.1 176 3 (by decide))) ((hF1990.1 176 4 (by decide))) ((hF1990.1 176 5 (by decide)))) (isWC_d (by omega)) (by decide +kernel); rw [CDX.c ((hF1990.2.1 175 (by decide))) ((hF1990.1 176 3 (by decide))) ((hF1990.1 176 4 (by decide))) ((hF1990.1 176 5 (by decide)))] at z; exact z
      refine At.enter rfl ?_
      refine r_ifs 19 rfl (fun c2087 => ?_) (fun c2087 => ?_)
      · have c2087_ : v2083.toInt = 0 := en_k_eq_t c2087
        have i2088 := BL.no hb2086 (by omega)
        refine At.enter rfl ?_
        refine q_iinc e1995 (x1987.toInt + 1) rfl (by omega) (fun v2089 hv2089 => ?_)
        refine r_goto ?_
        exact ih1993 (9 - v2089.toInt) _ _ ⟨v2089, by first | rfl | omega, hI2081, hF2085, (w_p1 (by decide) (Or.inr rfl) e1994), (w_e1 _ _ _), by omega, (WHI.st q1997 (show v2089.toInt = x1987.toInt + 1 from by omega) hb2086 (by omega) (by omega))⟩ ⟨by omega, by omega⟩
      · have c2087_ : v2083.toInt ≠ 0 := en_k_eq_f c2087
        have i2090 := BL.yes hb2086 (by omega)
        refine At.enter rfl ?_
        refine r_iload_n e1995 ?_
        refine r_ireti ?_
        exact ⟨_, rfl, hI2081, hF2085, _, rfl, by omega, (WHX.yes (k := x1987.toInt) hb2086 (by omega) (by omega) ⟨by omega, by omega⟩ (by omega))⟩
    by_cases c2002_8 : x1987.toInt = 8
    · refine r_tsw 76 (by rw [c2002_8]; rfl) ?_
      refine At.enter rfl ?_
      refine r_ldcS (by decide) 13 rfl ?_
      refine q_sret ?_
      refine At.enter rfl ?_
      refine r_callV 16 rfl [.ref 176, .float 13] [] (Nat.le_of_ble_eq_true rfl) rfl (zT_X5_isWord_176 _ hI1989 13 (by decide) (TKX.c hT ((hF1990.2.1 175 (by decide))) ((hF1990.1 174 1 (by decide))) ((hF1990.1 176 3 (by decide))) ((hF1990.1 176 4 (by decide))) ((hF1990.1 176 5 (by decide))))) ?_
      rintro _ _ ⟨g2091, rfl, hI2092, hF2093, v2094, rfl, hr2095⟩
      refine At.sti ?_
      have hF2096 := Fr.tr hF1990 hF2093 rfl rfl
      have hb2097 : BL (CDX g0 = 48) v2094.toInt := by have z := ISW.code (c := 48) hr2095.2 (TKX.c hT ((hF1990.2.1 175 (by decide))) ((hF1990.1 174 1 (by decide))) ((hF1990.1 176 3 (by decide))) ((hF1990.1 176 4 (by decide))) ((hF1990.1 176 5 (by decide)))) (isWC_d (by omega)) (by decide +kernel); rw [CDX.c ((hF1990.2.1 175 (by decide))) ((hF1990.1 176 3 (by decide))) ((hF1990.1 176 4 (by decide))) ((hF1990.1 176 5 (by decide)))] at z; exact z
      refine At.enter rfl ?_
      refine r_ifs 19 rfl (fun c2098 => ?_) (fun c2098 => ?_)
      · have c2098_ : v2094.toInt = 0 := en_k_eq_t c2098
        have i2099 := BL.no hb2097 (by omega)
        refine At.enter rfl ?_
        refine q_iinc e1995 (x1987.toInt + 1) rfl (by omega) (fun v2100 hv2100 => ?_)
        refine r_goto ?_
        exact ih1993 (9 - v2100.toInt) _ _ ⟨v2100, by first | rfl | omega, hI2092, hF2096, (w_p1 (by decide) (Or.inr rfl) e1994), (w_e1 _ _ _), by omega, (WHI.st q1997 (show v2100.toInt = x1987.toInt + 1 from by omega) hb2097 (by omega) (by omega))⟩ ⟨by omega, by omega⟩
      · have c2098_ : v2094.toInt ≠ 0 := en_k_eq_f c2098
        have i2101 := BL.yes hb2097 (by omega)
        refine At.enter rfl ?_
        refine r_iload_n e1995 ?_
        refine r_ireti ?_
        exact ⟨_, rfl, hI2092, hF2096, _, rfl, by omega, (WHX.yes (k := x1987.toInt) hb2097 (by omega) (by omega) ⟨by omega, by omega⟩ (by omega))⟩
    exfalso; omega

def zF_X5_joinHere_176 : List (Nat × Nat) := []
def zA_X5_joinHere_176 : List Nat := []
set_option maxRecDepth 100000 in
set_option maxHeartbeats 4000000 in
theorem zT_X5_joinHere_176 (d : Nat) {N : Nat} {g0 : List en_E} (hI0 : HI g0) (a1 : Int32) (h_a1 : 0 ≤ a1.toInt ∧ a1.toInt ≤ 3) (hT : TKX g0) : Ev (d + 3) 66 [.ref 176, .int a1] (g0, N) (fun w h' => ∃ g', h' = (g', N) ∧ HI g' ∧ Fr zF_X5_joinHere_176 zA_X5_joinHere_176 g0 g' ∧ ∃ r : Int32, w = some (.int r) ∧ ((-1) ≤ r.toInt ∧ r.toInt ≤ 11) ∧ (BLN (JN a1.toInt (CDX g0)) r.toInt)) := by
  have hF0 : Fr zF_X5_joinHere_176 zA_X5_joinHere_176 g0 g0 := Fr.rf
  refine Ev.mk rfl rfl ⟨Nat.le_of_ble_eq_true rfl, Or.inr (q_rc hI0.1 kx_176 rfl)⟩ ?_
  show At _ none _ _ (0, [(0, .ref 176), (1, .int a1)], [], (_, _)) _
  refine At.enter rfl ?_
  refine r_iload_n rfl ?_
  by_cases c133_0 : a1.toInt = 0
  · refine r_tsw 28 (by rw [c133_0]; rfl) ?_
    refine At.enter rfl ?_
    refine r_aload_n rfl ?_
    refine r_ldcS (by decide) 15 rfl ?_
    refine r_callV 34 rfl [.ref 176, .float 15] [] (Nat.le_of_ble_eq_true rfl) rfl (zT_X5_isWord_176 _ hI0 15 (by decide) hT) ?_
    rintro _ _ ⟨g134, rfl, hI135, hF136, v137, rfl, hr138⟩
    refine At.sti ?_
    have hF139 := Fr.tr hF0 hF136 rfl rfl
    have hb140 : BL (CDX g0 = 29) v137.toInt := ISW.code (c := 29) hr138.2 hT (isWC_d (by omega)) (by decide +kernel)
    refine At.enter rfl ?_
    refine r_ifs 37 rfl (fun c141 => ?_) (fun c141 => ?_)
    · have c141_ : v137.toInt = 0 := en_k_eq_t c141
      have i142 := BL.no hb140 (by omega)
      refine At.enter rfl ?_
      refine r_iconst (-1) rfl ?_
      refine Ar.fall 43 rfl ?_
      refine At.enter rfl ?_
      refine r_ireti ?_
      have zv143 : ((-1) : Int32).toInt = (-1) := rfl
      exact ⟨_, rfl, hI135, hF139, _, rfl, by decide, (JNX.r0 (by omega) (Or.inl ⟨by omega, by omega⟩))⟩
    · have c141_ : v137.toInt ≠ 0 := en_k_eq_f c141
      have i144 := BL.yes hb140 (by omega)
      refine At.enter rfl ?_
      refine r_bipush 11 rfl ?_
      refine r_goto ?_
      refine At.enter rfl ?_
      refine r_ireti ?_
      have zv145 : (11 : Int32).toInt = 11 := rfl
      exact ⟨_, rfl, hI135, hF139, _, rfl, by decide, (JNX.r0 (by omega) (Or.inr ⟨by omega, by omega⟩))⟩
  by_cases c133_1 : a1.toInt = 1
  · refine r_tsw 44 (by rw [c133_1]; rfl) ?_
    refine At.enter rfl ?_
    refine r_aload_n rfl ?_
    refine r_ldcS (by decide) 16 rfl ?_
    refine r_callV 50 rfl [.ref 176, .float 16] [] (Nat.le_of_ble_eq_true rfl) rfl (zT_X5_isWord_176 _ hI0 16 (by decide) hT) ?_
    rintro _ _ ⟨g146, rfl, hI147, hF148, v149, rfl, hr150⟩
    refine At.sti ?_
    have hF151 := Fr.tr hF0 hF148 rfl rfl
    have hb152 : BL (CDX g0 = 28) v149.toInt := ISW.code (c := 28) hr150.2 hT (isWC_d (by omega)) (by decide +kernel)
    refine At.enter rfl ?_
    refine r_ifs 53 rfl (fun c153 => ?_) (fun c153 => ?_)
    · have c153_ : v149.toInt = 0 := en_k_eq_t c153
      have i154 := BL.no hb152 (by omega)
      refine At.enter rfl ?_
      refine r_iconst (-1) rfl ?_
      refine Ar.fall 59 rfl ?_
      refine At.enter rfl ?_
      refine r_ireti ?_
      have zv155 : ((-1) : Int32).toInt = (-1) := rfl
      exact ⟨_, rfl, hI147, hF151, _, rfl, by decide, (JNX.r1 (by omega) (Or.inl ⟨by omega, by omega⟩))⟩
    · have c153_ : v149.toInt ≠ 0 := en_k_eq_f c153
      have i156 := BL.yes hb152 (by omega)
      refine At.enter rfl ?_
      refine r_bipush 10 rfl ?_
      refine r_goto ?_
      refine At.enter rfl ?_
      refine r_ireti ?_
      have zv157 : (10 : Int32).toInt = 10 := rfl
      exact ⟨_, rfl, hI147, hF151, _, rfl, by decide, (JNX.r1 (by omega) (Or.inr ⟨by omega, by omega⟩))⟩
  by_cases c133_2 : a1.toInt = 2
  · refine r_tsw 60 (by rw [c133_2]; rfl) ?_
    refine At.enter rfl ?_
    refine r_aload_n rfl ?_
    refine r_bipush 43 rfl ?_
    refine r_callV 66 rfl [.ref 176, .int 43] [] (Nat.le_of_ble_eq_true rfl) rfl (zT_X5_isSingle_176 _ hI0 43 (by decide)) ?_
    rintro _ _ ⟨g158, rfl, hI159, hF160, v161, rfl, hr162⟩
    refine At.sti ?_
    have hF163 := Fr.tr hF0 hF160 rfl rfl
    have zv164 : (43 : Int32).toInt = 43 := rfl
    have hb165 : BL (CDX g0 = 20) v161.toInt := ISX.code (c := 20) hr162.2 hT (isSC_d (by omega)) (by decide)
    refine At.enter rfl ?_
    refine r_ifs 69 rfl (fun c166 => ?_) (fun c166 => ?_)
    · have c166_ : v161.toInt = 0 := en_k_eq_t c166
      have i167 := BL.no hb165 (by omega)
      refine At.enter rfl ?_
      refine r_aload_n rfl ?_
      refine r_bipush 45 rfl ?_
      refine r_callV 79 rfl [.ref 176, .int 45] [] (Nat.le_of_ble_eq_true rfl) rfl (zT_X5_isSingle_176 _ hI159 45 (by decide)) ?_
      rintro _ _ ⟨g168, rfl, hI169, hF170, v171, rfl, hr172⟩
      refine At.sti ?_
      have hF173 := Fr.tr hF163 hF170 rfl rfl
      have zv174 : (45 : Int32).toInt = 45 := rfl
      have hb175 : BL (CDX g0 = 21) v171.toInt := by have z := ISX.code (c := 21) hr172.2 (TKX.c hT ((hF160.2.1 175 (by decide))) ((hF160.1 174 1 (by decide))) ((hF160.1 176 3 (by decide))) ((hF160.1 176 4 (by decide))) ((hF160.1 176 5 (by decide)))) (isSC_d (by omega)) (by decide); rw [CDX.c ((hF160.2.1 175 (by decide))) ((hF160.1 176 3 (by decide))) ((hF160.1 176 4 (by decide))) ((hF160.1 176 5 (by decide)))] at z; exact z
      refine At.enter rfl ?_
      refine r_ifs 82 rfl (fun c176 => ?_) (fun c176 => ?_)
      · have c176_ : v171.toInt = 0 := en_k_eq_t c176
        have i177 := BL.no hb175 (by omega)
        refine At.enter rfl ?_
        refine r_iconst (-1) rfl ?_
        refine Ar.fall 87 rfl ?_
        refine At.enter rfl ?_
        refine r_ireti ?_
        have zv178 : ((-1) : Int32).toInt = (-1) := rfl
        exact ⟨_, rfl, hI169, hF173, _, rfl, by decide, (JNX.r2 (by omega) (Or.inl ⟨by omega, by omega, by omega⟩))⟩
      · have c176_ : v171.toInt ≠ 0 := en_k_eq_f c176
        have i179 := BL.yes hb175 (by omega)
        refine At.enter rfl ?_
        refine r_iconst 3 rfl ?_
        refine r_goto ?_
        refine At.enter rfl ?_
        refine r_ireti ?_
        have zv180 : (3 : Int32).toInt = 3 := rfl
        exact ⟨_, rfl, hI169, hF173, _, rfl, by decide, (JNX.r2 (by omega) (Or.inr ⟨by omega, by omega, by omega⟩))⟩
    · have c166_ : v161.toInt ≠ 0 := en_k_eq_f c166
      have i181 := BL.yes hb165 (by omega)
      refine At.enter rfl ?_
      refine r_iconst 2 rfl ?_
      refine r_goto ?_
      refine At.enter rfl ?_
      refine r_ireti ?_
      have zv182 : (2 : Int32).toInt = 2 := rfl
      exact ⟨_, rfl, hI159, hF163, _, rfl, by decide, (JNX.r2 (by omega) (Or.inr ⟨by omega, by omega, by omega⟩))⟩
  have c183 : a1.toInt < 0 ∨ 2 < a1.toInt := by omega
  refine r_tsw 88 (by unfold en_sw; rw [if_pos c183]; rfl) ?_
  refine At.enter rfl ?_
  refine r_aload_n rfl ?_
  refine r_bipush 42 rfl ?_
  refine r_callV 94 rfl [.ref 176, .int 42] [] (Nat.le_of_ble_eq_true rfl) rfl (zT_X5_isSingle_176 _ hI0 42 (by decide)) ?_
  rintro _ _ ⟨g184, rfl, hI185, hF186, v187, rfl, hr188⟩
  refine At.sti ?_
  have hF189 := Fr.tr hF0 hF186 rfl rfl
  have zv190 : (42 : Int32).toInt = 42 := rfl
  have hb191 : BL (CDX g0 = 22) v187.toInt := ISX.code (c := 22) hr188.2 hT (isSC_d (by omega)) (by decide)
  refine At.enter rfl ?_
  refine r_ifs 97 rfl (fun c192 => ?_) (fun c192 => ?_)
  · have c192_ : v187.toInt = 0 := en_k_eq_t c192
    have i193 := BL.no hb191 (by omega)
    refine At.enter rfl ?_
    refine r_aload_n rfl ?_
    refine r_bipush 47 rfl ?_
    refine r_callV 107 rfl [.ref 176, .int 47] [] (Nat.le_of_ble_eq_true rfl) rfl (zT_X5_isSingle_176 _ hI185 47 (by decide)) ?_
    rintro _ _ ⟨g194, rfl, hI195, hF196, v197, rfl, hr198⟩
    refine At.sti ?_
    have hF199 := Fr.tr hF189 hF196 rfl rfl
    have zv200 : (47 : Int32).toInt = 47 := rfl
    have hb201 : BL (CDX g0 = 23) v197.toInt := by have z := ISX.code (c := 23) hr198.2 (TKX.c hT ((hF186.2.1 175 (by decide))) ((hF186.1 174 1 (by decide))) ((hF186.1 176 3 (by decide))) ((hF186.1 176 4 (by decide))) ((hF186.1 176 5 (by decide)))) (isSC_d (by omega)) (by decide); rw [CDX.c ((hF186.2.1 175 (by decide))) ((hF186.1 176 3 (by decide))) ((hF186.1 176 4 (by decide))) ((hF186.1 176 5 (by decide)))] at z; exact z
    refine At.enter rfl ?_
    refine r_ifs 110 rfl (fun c202 => ?_) (fun c202 => ?_)
    · have c202_ : v197.toInt = 0 := en_k_eq_t c202
      have i203 := BL.no hb201 (by omega)
      refine At.enter rfl ?_
      refine r_iconst (-1) rfl ?_
      refine Ar.fall 115 rfl ?_
      refine At.enter rfl ?_
      refine r_ireti ?_
      have zv204 : ((-1) : Int32).toInt = (-1) := rfl
      exact ⟨_, rfl, hI195, hF199, _, rfl, by decide, (JNX.r3 (by omega) (Or.inl ⟨by omega, by omega, by omega⟩))⟩
    · have c202_ : v197.toInt ≠ 0 := en_k_eq_f c202
      have i205 := BL.yes hb201 (by omega)
      refine At.enter rfl ?_
      refine r_iconst 5 rfl ?_
      refine r_goto ?_
      refine At.enter rfl ?_
      refine r_ireti ?_
      have zv206 : (5 : Int32).toInt = 5 := rfl
      exact ⟨_, rfl, hI195, hF199, _, rfl, by decide, (JNX.r3 (by omega) (Or.inr ⟨by omega, by omega, by omega⟩))⟩
  · have c192_ : v187.toInt ≠ 0 := en_k_eq_f c192
    have i207 := BL.yes hb191 (by omega)
    refine At.enter rfl ?_
    refine r_iconst 4 rfl ?_
    refine r_goto ?_
    refine At.enter rfl ?_
    refine r_ireti ?_
    have zv208 : (4 : Int32).toInt = 4 := rfl
    exact ⟨_, rfl, hI185, hF189, _, rfl, by decide, (JNX.r3 (by omega) (Or.inr ⟨by omega, by omega, by omega⟩))⟩

def zF_X5_comparisonHere_176 : List (Nat × Nat) := []
def zA_X5_comparisonHere_176 : List Nat := []
set_option maxRecDepth 100000 in
set_option maxHeartbeats 4000000 in
theorem zT_X5_comparisonHere_176 (d : Nat) {N : Nat} {g0 : List en_E} (hI0 : HI g0) (hT : TKX g0) : Ev (d + 3) 68 [.ref 176] (g0, N) (fun w h' => ∃ g', h' = (g', N) ∧ HI g' ∧ Fr zF_X5_comparisonHere_176 zA_X5_comparisonHere_176 g0 g' ∧ ∃ r : Int32, w = some (.int r) ∧ ((-1) ≤ r.toInt ∧ r.toInt ≤ 8) ∧ (BLN (24 ≤ CDX g0 ∧ CDX g0 ≤ 26) r.toInt)) := by
  have hF0 : Fr zF_X5_comparisonHere_176 zA_X5_comparisonHere_176 g0 g0 := Fr.rf
  refine Ev.mk rfl rfl ⟨Nat.le_of_ble_eq_true rfl, Or.inr (q_rc hI0.1 kx_176 rfl)⟩ ?_
  show At _ none _ _ (0, [(0, .ref 176)], [], (_, _)) _
  refine At.enter rfl ?_
  refine r_aload_n rfl ?_
  refine r_bipush 60 rfl ?_
  refine r_callV 6 rfl [.ref 176, .int 60] [] (Nat.le_of_ble_eq_true rfl) rfl (zT_X5_isSingle_176 _ hI0 60 (by decide)) ?_
  rintro _ _ ⟨g67, rfl, hI68, hF69, v70, rfl, hr71⟩
  refine At.sti ?_
  have hF72 := Fr.tr hF0 hF69 rfl rfl
  have zv73 : (60 : Int32).toInt = 60 := rfl
  have hb74 : BL (CDX g0 = 24) v70.toInt := ISX.code (c := 24) hr71.2 hT (isSC_d (by omega)) (by decide)
  refine At.enter rfl ?_
  refine r_ifs 9 rfl (fun c75 => ?_) (fun c75 => ?_)
  · have c75_ : v70.toInt = 0 := en_k_eq_t c75
    have i76 := BL.no hb74 (by omega)
    refine At.enter rfl ?_
    refine r_aload_n rfl ?_
    refine r_bipush 62 rfl ?_
    refine r_callV 20 rfl [.ref 176, .int 62] [] (Nat.le_of_ble_eq_true rfl) rfl (zT_X5_isSingle_176 _ hI68 62 (by decide)) ?_
    rintro _ _ ⟨g77, rfl, hI78, hF79, v80, rfl, hr81⟩
    refine At.sti ?_
    have hF82 := Fr.tr hF72 hF79 rfl rfl
    have zv83 : (62 : Int32).toInt = 62 := rfl
    have hb84 : BL (CDX g0 = 25) v80.toInt := by have z := ISX.code (c := 25) hr81.2 (TKX.c hT ((hF69.2.1 175 (by decide))) ((hF69.1 174 1 (by decide))) ((hF69.1 176 3 (by decide))) ((hF69.1 176 4 (by decide))) ((hF69.1 176 5 (by decide)))) (isSC_d (by omega)) (by decide); rw [CDX.c ((hF69.2.1 175 (by decide))) ((hF69.1 176 3 (by decide))) ((hF69.1 176 4 (by decide))) ((hF69.1 176 5 (by decide)))] at z; exact z
    refine At.enter rfl ?_
    refine r_ifs 23 rfl (fun c85 => ?_) (fun c85 => ?_)
    · have c85_ : v80.toInt = 0 := en_k_eq_t c85
      have i86 := BL.no hb84 (by omega)
      refine At.enter rfl ?_
      refine r_aload_n rfl ?_
      refine r_bipush 61 rfl ?_
      refine r_callV 34 rfl [.ref 176, .int 61] [] (Nat.le_of_ble_eq_true rfl) rfl (zT_X5_isSingle_176 _ hI78 61 (by decide)) ?_
      rintro _ _ ⟨g87, rfl, hI88, hF89, v90, rfl, hr91⟩
      refine At.sti ?_
      have hF92 := Fr.tr hF82 hF89 rfl rfl
      have zv93 : (61 : Int32).toInt = 61 := rfl
      have hb94 : BL (CDX g0 = 26) v90.toInt := by have z := ISX.code (c := 26) hr91.2 (TKX.c hT (((hF79.2.1 175 (by decide)).trans (hF69.2.1 175 (by decide)))) (((hF79.1 174 1 (by decide)).trans (hF69.1 174 1 (by decide)))) (((hF79.1 176 3 (by decide)).trans (hF69.1 176 3 (by decide)))) (((hF79.1 176 4 (by decide)).trans (hF69.1 176 4 (by decide)))) (((hF79.1 176 5 (by decide)).trans (hF69.1 176 5 (by decide))))) (isSC_d (by omega)) (by decide); rw [CDX.c (((hF79.2.1 175 (by decide)).trans (hF69.2.1 175 (by decide)))) (((hF79.1 176 3 (by decide)).trans (hF69.1 176 3 (by decide)))) (((hF79.1 176 4 (by decide)).trans (hF69.1 176 4 (by decide)))) (((hF79.1 176 5 (by decide)).trans (hF69.1 176 5 (by decide))))] at z; exact z
      refine At.enter rfl ?_
      refine r_ifs 37 rfl (fun c95 => ?_) (fun c95 => ?_)
      · have c95_ : v90.toInt = 0 := en_k_eq_t c95
        have i96 := BL.no hb94 (by omega)
        refine At.enter rfl ?_
        refine r_iconst (-1) rfl ?_
        refine Ar.fall 43 rfl ?_
        refine At.enter rfl ?_
        refine r_ireti ?_
        have zv97 : ((-1) : Int32).toInt = (-1) := rfl
        exact ⟨_, rfl, hI88, hF92, _, rfl, by decide, (CMX.mk (Or.inl ⟨by omega, by omega, by omega, by omega⟩))⟩
      · have c95_ : v90.toInt ≠ 0 := en_k_eq_f c95
        have i98 := BL.yes hb94 (by omega)
        refine At.enter rfl ?_
        refine r_bipush 8 rfl ?_
        refine r_goto ?_
        refine At.enter rfl ?_
        refine r_ireti ?_
        have zv99 : (8 : Int32).toInt = 8 := rfl
        exact ⟨_, rfl, hI88, hF92, _, rfl, by decide, (CMX.mk (Or.inr ⟨by omega, by omega, by omega⟩))⟩
    · have c85_ : v80.toInt ≠ 0 := en_k_eq_f c85
      have i100 := BL.yes hb84 (by omega)
      refine At.enter rfl ?_
      refine r_bipush 7 rfl ?_
      refine r_goto ?_
      refine At.enter rfl ?_
      refine r_ireti ?_
      have zv101 : (7 : Int32).toInt = 7 := rfl
      exact ⟨_, rfl, hI78, hF82, _, rfl, by decide, (CMX.mk (Or.inr ⟨by omega, by omega, by omega⟩))⟩
  · have c75_ : v70.toInt ≠ 0 := en_k_eq_f c75
    have i102 := BL.yes hb74 (by omega)
    refine At.enter rfl ?_
    refine r_bipush 6 rfl ?_
    refine r_goto ?_
    refine At.enter rfl ?_
    refine r_ireti ?_
    have zv103 : (6 : Int32).toInt = 6 := rfl
    exact ⟨_, rfl, hI68, hF72, _, rfl, by decide, (CMX.mk (Or.inr ⟨by omega, by omega, by omega⟩))⟩

def zQJ (n : Nat) : Prop := ∀ e : Nat, 4 * n + 20 ≤ e → ∀ {N : Nat} {g0 : List en_E}, HI g0 → ∀ (a1 : Int32) (h_a1 : 0 ≤ a1.toInt ∧ a1.toInt ≤ 3) (a2 : Int32) (h_a2 : 0 ≤ a2.toInt ∧ a2.toInt ≤ 8), 10 * (9 - a2.toInt) + (8 - 2 * a1.toInt) ≤ (n : Int) → TKX g0 → Ev e 65 [.ref 176, .int a1, .int a2] (g0, N) (fun w h' => ∃ g', h' = (g', N) ∧ HI g' ∧ Fr F_rd A_rd g0 g' ∧ w = none ∧ JPX g0 g' a1.toInt a2.toInt)
def zQP (n : Nat) : Prop := ∀ e : Nat, 4 * n + 20 ≤ e → ∀ {N : Nat} {g0 : List en_E}, HI g0 → ∀ (a1 : Int32) (h_a1 : 0 ≤ a1.toInt ∧ a1.toInt ≤ 8), 10 * (9 - a1.toInt) + 5 ≤ (n : Int) → TKX g0 → Ev e 67 [.ref 176, .int a1] (g0, N) (fun w h' => ∃ g', h' = (g', N) ∧ HI g' ∧ Fr F_rd A_rd g0 g' ∧ w = none ∧ PPX g0 g' a1.toInt)
def zQT (n : Nat) : Prop := ∀ e : Nat, 4 * n + 20 ≤ e → ∀ {N : Nat} {g0 : List en_E}, HI g0 → ∀ (a1 : Int32) (h_a1 : 0 ≤ a1.toInt ∧ a1.toInt ≤ 8), 10 * (9 - a1.toInt) + 1 ≤ (n : Int) → TKX g0 → Ev e 69 [.ref 176, .int a1] (g0, N) (fun w h' => ∃ g', h' = (g', N) ∧ HI g' ∧ Fr F_rd A_rd g0 g' ∧ w = none ∧ TPX g0 g' a1.toInt)

set_option maxRecDepth 100000 in
set_option maxHeartbeats 4000000 in
theorem zS_X5_readJoined_176 (n : Nat) (IHJ : zQJ n) (IHP : zQP n) (IHT : zQT n) : zQJ (n + 1) := by
  intro e he N g0 hI0 a1 h_a1 a2 h_a2 hm hT
  obtain ⟨d, rfl⟩ : ∃ d, e = d + 4 := ⟨e - 4, by omega⟩
  have hF0 : Fr F_rd A_rd g0 g0 := Fr.rf
  refine Ev.mk rfl rfl ⟨Nat.le_of_ble_eq_true rfl, Or.inr (q_rc hI0.1 kx_176 rfl)⟩ ?_
  show At _ none _ _ (0, [(0, .ref 176), (1, .int a1), (2, .int a2)], [], (_, _)) _
  refine At.enter rfl ?_
  refine r_iconst (-1) rfl ?_
  refine r_istore_n ([(3, .int (-1)), (0, .ref 176), (1, .int a1), (2, .int a2)]) rfl ?_
  refine r_iconst (-1) rfl ?_
  refine r_istore ([(4, .int (-1)), (3, .int (-1)), (0, .ref 176), (1, .int a1), (2, .int a2)]) rfl ?_
  refine r_iconst 0 rfl ?_
  refine r_istore ([(5, .int 0), (4, .int (-1)), (3, .int (-1)), (0, .ref 176), (1, .int a1), (2, .int a2)]) rfl ?_
  refine Ar.fall 8 rfl ?_
  have z_19940 : ((-1) : Int32).toInt = (-1) := rfl
  have z_19941 : ((-1) : Int32).toInt = (-1) := rfl
  have z_19942 : (0 : Int32).toInt = 0 := rfl
  obtain ⟨v19943, hv19943⟩ : ∃ v, gI g0 176 4 = v := ⟨_, rfl⟩
  have rv19943 := RgF.at hI0.2.1 (p := 176) (b := 4) rfl
  rw [hv19943] at rv19943
  dsimp only at rv19943
  have tv19943 := congrArg Int32.toInt hv19943
  have x19944 := rX.e hI0 (b := 4) (hv19943)
  refine w_loopI (fun n_ l_ g_ => ∃ x19918 : Int32, ∃ x19919 : Int32, ∃ x19920 : Int32, n_ = 400 - x19920.toInt ∧ HI g_ ∧ Fr F_rd A_rd g0 g_ ∧ en_get 0 l_ = some (.ref 176) ∧ en_get 1 l_ = some (.int a1) ∧ en_get 2 l_ = some (.int a2) ∧ en_get 3 l_ = some (.int x19918) ∧ en_get 4 l_ = some (.int x19919) ∧ en_get 5 l_ = some (.int x19920) ∧ ((-1) ≤ x19918.toInt ∧ x19918.toInt ≤ 11) ∧ ((-1) ≤ x19919.toInt ∧ x19919.toInt ≤ 399) ∧ (0 ≤ x19920.toInt ∧ x19920.toInt ≤ 400) ∧ (TKX g_) ∧ (LPI (TX g0) (nX g0) g0 g_ a1.toInt a2.toInt) ∧ (PRG0 0 (rX g0 2) (rX g_ 2) (rX g0 4) (rX g_ 4)) ∧ (2 * x19920.toInt ≤ rX g_ 4)) ?_ (400 - 0) ⟨(-1), (-1), 0, by first | rfl | omega, hI0, hF0, rfl, rfl, rfl, rfl, rfl, rfl, by decide, by decide, by decide, hT, LPI.rf, PRG0.rf, by omega⟩
  rintro n19925 l19924 g19921 ⟨x19918, x19919, x19920, hm19945, hI19922, hF19923, e19927, e19928, e19929, e19930, e19931, e19932, r19933, r19934, r19935, q19936, q19937, q19938, q19939⟩ ih19926
  obtain ⟨v19946, hv19946⟩ : ∃ v, gI g19921 176 4 = v := ⟨_, rfl⟩
  have rv19946 := RgF.at hI19922.2.1 (p := 176) (b := 4) rfl
  rw [hv19946] at rv19946
  dsimp only at rv19946
  have tv19946 := congrArg Int32.toInt hv19946
  have x19947 := rX.e hI19922 (b := 4) (hv19946)
  refine At.enter rfl ?_
  refine r_iload e19932 ?_
  refine r_sipush 400 rfl ?_
  refine r_ics 16 rfl (fun c19948 => ?_) (fun c19948 => ?_)
  · have c19948_ : x19920.toInt ≥ 400 := en_i_ge_t c19948
    refine At.enter rfl ?_
    refine r_vret ?_
    obtain ⟨v19949, hv19949⟩ : ∃ v, gI g19921 176 2 = v := ⟨_, rfl⟩
    have tv19949 := congrArg Int32.toInt hv19949
    have x19950 := rX.e hI19922 (b := 2) (hv19949)
    have x19951 := rX.e hI19922 (b := 4) (hv19946)
    obtain ⟨v19952, hv19952⟩ : ∃ v, gI g19921 176 6 = v := ⟨_, rfl⟩
    have tv19952 := congrArg Int32.toInt hv19952
    have x19953 := rX.e hI19922 (b := 6) (hv19952)
    obtain ⟨v19954, hv19954⟩ : ∃ v, gI g0 176 2 = v := ⟨_, rfl⟩
    have tv19954 := congrArg Int32.toInt hv19954
    have x19955 := rX.e hI0 (b := 2) (hv19954)
    have x19956 := rX.e hI0 (b := 4) (hv19943)
    have x19957 := rX.e hI19922 (b := 2) (hv19949)
    have x19958 := rX.e hI19922 (b := 4) (hv19946)
    exact ⟨_, rfl, hI19922, hF19923, rfl, (False.elim (by have z := q19938.2.2; omega))⟩
  · have c19948_ : x19920.toInt < 400 := en_i_ge_f c19948
    refine At.enter rfl ?_
    refine r_iload_n e19928 ?_
    refine r_iconst 1 rfl ?_
    refine r_ics 21 rfl (fun c19959 => ?_) (fun c19959 => ?_)
    · have c19959_ : a1.toInt ≠ 1 := en_i_ne_t c19959
      refine At.enter rfl ?_
      refine r_iload_n e19928 ?_
      refine r_iconst 3 rfl ?_
      refine r_ics 34 rfl (fun c19960 => ?_) (fun c19960 => ?_)
      · have c19960_ : a1.toInt ≠ 3 := en_i_ne_t c19960
        refine At.enter rfl ?_
        refine r_aload_n e19927 ?_
        refine r_iload_n e19928 ?_
        refine r_iconst 1 rfl ?_
        refine q_iadd (a1.toInt + 1) rfl (by omega) (fun v19961 hv19961 => ?_)
        refine r_iload_n e19929 ?_
        refine r_callV 50 rfl [.ref 176, .int v19961, .int a2] [] (Nat.le_of_ble_eq_true rfl) rfl (IHJ _ (by omega) hI19922 v19961 (by omega) a2 (by omega) (by omega) q19936) ?_
        rintro _ _ ⟨g19962, rfl, hI19963, hF19964, rfl, hr19966⟩
        refine At.stn ?_
        have hF19967 := Fr.tr hF19923 hF19964 rfl rfl
        obtain ⟨v19972, hv19972⟩ : ∃ v, gI g19921 176 2 = v := ⟨_, rfl⟩
        have tv19972 := congrArg Int32.toInt hv19972
        have x19973 := rX.e hI19922 (b := 2) (hv19972)
        have x19974 := rX.e hI19922 (b := 4) (hv19946)
        obtain ⟨o19968, o19969, o19970, o19971⟩ := hr19966
        have o19975 := OPD.tc o19970 ((hF19923.2.1 175 (by decide))) ((hF19923.1 174 1 (by decide)))
        obtain ⟨v19976, hv19976⟩ : ∃ v, gI g19962 176 2 = v := ⟨_, rfl⟩
        have tv19976 := congrArg Int32.toInt hv19976
        have x19977 := rX.e hI19963 (b := 2) (hv19976)
        obtain ⟨v19978, hv19978⟩ : ∃ v, gI g19962 176 4 = v := ⟨_, rfl⟩
        have rv19978 := RgF.at hI19963.2.1 (p := 176) (b := 4) rfl
        rw [hv19978] at rv19978
        dsimp only at rv19978
        have tv19978 := congrArg Int32.toInt hv19978
        have x19979 := rX.e hI19963 (b := 4) (hv19978)
        refine At.enter rfl ?_
        refine r_iload e19931 ?_
        refine r_iconst (-1) rfl ?_
        refine r_ics 56 rfl (fun c19980 => ?_) (fun c19980 => ?_)
        · have c19980_ : x19919.toInt = (-1) := en_i_eq_t c19980
          refine At.enter rfl ?_
          refine r_iload_n e19930 ?_
          refine r_iconst (-1) rfl ?_
          refine r_ics 73 rfl (fun c19981 => ?_) (fun c19981 => ?_)
          · have c19981_ : x19918.toInt = (-1) := en_i_eq_t c19981
            refine At.enter rfl ?_
            refine r_aload_n e19927 ?_
            refine q_getI (Sh.int hI19963.1 kx_176 rfl) v19976 hv19976 ?_
            refine r_iconst (-1) rfl ?_
            refine r_ics 91 rfl (fun c19982 => ?_) (fun c19982 => ?_)
            · have c19982_ : v19976.toInt ≠ (-1) := en_i_ne_t c19982
              refine At.enter rfl ?_
              refine r_iconst (-1) rfl ?_
              refine Ar.fall 100 rfl ?_
              refine At.enter rfl ?_
              refine r_istore_n _ rfl ?_
              refine r_iload_n (w_e1 _ _ _) ?_
              refine r_iconst (-1) rfl ?_
              refine r_icf 106 rfl (by decide) ?_
              refine At.enter rfl ?_
              refine r_vret ?_
              have x19983 := rX.e hI19963 (b := 2) (hv19976)
              have x19984 := rX.e hI19963 (b := 4) (hv19978)
              obtain ⟨v19985, hv19985⟩ : ∃ v, gI g19962 176 6 = v := ⟨_, rfl⟩
              have tv19985 := congrArg Int32.toInt hv19985
              have x19986 := rX.e hI19963 (b := 6) (hv19985)
              obtain ⟨v19987, hv19987⟩ : ∃ v, gI g0 176 2 = v := ⟨_, rfl⟩
              have tv19987 := congrArg Int32.toInt hv19987
              have x19988 := rX.e hI0 (b := 2) (hv19987)
              have x19989 := rX.e hI0 (b := 4) (hv19943)
              have x19990 := rX.e hI19922 (b := 2) (hv19972)
              have x19991 := rX.e hI19922 (b := 4) (hv19946)
              exact ⟨_, rfl, hI19963, hF19967, rfl, ⟨o19968, (PRG0.tr q19938 (PRG0.tr o19969 (PRG0.eq rfl rfl))).le (by omega), LPI.end_ q19937 (OPD.join o19975 (by omega)) rfl rfl rfl, (fun hz => absurd hz (by omega))⟩⟩
            · have c19982_ : v19976.toInt = (-1) := en_i_ne_f c19982
              refine At.enter rfl ?_
              refine r_aload_n e19927 ?_
              refine r_iload_n e19928 ?_
              refine r_callV 96 rfl [.ref 176, .int a1] [] (Nat.le_of_ble_eq_true rfl) rfl (zT_X5_joinHere_176 _ hI19963 a1 (by omega) o19968) ?_
              rintro _ _ ⟨g19992, rfl, hI19993, hF19994, v19995, rfl, hr19996⟩
              refine At.sti ?_
              have hF19997 := Fr.tr hF19967 hF19994 rfl rfl
              have hb19998 : BLN (JN a1.toInt (CDX g19962)) v19995.toInt := hr19996.2
              refine At.enter rfl ?_
              refine r_goto ?_
              refine At.enter rfl ?_
              refine r_istore_n _ rfl ?_
              refine r_iload_n (w_e1 _ _ _) ?_
              refine r_iconst (-1) rfl ?_
              refine r_ics 106 rfl (fun c19999 => ?_) (fun c19999 => ?_)
              · have c19999_ : v19995.toInt ≠ (-1) := en_i_ne_t c19999
                have i20000 := BLN.yes hb19998 (by omega)
                refine At.enter rfl ?_
                refine r_aload_n (w_p1 (by decide) (Or.inr rfl) e19927) ?_
                refine r_callV 111 rfl [.ref 176] [] (Nat.le_of_ble_eq_true rfl) rfl (zT_X5_step_176 _ hI19993 (TKX.c o19968 ((hF19994.2.1 175 (by decide))) ((hF19994.1 174 1 (by decide))) ((hF19994.1 176 3 (by decide))) ((hF19994.1 176 4 (by decide))) ((hF19994.1 176 5 (by decide)))).1 (TKX.c o19968 ((hF19994.2.1 175 (by decide))) ((hF19994.1 174 1 (by decide))) ((hF19994.1 176 3 (by decide))) ((hF19994.1 176 4 (by decide))) ((hF19994.1 176 5 (by decide)))).2.1.le.2.1) ?_
                rintro _ _ ⟨g20001, rfl, hI20002, hF20003, rfl, hr20005⟩
                refine At.stn ?_
                have hF20006 := Fr.tr hF19997 hF20003 rfl rfl
                have tok20007_ := hr20005.2
                rw [TX.c ((hF19994.2.1 175 (by decide))), nX.c ((hF19994.1 174 1 (by decide))), rX.c (b := 5) ((hF19994.1 176 5 (by decide)))] at tok20007_
                have tok20007 := TKX.tok o19968 tok20007_
                rw [TX.c (((hF19964.2.1 175 (by decide)).trans (hF19923.2.1 175 (by decide)))), nX.c (((hF19964.1 174 1 (by decide)).trans (hF19923.1 174 1 (by decide))))] at tok20007
                have hT20008 := hr20005.1
                have x20009 := rX.e hI19993 (b := 4) (((hF19994.1 176 4 (by decide)).trans hv19978))
                obtain ⟨v20010, hv20010⟩ : ∃ v, gI g20001 176 4 = v := ⟨_, rfl⟩
                have rv20010 := RgF.at hI20002.2.1 (p := 176) (b := 4) rfl
                rw [hv20010] at rv20010
                dsimp only at rv20010
                have tv20010 := congrArg Int32.toInt hv20010
                have x20011 := rX.e hI20002 (b := 4) (hv20010)
                refine At.enter rfl ?_
                refine r_iload_n (w_p1 (by decide) (Or.inr rfl) e19928) ?_
                refine r_ifs 115 rfl (fun c20012 => ?_) (fun c20012 => ?_)
                · have c20012_ : a1.toInt = 0 := en_k_eq_t c20012
                  refine At.enter rfl ?_
                  refine r_aload_n (w_p1 (by decide) (Or.inr rfl) e19927) ?_
                  refine q_getR (Sh.ref hI20002.1 kx_176 rfl) ?_
                  refine r_iload_n (w_e1 _ _ _) ?_
                  refine r_iconst 0 rfl ?_
                  refine r_callV 129 rfl [.ref 177, .int v19995, .int 0] [] (Nat.le_of_ble_eq_true rfl) rfl (zT_X4_add_177 _ hI20002 v19995 0) ?_
                  rintro _ _ ⟨g20013, rfl, hI20014, hF20015, v20016, rfl, hr20017⟩
                  refine At.sti ?_
                  have hF20018 := Fr.tr hF20006 hF20015 rfl rfl
                  refine At.enter rfl ?_
                  refine r_goto ?_
                  refine At.enter rfl ?_
                  refine r_istore _ rfl ?_
                  refine q_iinc (w_p1 (by decide) (Or.inr rfl) (w_p1 (by decide) (Or.inr rfl) e19932)) (x19920.toInt + 1) rfl (by omega) (fun v20019 hv20019 => ?_)
                  refine r_goto ?_
                  have x20020 := rX.e hI19922 (b := 4) (hv19946)
                  have x20021 := rX.e hI19963 (b := 2) (hv19976)
                  have x20022 := rX.e hI19963 (b := 4) (hv19978)
                  have x20023 := rX.e hI20002 (b := 4) (hv20010)
                  have x20024 := rX.e hI20014 (b := 4) (((hF20015.1 176 4 (by decide)).trans hv20010))
                  have y20025 := (o19969.2.2 (by omega)).2
                  have y20026 := ((PRG0.step o19968 tok20007_ (rX.c (b := 2) (((hF20003.1 176 2 (by decide)).trans (hF19994.1 176 2 (by decide))))) (JN.ne i20000)).2.2 (by rw [(rX.c (b := 2) (((hF20003.1 176 2 (by decide)).trans (hF19994.1 176 2 (by decide)))))]; omega)).2
                  exact ih19926 (400 - v20019.toInt) _ _ ⟨v19995, v20016, v20019, by first | rfl | omega, hI20014, hF20018, (w_p1 (by decide) (Or.inr rfl) (w_p1 (by decide) (Or.inr rfl) (w_p1 (by decide) (Or.inr rfl) e19927))), (w_p1 (by decide) (Or.inr rfl) (w_p1 (by decide) (Or.inr rfl) (w_p1 (by decide) (Or.inr rfl) e19928))), (w_p1 (by decide) (Or.inr rfl) (w_p1 (by decide) (Or.inr rfl) (w_p1 (by decide) (Or.inr rfl) e19929))), (w_p1 (by decide) (Or.inr rfl) (w_p1 (by decide) (Or.inr rfl) (w_e1 _ _ _))), (w_p1 (by decide) (Or.inr rfl) (w_e1 _ _ _)), (w_e1 _ _ _), by omega, by omega, by omega, (TKX.c hT20008 ((hF20015.2.1 175 (by decide))) ((hF20015.1 174 1 (by decide))) ((hF20015.1 176 3 (by decide))) ((hF20015.1 176 4 (by decide))) ((hF20015.1 176 5 (by decide)))), (LPI.eq (LPI.next q19937 (OPD.join o19975 (by omega)) tok20007 i20000 ⟨by omega, by omega⟩ (rX.c (b := 2) (((hF20003.1 176 2 (by decide)).trans (hF19994.1 176 2 (by decide))))) (rX.c (b := 6) (((hF20003.1 176 6 (by decide)).trans (hF19994.1 176 6 (by decide)))))) (rX.c (b := 2) ((hF20015.1 176 2 (by decide)))) (rX.c (b := 4) ((hF20015.1 176 4 (by decide)))) (rX.c (b := 6) ((hF20015.1 176 6 (by decide))))), ((PRG0.tr q19938 (PRG0.tr o19969 (PRG0.tr (PRG0.step o19968 tok20007_ (rX.c (b := 2) (((hF20003.1 176 2 (by decide)).trans (hF19994.1 176 2 (by decide))))) (JN.ne i20000)) (PRG0.eq (rX.c (b := 4) ((hF20015.1 176 4 (by decide)))) (rX.c (b := 2) ((hF20015.1 176 2 (by decide)))))))).le (by omega)), by omega⟩ ⟨by omega, by omega⟩
                · have c20012_ : a1.toInt ≠ 0 := en_k_eq_f c20012
                  refine At.enter rfl ?_
                  refine r_iload_n (w_p1 (by decide) (Or.inr rfl) e19928) ?_
                  refine r_iconst 1 rfl ?_
                  refine r_ics 120 rfl (fun c20027 => ?_) (fun c20027 => ?_)
                  · have c20027_ : a1.toInt ≠ 1 := en_i_ne_t c20027
                    refine At.enter rfl ?_
                    refine r_iconst (-1) rfl ?_
                    refine Ar.fall 133 rfl ?_
                    refine At.enter rfl ?_
                    refine r_istore _ rfl ?_
                    refine q_iinc (w_p1 (by decide) (Or.inr rfl) (w_p1 (by decide) (Or.inr rfl) e19932)) (x19920.toInt + 1) rfl (by omega) (fun v20028 hv20028 => ?_)
                    refine r_goto ?_
                    have x20029 := rX.e hI19922 (b := 4) (hv19946)
                    have x20030 := rX.e hI19963 (b := 2) (hv19976)
                    have x20031 := rX.e hI19963 (b := 4) (hv19978)
                    have x20032 := rX.e hI20002 (b := 4) (hv20010)
                    have x20033 := rX.e hI20002 (b := 4) (hv20010)
                    have y20034 := (o19969.2.2 (by omega)).2
                    have y20035 := ((PRG0.step o19968 tok20007_ (rX.c (b := 2) (((hF20003.1 176 2 (by decide)).trans (hF19994.1 176 2 (by decide))))) (JN.ne i20000)).2.2 (by rw [(rX.c (b := 2) (((hF20003.1 176 2 (by decide)).trans (hF19994.1 176 2 (by decide)))))]; omega)).2
                    exact ih19926 (400 - v20028.toInt) _ _ ⟨v19995, (-1), v20028, by first | rfl | omega, hI20002, hF20006, (w_p1 (by decide) (Or.inr rfl) (w_p1 (by decide) (Or.inr rfl) (w_p1 (by decide) (Or.inr rfl) e19927))), (w_p1 (by decide) (Or.inr rfl) (w_p1 (by decide) (Or.inr rfl) (w_p1 (by decide) (Or.inr rfl) e19928))), (w_p1 (by decide) (Or.inr rfl) (w_p1 (by decide) (Or.inr rfl) (w_p1 (by decide) (Or.inr rfl) e19929))), (w_p1 (by decide) (Or.inr rfl) (w_p1 (by decide) (Or.inr rfl) (w_e1 _ _ _))), (w_p1 (by decide) (Or.inr rfl) (w_e1 _ _ _)), (w_e1 _ _ _), by omega, by decide, by omega, hT20008, (LPI.eq (LPI.next q19937 (OPD.join o19975 (by omega)) tok20007 i20000 ⟨by omega, by omega⟩ (rX.c (b := 2) (((hF20003.1 176 2 (by decide)).trans (hF19994.1 176 2 (by decide))))) (rX.c (b := 6) (((hF20003.1 176 6 (by decide)).trans (hF19994.1 176 6 (by decide)))))) rfl rfl rfl), ((PRG0.tr q19938 (PRG0.tr o19969 (PRG0.tr (PRG0.step o19968 tok20007_ (rX.c (b := 2) (((hF20003.1 176 2 (by decide)).trans (hF19994.1 176 2 (by decide))))) (JN.ne i20000)) (PRG0.eq rfl rfl)))).le (by omega)), by omega⟩ ⟨by omega, by omega⟩
                  · have c20027_ : a1.toInt = 1 := en_i_ne_f c20027
                    refine At.enter rfl ?_
                    refine r_aload_n (w_p1 (by decide) (Or.inr rfl) e19927) ?_
                    refine q_getR (Sh.ref hI20002.1 kx_176 rfl) ?_
                    refine r_iload_n (w_e1 _ _ _) ?_
                    refine r_iconst 0 rfl ?_
                    refine r_callV 129 rfl [.ref 177, .int v19995, .int 0] [] (Nat.le_of_ble_eq_true rfl) rfl (zT_X4_add_177 _ hI20002 v19995 0) ?_
                    rintro _ _ ⟨g20036, rfl, hI20037, hF20038, v20039, rfl, hr20040⟩
                    refine At.sti ?_
                    have hF20041 := Fr.tr hF20006 hF20038 rfl rfl
                    refine At.enter rfl ?_
                    refine r_goto ?_
                    refine At.enter rfl ?_
                    refine r_istore _ rfl ?_
                    refine q_iinc (w_p1 (by decide) (Or.inr rfl) (w_p1 (by decide) (Or.inr rfl) e19932)) (x19920.toInt + 1) rfl (by omega) (fun v20042 hv20042 => ?_)
                    refine r_goto ?_
                    have x20043 := rX.e hI19922 (b := 4) (hv19946)
                    have x20044 := rX.e hI19963 (b := 2) (hv19976)
                    have x20045 := rX.e hI19963 (b := 4) (hv19978)
                    have x20046 := rX.e hI20002 (b := 4) (hv20010)
                    have x20047 := rX.e hI20037 (b := 4) (((hF20038.1 176 4 (by decide)).trans hv20010))
                    have y20048 := (o19969.2.2 (by omega)).2
                    have y20049 := ((PRG0.step o19968 tok20007_ (rX.c (b := 2) (((hF20003.1 176 2 (by decide)).trans (hF19994.1 176 2 (by decide))))) (JN.ne i20000)).2.2 (by rw [(rX.c (b := 2) (((hF20003.1 176 2 (by decide)).trans (hF19994.1 176 2 (by decide)))))]; omega)).2
                    exact ih19926 (400 - v20042.toInt) _ _ ⟨v19995, v20039, v20042, by first | rfl | omega, hI20037, hF20041, (w_p1 (by decide) (Or.inr rfl) (w_p1 (by decide) (Or.inr rfl) (w_p1 (by decide) (Or.inr rfl) e19927))), (w_p1 (by decide) (Or.inr rfl) (w_p1 (by decide) (Or.inr rfl) (w_p1 (by decide) (Or.inr rfl) e19928))), (w_p1 (by decide) (Or.inr rfl) (w_p1 (by decide) (Or.inr rfl) (w_p1 (by decide) (Or.inr rfl) e19929))), (w_p1 (by decide) (Or.inr rfl) (w_p1 (by decide) (Or.inr rfl) (w_e1 _ _ _))), (w_p1 (by decide) (Or.inr rfl) (w_e1 _ _ _)), (w_e1 _ _ _), by omega, by omega, by omega, (TKX.c hT20008 ((hF20038.2.1 175 (by decide))) ((hF20038.1 174 1 (by decide))) ((hF20038.1 176 3 (by decide))) ((hF20038.1 176 4 (by decide))) ((hF20038.1 176 5 (by decide)))), (LPI.eq (LPI.next q19937 (OPD.join o19975 (by omega)) tok20007 i20000 ⟨by omega, by omega⟩ (rX.c (b := 2) (((hF20003.1 176 2 (by decide)).trans (hF19994.1 176 2 (by decide))))) (rX.c (b := 6) (((hF20003.1 176 6 (by decide)).trans (hF19994.1 176 6 (by decide)))))) (rX.c (b := 2) ((hF20038.1 176 2 (by decide)))) (rX.c (b := 4) ((hF20038.1 176 4 (by decide)))) (rX.c (b := 6) ((hF20038.1 176 6 (by decide))))), ((PRG0.tr q19938 (PRG0.tr o19969 (PRG0.tr (PRG0.step o19968 tok20007_ (rX.c (b := 2) (((hF20003.1 176 2 (by decide)).trans (hF19994.1 176 2 (by decide))))) (JN.ne i20000)) (PRG0.eq (rX.c (b := 4) ((hF20038.1 176 4 (by decide)))) (rX.c (b := 2) ((hF20038.1 176 2 (by decide)))))))).le (by omega)), by omega⟩ ⟨by omega, by omega⟩
              · have c19999_ : v19995.toInt = (-1) := en_i_ne_f c19999
                have i20050 := BLN.no hb19998 (by omega)
                refine At.enter rfl ?_
                refine r_vret ?_
                have x20051 := rX.e hI19993 (b := 2) (((hF19994.1 176 2 (by decide)).trans hv19976))
                have x20052 := rX.e hI19993 (b := 4) (((hF19994.1 176 4 (by decide)).trans hv19978))
                obtain ⟨v20053, hv20053⟩ : ∃ v, gI g19962 176 6 = v := ⟨_, rfl⟩
                have tv20053 := congrArg Int32.toInt hv20053
                have x20054 := rX.e hI19993 (b := 6) (((hF19994.1 176 6 (by decide)).trans hv20053))
                obtain ⟨v20055, hv20055⟩ : ∃ v, gI g0 176 2 = v := ⟨_, rfl⟩
                have tv20055 := congrArg Int32.toInt hv20055
                have x20056 := rX.e hI0 (b := 2) (hv20055)
                have x20057 := rX.e hI0 (b := 4) (hv19943)
                have x20058 := rX.e hI19922 (b := 2) (hv19972)
                have x20059 := rX.e hI19922 (b := 4) (hv19946)
                exact ⟨_, rfl, hI19993, hF19997, rfl, ⟨(TKX.c o19968 ((hF19994.2.1 175 (by decide))) ((hF19994.1 174 1 (by decide))) ((hF19994.1 176 3 (by decide))) ((hF19994.1 176 4 (by decide))) ((hF19994.1 176 5 (by decide)))), (PRG0.tr q19938 (PRG0.tr o19969 (PRG0.eq (rX.c (b := 4) ((hF19994.1 176 4 (by decide)))) (rX.c (b := 2) ((hF19994.1 176 2 (by decide))))))).le (by omega), LPI.end_ q19937 (OPD.join o19975 (by omega)) (rX.c (b := 2) ((hF19994.1 176 2 (by decide)))) (rX.c (b := 4) ((hF19994.1 176 4 (by decide)))) (rX.c (b := 6) ((hF19994.1 176 6 (by decide)))), (fun hz => (by rw [CDX.c ((hF19994.2.1 175 (by decide))) ((hF19994.1 176 3 (by decide))) ((hF19994.1 176 4 (by decide))) ((hF19994.1 176 5 (by decide)))]; exact NJ.mk (o19971 (by omega)) (by omega) i20050))⟩⟩
          · have c19981_ : x19918.toInt ≠ (-1) := en_i_eq_f c19981
            refine At.enter rfl ?_
            refine r_aload_n e19927 ?_
            refine q_getR (Sh.ref hI19963.1 kx_176 rfl) ?_
            refine r_iload_n e19930 ?_
            refine r_iconst 0 rfl ?_
            refine r_callV 82 rfl [.ref 177, .int x19918, .int 0] [] (Nat.le_of_ble_eq_true rfl) rfl (zT_X4_add_177 _ hI19963 x19918 0) ?_
            rintro _ _ ⟨g20060, rfl, hI20061, hF20062, v20063, rfl, hr20064⟩
            refine At.sti ?_
            have hF20065 := Fr.tr hF19967 hF20062 rfl rfl
            refine At.enter rfl ?_
            refine r_pop rfl ?_
            refine Ar.fall 83 rfl ?_
            refine At.enter rfl ?_
            refine r_aload_n e19927 ?_
            refine q_getI (Sh.int hI20061.1 kx_176 rfl) v19976 ((hF20062.1 176 2 (by decide)).trans hv19976) ?_
            refine r_iconst (-1) rfl ?_
            refine r_ics 91 rfl (fun c20066 => ?_) (fun c20066 => ?_)
            · have c20066_ : v19976.toInt ≠ (-1) := en_i_ne_t c20066
              refine At.enter rfl ?_
              refine r_iconst (-1) rfl ?_
              refine Ar.fall 100 rfl ?_
              refine At.enter rfl ?_
              refine r_istore_n _ rfl ?_
              refine r_iload_n (w_e1 _ _ _) ?_
              refine r_iconst (-1) rfl ?_
              refine r_icf 106 rfl (by decide) ?_
              refine At.enter rfl ?_
              refine r_vret ?_
              have x20067 := rX.e hI20061 (b := 2) (((hF20062.1 176 2 (by decide)).trans hv19976))
              have x20068 := rX.e hI20061 (b := 4) (((hF20062.1 176 4 (by decide)).trans hv19978))
              obtain ⟨v20069, hv20069⟩ : ∃ v, gI g19962 176 6 = v := ⟨_, rfl⟩
              have tv20069 := congrArg Int32.toInt hv20069
              have x20070 := rX.e hI20061 (b := 6) (((hF20062.1 176 6 (by decide)).trans hv20069))
              obtain ⟨v20071, hv20071⟩ : ∃ v, gI g0 176 2 = v := ⟨_, rfl⟩
              have tv20071 := congrArg Int32.toInt hv20071
              have x20072 := rX.e hI0 (b := 2) (hv20071)
              have x20073 := rX.e hI0 (b := 4) (hv19943)
              have x20074 := rX.e hI19922 (b := 2) (hv19972)
              have x20075 := rX.e hI19922 (b := 4) (hv19946)
              exact ⟨_, rfl, hI20061, hF20065, rfl, ⟨(TKX.c o19968 ((hF20062.2.1 175 (by decide))) ((hF20062.1 174 1 (by decide))) ((hF20062.1 176 3 (by decide))) ((hF20062.1 176 4 (by decide))) ((hF20062.1 176 5 (by decide)))), (PRG0.tr q19938 (PRG0.tr o19969 (PRG0.eq (rX.c (b := 4) ((hF20062.1 176 4 (by decide)))) (rX.c (b := 2) ((hF20062.1 176 2 (by decide))))))).le (by omega), LPI.end_ q19937 (OPD.join o19975 (by omega)) (rX.c (b := 2) ((hF20062.1 176 2 (by decide)))) (rX.c (b := 4) ((hF20062.1 176 4 (by decide)))) (rX.c (b := 6) ((hF20062.1 176 6 (by decide)))), (fun hz => absurd hz (by omega))⟩⟩
            · have c20066_ : v19976.toInt = (-1) := en_i_ne_f c20066
              refine At.enter rfl ?_
              refine r_aload_n e19927 ?_
              refine r_iload_n e19928 ?_
              refine r_callV 96 rfl [.ref 176, .int a1] [] (Nat.le_of_ble_eq_true rfl) rfl (zT_X5_joinHere_176 _ hI20061 a1 (by omega) (TKX.c o19968 ((hF20062.2.1 175 (by decide))) ((hF20062.1 174 1 (by decide))) ((hF20062.1 176 3 (by decide))) ((hF20062.1 176 4 (by decide))) ((hF20062.1 176 5 (by decide))))) ?_
              rintro _ _ ⟨g20076, rfl, hI20077, hF20078, v20079, rfl, hr20080⟩
              refine At.sti ?_
              have hF20081 := Fr.tr hF20065 hF20078 rfl rfl
              have hb20082 : BLN (JN a1.toInt (CDX g19962)) v20079.toInt := by have z := hr20080.2; rw [CDX.c ((hF20062.2.1 175 (by decide))) ((hF20062.1 176 3 (by decide))) ((hF20062.1 176 4 (by decide))) ((hF20062.1 176 5 (by decide)))] at z; exact z
              refine At.enter rfl ?_
              refine r_goto ?_
              refine At.enter rfl ?_
              refine r_istore_n _ rfl ?_
              refine r_iload_n (w_e1 _ _ _) ?_
              refine r_iconst (-1) rfl ?_
              refine r_ics 106 rfl (fun c20083 => ?_) (fun c20083 => ?_)
              · have c20083_ : v20079.toInt ≠ (-1) := en_i_ne_t c20083
                have i20084 := BLN.yes hb20082 (by omega)
                refine At.enter rfl ?_
                refine r_aload_n (w_p1 (by decide) (Or.inr rfl) e19927) ?_
                refine r_callV 111 rfl [.ref 176] [] (Nat.le_of_ble_eq_true rfl) rfl (zT_X5_step_176 _ hI20077 (TKX.c o19968 (((hF20078.2.1 175 (by decide)).trans (hF20062.2.1 175 (by decide)))) (((hF20078.1 174 1 (by decide)).trans (hF20062.1 174 1 (by decide)))) (((hF20078.1 176 3 (by decide)).trans (hF20062.1 176 3 (by decide)))) (((hF20078.1 176 4 (by decide)).trans (hF20062.1 176 4 (by decide)))) (((hF20078.1 176 5 (by decide)).trans (hF20062.1 176 5 (by decide))))).1 (TKX.c o19968 (((hF20078.2.1 175 (by decide)).trans (hF20062.2.1 175 (by decide)))) (((hF20078.1 174 1 (by decide)).trans (hF20062.1 174 1 (by decide)))) (((hF20078.1 176 3 (by decide)).trans (hF20062.1 176 3 (by decide)))) (((hF20078.1 176 4 (by decide)).trans (hF20062.1 176 4 (by decide)))) (((hF20078.1 176 5 (by decide)).trans (hF20062.1 176 5 (by decide))))).2.1.le.2.1) ?_
                rintro _ _ ⟨g20085, rfl, hI20086, hF20087, rfl, hr20089⟩
                refine At.stn ?_
                have hF20090 := Fr.tr hF20081 hF20087 rfl rfl
                have tok20091_ := hr20089.2
                rw [TX.c (((hF20078.2.1 175 (by decide)).trans (hF20062.2.1 175 (by decide)))), nX.c (((hF20078.1 174 1 (by decide)).trans (hF20062.1 174 1 (by decide)))), rX.c (b := 5) (((hF20078.1 176 5 (by decide)).trans (hF20062.1 176 5 (by decide))))] at tok20091_
                have tok20091 := TKX.tok o19968 tok20091_
                rw [TX.c (((hF19964.2.1 175 (by decide)).trans (hF19923.2.1 175 (by decide)))), nX.c (((hF19964.1 174 1 (by decide)).trans (hF19923.1 174 1 (by decide))))] at tok20091
                have hT20092 := hr20089.1
                have x20093 := rX.e hI20077 (b := 4) ((((hF20078.1 176 4 (by decide)).trans (hF20062.1 176 4 (by decide))).trans hv19978))
                obtain ⟨v20094, hv20094⟩ : ∃ v, gI g20085 176 4 = v := ⟨_, rfl⟩
                have rv20094 := RgF.at hI20086.2.1 (p := 176) (b := 4) rfl
                rw [hv20094] at rv20094
                dsimp only at rv20094
                have tv20094 := congrArg Int32.toInt hv20094
                have x20095 := rX.e hI20086 (b := 4) (hv20094)
                refine At.enter rfl ?_
                refine r_iload_n (w_p1 (by decide) (Or.inr rfl) e19928) ?_
                refine r_ifs 115 rfl (fun c20096 => ?_) (fun c20096 => ?_)
                · have c20096_ : a1.toInt = 0 := en_k_eq_t c20096
                  refine At.enter rfl ?_
                  refine r_aload_n (w_p1 (by decide) (Or.inr rfl) e19927) ?_
                  refine q_getR (Sh.ref hI20086.1 kx_176 rfl) ?_
                  refine r_iload_n (w_e1 _ _ _) ?_
                  refine r_iconst 0 rfl ?_
                  refine r_callV 129 rfl [.ref 177, .int v20079, .int 0] [] (Nat.le_of_ble_eq_true rfl) rfl (zT_X4_add_177 _ hI20086 v20079 0) ?_
                  rintro _ _ ⟨g20097, rfl, hI20098, hF20099, v20100, rfl, hr20101⟩
                  refine At.sti ?_
                  have hF20102 := Fr.tr hF20090 hF20099 rfl rfl
                  refine At.enter rfl ?_
                  refine r_goto ?_
                  refine At.enter rfl ?_
                  refine r_istore _ rfl ?_
                  refine q_iinc (w_p1 (by decide) (Or.inr rfl) (w_p1 (by decide) (Or.inr rfl) e19932)) (x19920.toInt + 1) rfl (by omega) (fun v20103 hv20103 => ?_)
                  refine r_goto ?_
                  have x20104 := rX.e hI19922 (b := 4) (hv19946)
                  have x20105 := rX.e hI19963 (b := 2) (hv19976)
                  have x20106 := rX.e hI19963 (b := 4) (hv19978)
                  have x20107 := rX.e hI20086 (b := 4) (hv20094)
                  have x20108 := rX.e hI20098 (b := 4) (((hF20099.1 176 4 (by decide)).trans hv20094))
                  have y20109 := (o19969.2.2 (by omega)).2
                  have y20110 := ((PRG0.step o19968 tok20091_ (rX.c (b := 2) (((hF20087.1 176 2 (by decide)).trans ((hF20078.1 176 2 (by decide)).trans (hF20062.1 176 2 (by decide)))))) (JN.ne i20084)).2.2 (by rw [(rX.c (b := 2) (((hF20087.1 176 2 (by decide)).trans ((hF20078.1 176 2 (by decide)).trans (hF20062.1 176 2 (by decide))))))]; omega)).2
                  exact ih19926 (400 - v20103.toInt) _ _ ⟨v20079, v20100, v20103, by first | rfl | omega, hI20098, hF20102, (w_p1 (by decide) (Or.inr rfl) (w_p1 (by decide) (Or.inr rfl) (w_p1 (by decide) (Or.inr rfl) e19927))), (w_p1 (by decide) (Or.inr rfl) (w_p1 (by decide) (Or.inr rfl) (w_p1 (by decide) (Or.inr rfl) e19928))), (w_p1 (by decide) (Or.inr rfl) (w_p1 (by decide) (Or.inr rfl) (w_p1 (by decide) (Or.inr rfl) e19929))), (w_p1 (by decide) (Or.inr rfl) (w_p1 (by decide) (Or.inr rfl) (w_e1 _ _ _))), (w_p1 (by decide) (Or.inr rfl) (w_e1 _ _ _)), (w_e1 _ _ _), by omega, by omega, by omega, (TKX.c hT20092 ((hF20099.2.1 175 (by decide))) ((hF20099.1 174 1 (by decide))) ((hF20099.1 176 3 (by decide))) ((hF20099.1 176 4 (by decide))) ((hF20099.1 176 5 (by decide)))), (LPI.eq (LPI.next q19937 (OPD.join o19975 (by omega)) tok20091 i20084 ⟨by omega, by omega⟩ (rX.c (b := 2) (((hF20087.1 176 2 (by decide)).trans ((hF20078.1 176 2 (by decide)).trans (hF20062.1 176 2 (by decide)))))) (rX.c (b := 6) (((hF20087.1 176 6 (by decide)).trans ((hF20078.1 176 6 (by decide)).trans (hF20062.1 176 6 (by decide))))))) (rX.c (b := 2) ((hF20099.1 176 2 (by decide)))) (rX.c (b := 4) ((hF20099.1 176 4 (by decide)))) (rX.c (b := 6) ((hF20099.1 176 6 (by decide))))), ((PRG0.tr q19938 (PRG0.tr o19969 (PRG0.tr (PRG0.step o19968 tok20091_ (rX.c (b := 2) (((hF20087.1 176 2 (by decide)).trans ((hF20078.1 176 2 (by decide)).trans (hF20062.1 176 2 (by decide)))))) (JN.ne i20084)) (PRG0.eq (rX.c (b := 4) ((hF20099.1 176 4 (by decide)))) (rX.c (b := 2) ((hF20099.1 176 2 (by decide)))))))).le (by omega)), by omega⟩ ⟨by omega, by omega⟩
                · have c20096_ : a1.toInt ≠ 0 := en_k_eq_f c20096
                  refine At.enter rfl ?_
                  refine r_iload_n (w_p1 (by decide) (Or.inr rfl) e19928) ?_
                  refine r_iconst 1 rfl ?_
                  refine r_ics 120 rfl (fun c20111 => ?_) (fun c20111 => ?_)
                  · have c20111_ : a1.toInt ≠ 1 := en_i_ne_t c20111
                    refine At.enter rfl ?_
                    refine r_iconst (-1) rfl ?_
                    refine Ar.fall 133 rfl ?_
                    refine At.enter rfl ?_
                    refine r_istore _ rfl ?_
                    refine q_iinc (w_p1 (by decide) (Or.inr rfl) (w_p1 (by decide) (Or.inr rfl) e19932)) (x19920.toInt + 1) rfl (by omega) (fun v20112 hv20112 => ?_)
                    refine r_goto ?_
                    have x20113 := rX.e hI19922 (b := 4) (hv19946)
                    have x20114 := rX.e hI19963 (b := 2) (hv19976)
                    have x20115 := rX.e hI19963 (b := 4) (hv19978)
                    have x20116 := rX.e hI20086 (b := 4) (hv20094)
                    have x20117 := rX.e hI20086 (b := 4) (hv20094)
                    have y20118 := (o19969.2.2 (by omega)).2
                    have y20119 := ((PRG0.step o19968 tok20091_ (rX.c (b := 2) (((hF20087.1 176 2 (by decide)).trans ((hF20078.1 176 2 (by decide)).trans (hF20062.1 176 2 (by decide)))))) (JN.ne i20084)).2.2 (by rw [(rX.c (b := 2) (((hF20087.1 176 2 (by decide)).trans ((hF20078.1 176 2 (by decide)).trans (hF20062.1 176 2 (by decide))))))]; omega)).2
                    exact ih19926 (400 - v20112.toInt) _ _ ⟨v20079, (-1), v20112, by first | rfl | omega, hI20086, hF20090, (w_p1 (by decide) (Or.inr rfl) (w_p1 (by decide) (Or.inr rfl) (w_p1 (by decide) (Or.inr rfl) e19927))), (w_p1 (by decide) (Or.inr rfl) (w_p1 (by decide) (Or.inr rfl) (w_p1 (by decide) (Or.inr rfl) e19928))), (w_p1 (by decide) (Or.inr rfl) (w_p1 (by decide) (Or.inr rfl) (w_p1 (by decide) (Or.inr rfl) e19929))), (w_p1 (by decide) (Or.inr rfl) (w_p1 (by decide) (Or.inr rfl) (w_e1 _ _ _))), (w_p1 (by decide) (Or.inr rfl) (w_e1 _ _ _)), (w_e1 _ _ _), by omega, by decide, by omega, hT20092, (LPI.eq (LPI.next q19937 (OPD.join o19975 (by omega)) tok20091 i20084 ⟨by omega, by omega⟩ (rX.c (b := 2) (((hF20087.1 176 2 (by decide)).trans ((hF20078.1 176 2 (by decide)).trans (hF20062.1 176 2 (by decide)))))) (rX.c (b := 6) (((hF20087.1 176 6 (by decide)).trans ((hF20078.1 176 6 (by decide)).trans (hF20062.1 176 6 (by decide))))))) rfl rfl rfl), ((PRG0.tr q19938 (PRG0.tr o19969 (PRG0.tr (PRG0.step o19968 tok20091_ (rX.c (b := 2) (((hF20087.1 176 2 (by decide)).trans ((hF20078.1 176 2 (by decide)).trans (hF20062.1 176 2 (by decide)))))) (JN.ne i20084)) (PRG0.eq rfl rfl)))).le (by omega)), by omega⟩ ⟨by omega, by omega⟩
                  · have c20111_ : a1.toInt = 1 := en_i_ne_f c20111
                    refine At.enter rfl ?_
                    refine r_aload_n (w_p1 (by decide) (Or.inr rfl) e19927) ?_
                    refine q_getR (Sh.ref hI20086.1 kx_176 rfl) ?_
                    refine r_iload_n (w_e1 _ _ _) ?_
                    refine r_iconst 0 rfl ?_
                    refine r_callV 129 rfl [.ref 177, .int v20079, .int 0] [] (Nat.le_of_ble_eq_true rfl) rfl (zT_X4_add_177 _ hI20086 v20079 0) ?_
                    rintro _ _ ⟨g20120, rfl, hI20121, hF20122, v20123, rfl, hr20124⟩
                    refine At.sti ?_
                    have hF20125 := Fr.tr hF20090 hF20122 rfl rfl
                    refine At.enter rfl ?_
                    refine r_goto ?_
                    refine At.enter rfl ?_
                    refine r_istore _ rfl ?_
                    refine q_iinc (w_p1 (by decide) (Or.inr rfl) (w_p1 (by decide) (Or.inr rfl) e19932)) (x19920.toInt + 1) rfl (by omega) (fun v20126 hv20126 => ?_)
                    refine r_goto ?_
                    have x20127 := rX.e hI19922 (b := 4) (hv19946)
                    have x20128 := rX.e hI19963 (b := 2) (hv19976)
                    have x20129 := rX.e hI19963 (b := 4) (hv19978)
                    have x20130 := rX.e hI20086 (b := 4) (hv20094)
                    have x20131 := rX.e hI20121 (b := 4) (((hF20122.1 176 4 (by decide)).trans hv20094))
                    have y20132 := (o19969.2.2 (by omega)).2
                    have y20133 := ((PRG0.step o19968 tok20091_ (rX.c (b := 2) (((hF20087.1 176 2 (by decide)).trans ((hF20078.1 176 2 (by decide)).trans (hF20062.1 176 2 (by decide)))))) (JN.ne i20084)).2.2 (by rw [(rX.c (b := 2) (((hF20087.1 176 2 (by decide)).trans ((hF20078.1 176 2 (by decide)).trans (hF20062.1 176 2 (by decide))))))]; omega)).2
                    exact ih19926 (400 - v20126.toInt) _ _ ⟨v20079, v20123, v20126, by first | rfl | omega, hI20121, hF20125, (w_p1 (by decide) (Or.inr rfl) (w_p1 (by decide) (Or.inr rfl) (w_p1 (by decide) (Or.inr rfl) e19927))), (w_p1 (by decide) (Or.inr rfl) (w_p1 (by decide) (Or.inr rfl) (w_p1 (by decide) (Or.inr rfl) e19928))), (w_p1 (by decide) (Or.inr rfl) (w_p1 (by decide) (Or.inr rfl) (w_p1 (by decide) (Or.inr rfl) e19929))), (w_p1 (by decide) (Or.inr rfl) (w_p1 (by decide) (Or.inr rfl) (w_e1 _ _ _))), (w_p1 (by decide) (Or.inr rfl) (w_e1 _ _ _)), (w_e1 _ _ _), by omega, by omega, by omega, (TKX.c hT20092 ((hF20122.2.1 175 (by decide))) ((hF20122.1 174 1 (by decide))) ((hF20122.1 176 3 (by decide))) ((hF20122.1 176 4 (by decide))) ((hF20122.1 176 5 (by decide)))), (LPI.eq (LPI.next q19937 (OPD.join o19975 (by omega)) tok20091 i20084 ⟨by omega, by omega⟩ (rX.c (b := 2) (((hF20087.1 176 2 (by decide)).trans ((hF20078.1 176 2 (by decide)).trans (hF20062.1 176 2 (by decide)))))) (rX.c (b := 6) (((hF20087.1 176 6 (by decide)).trans ((hF20078.1 176 6 (by decide)).trans (hF20062.1 176 6 (by decide))))))) (rX.c (b := 2) ((hF20122.1 176 2 (by decide)))) (rX.c (b := 4) ((hF20122.1 176 4 (by decide)))) (rX.c (b := 6) ((hF20122.1 176 6 (by decide))))), ((PRG0.tr q19938 (PRG0.tr o19969 (PRG0.tr (PRG0.step o19968 tok20091_ (rX.c (b := 2) (((hF20087.1 176 2 (by decide)).trans ((hF20078.1 176 2 (by decide)).trans (hF20062.1 176 2 (by decide)))))) (JN.ne i20084)) (PRG0.eq (rX.c (b := 4) ((hF20122.1 176 4 (by decide)))) (rX.c (b := 2) ((hF20122.1 176 2 (by decide)))))))).le (by omega)), by omega⟩ ⟨by omega, by omega⟩
              · have c20083_ : v20079.toInt = (-1) := en_i_ne_f c20083
                have i20134 := BLN.no hb20082 (by omega)
                refine At.enter rfl ?_
                refine r_vret ?_
                have x20135 := rX.e hI20077 (b := 2) ((((hF20078.1 176 2 (by decide)).trans (hF20062.1 176 2 (by decide))).trans hv19976))
                have x20136 := rX.e hI20077 (b := 4) ((((hF20078.1 176 4 (by decide)).trans (hF20062.1 176 4 (by decide))).trans hv19978))
                obtain ⟨v20137, hv20137⟩ : ∃ v, gI g19962 176 6 = v := ⟨_, rfl⟩
                have tv20137 := congrArg Int32.toInt hv20137
                have x20138 := rX.e hI20077 (b := 6) ((((hF20078.1 176 6 (by decide)).trans (hF20062.1 176 6 (by decide))).trans hv20137))
                obtain ⟨v20139, hv20139⟩ : ∃ v, gI g0 176 2 = v := ⟨_, rfl⟩
                have tv20139 := congrArg Int32.toInt hv20139
                have x20140 := rX.e hI0 (b := 2) (hv20139)
                have x20141 := rX.e hI0 (b := 4) (hv19943)
                have x20142 := rX.e hI19922 (b := 2) (hv19972)
                have x20143 := rX.e hI19922 (b := 4) (hv19946)
                exact ⟨_, rfl, hI20077, hF20081, rfl, ⟨(TKX.c o19968 (((hF20078.2.1 175 (by decide)).trans (hF20062.2.1 175 (by decide)))) (((hF20078.1 174 1 (by decide)).trans (hF20062.1 174 1 (by decide)))) (((hF20078.1 176 3 (by decide)).trans (hF20062.1 176 3 (by decide)))) (((hF20078.1 176 4 (by decide)).trans (hF20062.1 176 4 (by decide)))) (((hF20078.1 176 5 (by decide)).trans (hF20062.1 176 5 (by decide))))), (PRG0.tr q19938 (PRG0.tr o19969 (PRG0.eq (rX.c (b := 4) (((hF20078.1 176 4 (by decide)).trans (hF20062.1 176 4 (by decide))))) (rX.c (b := 2) (((hF20078.1 176 2 (by decide)).trans (hF20062.1 176 2 (by decide)))))))).le (by omega), LPI.end_ q19937 (OPD.join o19975 (by omega)) (rX.c (b := 2) (((hF20078.1 176 2 (by decide)).trans (hF20062.1 176 2 (by decide))))) (rX.c (b := 4) (((hF20078.1 176 4 (by decide)).trans (hF20062.1 176 4 (by decide))))) (rX.c (b := 6) (((hF20078.1 176 6 (by decide)).trans (hF20062.1 176 6 (by decide))))), (fun hz => (by rw [CDX.c (((hF20078.2.1 175 (by decide)).trans (hF20062.2.1 175 (by decide)))) (((hF20078.1 176 3 (by decide)).trans (hF20062.1 176 3 (by decide)))) (((hF20078.1 176 4 (by decide)).trans (hF20062.1 176 4 (by decide)))) (((hF20078.1 176 5 (by decide)).trans (hF20062.1 176 5 (by decide))))]; exact NJ.mk (o19971 (by omega)) (by omega) i20134))⟩⟩
        · have c19980_ : x19919.toInt ≠ (-1) := en_i_eq_f c19980
          refine At.enter rfl ?_
          refine r_aload_n e19927 ?_
          refine q_getR (Sh.ref hI19963.1 kx_176 rfl) ?_
          refine r_iload e19931 ?_
          refine r_callV 65 rfl [.ref 177, .int x19919] [] (Nat.le_of_ble_eq_true rfl) rfl (zT_X4_aimAtEnd_177 _ hI19963 x19919) ?_
          rintro _ _ ⟨g20144, rfl, hI20145, hF20146, rfl⟩
          refine At.stn ?_
          have hF20149 := Fr.tr hF19967 hF20146 rfl rfl
          refine At.enter rfl ?_
          refine r_goto ?_
          refine At.enter rfl ?_
          refine r_aload_n e19927 ?_
          refine q_getI (Sh.int hI20145.1 kx_176 rfl) v19976 ((hF20146.1 176 2 (by decide)).trans hv19976) ?_
          refine r_iconst (-1) rfl ?_
          refine r_ics 91 rfl (fun c20150 => ?_) (fun c20150 => ?_)
          · have c20150_ : v19976.toInt ≠ (-1) := en_i_ne_t c20150
            refine At.enter rfl ?_
            refine r_iconst (-1) rfl ?_
            refine Ar.fall 100 rfl ?_
            refine At.enter rfl ?_
            refine r_istore_n _ rfl ?_
            refine r_iload_n (w_e1 _ _ _) ?_
            refine r_iconst (-1) rfl ?_
            refine r_icf 106 rfl (by decide) ?_
            refine At.enter rfl ?_
            refine r_vret ?_
            have x20151 := rX.e hI20145 (b := 2) (((hF20146.1 176 2 (by decide)).trans hv19976))
            have x20152 := rX.e hI20145 (b := 4) (((hF20146.1 176 4 (by decide)).trans hv19978))
            obtain ⟨v20153, hv20153⟩ : ∃ v, gI g19962 176 6 = v := ⟨_, rfl⟩
            have tv20153 := congrArg Int32.toInt hv20153
            have x20154 := rX.e hI20145 (b := 6) (((hF20146.1 176 6 (by decide)).trans hv20153))
            obtain ⟨v20155, hv20155⟩ : ∃ v, gI g0 176 2 = v := ⟨_, rfl⟩
            have tv20155 := congrArg Int32.toInt hv20155
            have x20156 := rX.e hI0 (b := 2) (hv20155)
            have x20157 := rX.e hI0 (b := 4) (hv19943)
            have x20158 := rX.e hI19922 (b := 2) (hv19972)
            have x20159 := rX.e hI19922 (b := 4) (hv19946)
            exact ⟨_, rfl, hI20145, hF20149, rfl, ⟨(TKX.c o19968 ((hF20146.2.1 175 (by decide))) ((hF20146.1 174 1 (by decide))) ((hF20146.1 176 3 (by decide))) ((hF20146.1 176 4 (by decide))) ((hF20146.1 176 5 (by decide)))), (PRG0.tr q19938 (PRG0.tr o19969 (PRG0.eq (rX.c (b := 4) ((hF20146.1 176 4 (by decide)))) (rX.c (b := 2) ((hF20146.1 176 2 (by decide))))))).le (by omega), LPI.end_ q19937 (OPD.join o19975 (by omega)) (rX.c (b := 2) ((hF20146.1 176 2 (by decide)))) (rX.c (b := 4) ((hF20146.1 176 4 (by decide)))) (rX.c (b := 6) ((hF20146.1 176 6 (by decide)))), (fun hz => absurd hz (by omega))⟩⟩
          · have c20150_ : v19976.toInt = (-1) := en_i_ne_f c20150
            refine At.enter rfl ?_
            refine r_aload_n e19927 ?_
            refine r_iload_n e19928 ?_
            refine r_callV 96 rfl [.ref 176, .int a1] [] (Nat.le_of_ble_eq_true rfl) rfl (zT_X5_joinHere_176 _ hI20145 a1 (by omega) (TKX.c o19968 ((hF20146.2.1 175 (by decide))) ((hF20146.1 174 1 (by decide))) ((hF20146.1 176 3 (by decide))) ((hF20146.1 176 4 (by decide))) ((hF20146.1 176 5 (by decide))))) ?_
            rintro _ _ ⟨g20160, rfl, hI20161, hF20162, v20163, rfl, hr20164⟩
            refine At.sti ?_
            have hF20165 := Fr.tr hF20149 hF20162 rfl rfl
            have hb20166 : BLN (JN a1.toInt (CDX g19962)) v20163.toInt := by have z := hr20164.2; rw [CDX.c ((hF20146.2.1 175 (by decide))) ((hF20146.1 176 3 (by decide))) ((hF20146.1 176 4 (by decide))) ((hF20146.1 176 5 (by decide)))] at z; exact z
            refine At.enter rfl ?_
            refine r_goto ?_
            refine At.enter rfl ?_
            refine r_istore_n _ rfl ?_
            refine r_iload_n (w_e1 _ _ _) ?_
            refine r_iconst (-1) rfl ?_
            refine r_ics 106 rfl (fun c20167 => ?_) (fun c20167 => ?_)
            · have c20167_ : v20163.toInt ≠ (-1) := en_i_ne_t c20167
              have i20168 := BLN.yes hb20166 (by omega)
              refine At.enter rfl ?_
              refine r_aload_n (w_p1 (by decide) (Or.inr rfl) e19927) ?_
              refine r_callV 111 rfl [.ref 176] [] (Nat.le_of_ble_eq_true rfl) rfl (zT_X5_step_176 _ hI20161 (TKX.c o19968 (((hF20162.2.1 175 (by decide)).trans (hF20146.2.1 175 (by decide)))) (((hF20162.1 174 1 (by decide)).trans (hF20146.1 174 1 (by decide)))) (((hF20162.1 176 3 (by decide)).trans (hF20146.1 176 3 (by decide)))) (((hF20162.1 176 4 (by decide)).trans (hF20146.1 176 4 (by decide)))) (((hF20162.1 176 5 (by decide)).trans (hF20146.1 176 5 (by decide))))).1 (TKX.c o19968 (((hF20162.2.1 175 (by decide)).trans (hF20146.2.1 175 (by decide)))) (((hF20162.1 174 1 (by decide)).trans (hF20146.1 174 1 (by decide)))) (((hF20162.1 176 3 (by decide)).trans (hF20146.1 176 3 (by decide)))) (((hF20162.1 176 4 (by decide)).trans (hF20146.1 176 4 (by decide)))) (((hF20162.1 176 5 (by decide)).trans (hF20146.1 176 5 (by decide))))).2.1.le.2.1) ?_
              rintro _ _ ⟨g20169, rfl, hI20170, hF20171, rfl, hr20173⟩
              refine At.stn ?_
              have hF20174 := Fr.tr hF20165 hF20171 rfl rfl
              have tok20175_ := hr20173.2
              rw [TX.c (((hF20162.2.1 175 (by decide)).trans (hF20146.2.1 175 (by decide)))), nX.c (((hF20162.1 174 1 (by decide)).trans (hF20146.1 174 1 (by decide)))), rX.c (b := 5) (((hF20162.1 176 5 (by decide)).trans (hF20146.1 176 5 (by decide))))] at tok20175_
              have tok20175 := TKX.tok o19968 tok20175_
              rw [TX.c (((hF19964.2.1 175 (by decide)).trans (hF19923.2.1 175 (by decide)))), nX.c (((hF19964.1 174 1 (by decide)).trans (hF19923.1 174 1 (by decide))))] at tok20175
              have hT20176 := hr20173.1
              have x20177 := rX.e hI20161 (b := 4) ((((hF20162.1 176 4 (by decide)).trans (hF20146.1 176 4 (by decide))).trans hv19978))
              obtain ⟨v20178, hv20178⟩ : ∃ v, gI g20169 176 4 = v := ⟨_, rfl⟩
              have rv20178 := RgF.at hI20170.2.1 (p := 176) (b := 4) rfl
              rw [hv20178] at rv20178
              dsimp only at rv20178
              have tv20178 := congrArg Int32.toInt hv20178
              have x20179 := rX.e hI20170 (b := 4) (hv20178)
              refine At.enter rfl ?_
              refine r_iload_n (w_p1 (by decide) (Or.inr rfl) e19928) ?_
              refine r_ifs 115 rfl (fun c20180 => ?_) (fun c20180 => ?_)
              · have c20180_ : a1.toInt = 0 := en_k_eq_t c20180
                refine At.enter rfl ?_
                refine r_aload_n (w_p1 (by decide) (Or.inr rfl) e19927) ?_
                refine q_getR (Sh.ref hI20170.1 kx_176 rfl) ?_
                refine r_iload_n (w_e1 _ _ _) ?_
                refine r_iconst 0 rfl ?_
                refine r_callV 129 rfl [.ref 177, .int v20163, .int 0] [] (Nat.le_of_ble_eq_true rfl) rfl (zT_X4_add_177 _ hI20170 v20163 0) ?_
                rintro _ _ ⟨g20181, rfl, hI20182, hF20183, v20184, rfl, hr20185⟩
                refine At.sti ?_
                have hF20186 := Fr.tr hF20174 hF20183 rfl rfl
                refine At.enter rfl ?_
                refine r_goto ?_
                refine At.enter rfl ?_
                refine r_istore _ rfl ?_
                refine q_iinc (w_p1 (by decide) (Or.inr rfl) (w_p1 (by decide) (Or.inr rfl) e19932)) (x19920.toInt + 1) rfl (by omega) (fun v20187 hv20187 => ?_)
                refine r_goto ?_
                have x20188 := rX.e hI19922 (b := 4) (hv19946)
                have x20189 := rX.e hI19963 (b := 2) (hv19976)
                have x20190 := rX.e hI19963 (b := 4) (hv19978)
                have x20191 := rX.e hI20170 (b := 4) (hv20178)
                have x20192 := rX.e hI20182 (b := 4) (((hF20183.1 176 4 (by decide)).trans hv20178))
                have y20193 := (o19969.2.2 (by omega)).2
                have y20194 := ((PRG0.step o19968 tok20175_ (rX.c (b := 2) (((hF20171.1 176 2 (by decide)).trans ((hF20162.1 176 2 (by decide)).trans (hF20146.1 176 2 (by decide)))))) (JN.ne i20168)).2.2 (by rw [(rX.c (b := 2) (((hF20171.1 176 2 (by decide)).trans ((hF20162.1 176 2 (by decide)).trans (hF20146.1 176 2 (by decide))))))]; omega)).2
                exact ih19926 (400 - v20187.toInt) _ _ ⟨v20163, v20184, v20187, by first | rfl | omega, hI20182, hF20186, (w_p1 (by decide) (Or.inr rfl) (w_p1 (by decide) (Or.inr rfl) (w_p1 (by decide) (Or.inr rfl) e19927))), (w_p1 (by decide) (Or.inr rfl) (w_p1 (by decide) (Or.inr rfl) (w_p1 (by decide) (Or.inr rfl) e19928))), (w_p1 (by decide) (Or.inr rfl) (w_p1 (by decide) (Or.inr rfl) (w_p1 (by decide) (Or.inr rfl) e19929))), (w_p1 (by decide) (Or.inr rfl) (w_p1 (by decide) (Or.inr rfl) (w_e1 _ _ _))), (w_p1 (by decide) (Or.inr rfl) (w_e1 _ _ _)), (w_e1 _ _ _), by omega, by omega, by omega, (TKX.c hT20176 ((hF20183.2.1 175 (by decide))) ((hF20183.1 174 1 (by decide))) ((hF20183.1 176 3 (by decide))) ((hF20183.1 176 4 (by decide))) ((hF20183.1 176 5 (by decide)))), (LPI.eq (LPI.next q19937 (OPD.join o19975 (by omega)) tok20175 i20168 ⟨by omega, by omega⟩ (rX.c (b := 2) (((hF20171.1 176 2 (by decide)).trans ((hF20162.1 176 2 (by decide)).trans (hF20146.1 176 2 (by decide)))))) (rX.c (b := 6) (((hF20171.1 176 6 (by decide)).trans ((hF20162.1 176 6 (by decide)).trans (hF20146.1 176 6 (by decide))))))) (rX.c (b := 2) ((hF20183.1 176 2 (by decide)))) (rX.c (b := 4) ((hF20183.1 176 4 (by decide)))) (rX.c (b := 6) ((hF20183.1 176 6 (by decide))))), ((PRG0.tr q19938 (PRG0.tr o19969 (PRG0.tr (PRG0.step o19968 tok20175_ (rX.c (b := 2) (((hF20171.1 176 2 (by decide)).trans ((hF20162.1 176 2 (by decide)).trans (hF20146.1 176 2 (by decide)))))) (JN.ne i20168)) (PRG0.eq (rX.c (b := 4) ((hF20183.1 176 4 (by decide)))) (rX.c (b := 2) ((hF20183.1 176 2 (by decide)))))))).le (by omega)), by omega⟩ ⟨by omega, by omega⟩
              · have c20180_ : a1.toInt ≠ 0 := en_k_eq_f c20180
                refine At.enter rfl ?_
                refine r_iload_n (w_p1 (by decide) (Or.inr rfl) e19928) ?_
                refine r_iconst 1 rfl ?_
                refine r_ics 120 rfl (fun c20195 => ?_) (fun c20195 => ?_)
                · have c20195_ : a1.toInt ≠ 1 := en_i_ne_t c20195
                  refine At.enter rfl ?_
                  refine r_iconst (-1) rfl ?_
                  refine Ar.fall 133 rfl ?_
                  refine At.enter rfl ?_
                  refine r_istore _ rfl ?_
                  refine q_iinc (w_p1 (by decide) (Or.inr rfl) (w_p1 (by decide) (Or.inr rfl) e19932)) (x19920.toInt + 1) rfl (by omega) (fun v20196 hv20196 => ?_)
                  refine r_goto ?_
                  have x20197 := rX.e hI19922 (b := 4) (hv19946)
                  have x20198 := rX.e hI19963 (b := 2) (hv19976)
                  have x20199 := rX.e hI19963 (b := 4) (hv19978)
                  have x20200 := rX.e hI20170 (b := 4) (hv20178)
                  have x20201 := rX.e hI20170 (b := 4) (hv20178)
                  have y20202 := (o19969.2.2 (by omega)).2
                  have y20203 := ((PRG0.step o19968 tok20175_ (rX.c (b := 2) (((hF20171.1 176 2 (by decide)).trans ((hF20162.1 176 2 (by decide)).trans (hF20146.1 176 2 (by decide)))))) (JN.ne i20168)).2.2 (by rw [(rX.c (b := 2) (((hF20171.1 176 2 (by decide)).trans ((hF20162.1 176 2 (by decide)).trans (hF20146.1 176 2 (by decide))))))]; omega)).2
                  exact ih19926 (400 - v20196.toInt) _ _ ⟨v20163, (-1), v20196, by first | rfl | omega, hI20170, hF20174, (w_p1 (by decide) (Or.inr rfl) (w_p1 (by decide) (Or.inr rfl) (w_p1 (by decide) (Or.inr rfl) e19927))), (w_p1 (by decide) (Or.inr rfl) (w_p1 (by decide) (Or.inr rfl) (w_p1 (by decide) (Or.inr rfl) e19928))), (w_p1 (by decide) (Or.inr rfl) (w_p1 (by decide) (Or.inr rfl) (w_p1 (by decide) (Or.inr rfl) e19929))), (w_p1 (by decide) (Or.inr rfl) (w_p1 (by decide) (Or.inr rfl) (w_e1 _ _ _))), (w_p1 (by decide) (Or.inr rfl) (w_e1 _ _ _)), (w_e1 _ _ _), by omega, by decide, by omega, hT20176, (LPI.eq (LPI.next q19937 (OPD.join o19975 (by omega)) tok20175 i20168 ⟨by omega, by omega⟩ (rX.c (b := 2) (((hF20171.1 176 2 (by decide)).trans ((hF20162.1 176 2 (by decide)).trans (hF20146.1 176 2 (by decide)))))) (rX.c (b := 6) (((hF20171.1 176 6 (by decide)).trans ((hF20162.1 176 6 (by decide)).trans (hF20146.1 176 6 (by decide))))))) rfl rfl rfl), ((PRG0.tr q19938 (PRG0.tr o19969 (PRG0.tr (PRG0.step o19968 tok20175_ (rX.c (b := 2) (((hF20171.1 176 2 (by decide)).trans ((hF20162.1 176 2 (by decide)).trans (hF20146.1 176 2 (by decide)))))) (JN.ne i20168)) (PRG0.eq rfl rfl)))).le (by omega)), by omega⟩ ⟨by omega, by omega⟩
                · have c20195_ : a1.toInt = 1 := en_i_ne_f c20195
                  refine At.enter rfl ?_
                  refine r_aload_n (w_p1 (by decide) (Or.inr rfl) e19927) ?_
                  refine q_getR (Sh.ref hI20170.1 kx_176 rfl) ?_
                  refine r_iload_n (w_e1 _ _ _) ?_
                  refine r_iconst 0 rfl ?_
                  refine r_callV 129 rfl [.ref 177, .int v20163, .int 0] [] (Nat.le_of_ble_eq_true rfl) rfl (zT_X4_add_177 _ hI20170 v20163 0) ?_
                  rintro _ _ ⟨g20204, rfl, hI20205, hF20206, v20207, rfl, hr20208⟩
                  refine At.sti ?_
                  have hF20209 := Fr.tr hF20174 hF20206 rfl rfl
                  refine At.enter rfl ?_
                  refine r_goto ?_
                  refine At.enter rfl ?_
                  refine r_istore _ rfl ?_
                  refine q_iinc (w_p1 (by decide) (Or.inr rfl) (w_p1 (by decide) (Or.inr rfl) e19932)) (x19920.toInt + 1) rfl (by omega) (fun v20210 hv20210 => ?_)
                  refine r_goto ?_
                  have x20211 := rX.e hI19922 (b := 4) (hv19946)
                  have x20212 := rX.e hI19963 (b := 2) (hv19976)
                  have x20213 := rX.e hI19963 (b := 4) (hv19978)
                  have x20214 := rX.e hI20170 (b := 4) (hv20178)
                  have x20215 := rX.e hI20205 (b := 4) (((hF20206.1 176 4 (by decide)).trans hv20178))
                  have y20216 := (o19969.2.2 (by omega)).2
                  have y20217 := ((PRG0.step o19968 tok20175_ (rX.c (b := 2) (((hF20171.1 176 2 (by decide)).trans ((hF20162.1 176 2 (by decide)).trans (hF20146.1 176 2 (by decide)))))) (JN.ne i20168)).2.2 (by rw [(rX.c (b := 2) (((hF20171.1 176 2 (by decide)).trans ((hF20162.1 176 2 (by decide)).trans (hF20146.1 176 2 (by decide))))))]; omega)).2
                  exact ih19926 (400 - v20210.toInt) _ _ ⟨v20163, v20207, v20210, by first | rfl | omega, hI20205, hF20209, (w_p1 (by decide) (Or.inr rfl) (w_p1 (by decide) (Or.inr rfl) (w_p1 (by decide) (Or.inr rfl) e19927))), (w_p1 (by decide) (Or.inr rfl) (w_p1 (by decide) (Or.inr rfl) (w_p1 (by decide) (Or.inr rfl) e19928))), (w_p1 (by decide) (Or.inr rfl) (w_p1 (by decide) (Or.inr rfl) (w_p1 (by decide) (Or.inr rfl) e19929))), (w_p1 (by decide) (Or.inr rfl) (w_p1 (by decide) (Or.inr rfl) (w_e1 _ _ _))), (w_p1 (by decide) (Or.inr rfl) (w_e1 _ _ _)), (w_e1 _ _ _), by omega, by omega, by omega, (TKX.c hT20176 ((hF20206.2.1 175 (by decide))) ((hF20206.1 174 1 (by decide))) ((hF20206.1 176 3 (by decide))) ((hF20206.1 176 4 (by decide))) ((hF20206.1 176 5 (by decide)))), (LPI.eq (LPI.next q19937 (OPD.join o19975 (by omega)) tok20175 i20168 ⟨by omega, by omega⟩ (rX.c (b := 2) (((hF20171.1 176 2 (by decide)).trans ((hF20162.1 176 2 (by decide)).trans (hF20146.1 176 2 (by decide)))))) (rX.c (b := 6) (((hF20171.1 176 6 (by decide)).trans ((hF20162.1 176 6 (by decide)).trans (hF20146.1 176 6 (by decide))))))) (rX.c (b := 2) ((hF20206.1 176 2 (by decide)))) (rX.c (b := 4) ((hF20206.1 176 4 (by decide)))) (rX.c (b := 6) ((hF20206.1 176 6 (by decide))))), ((PRG0.tr q19938 (PRG0.tr o19969 (PRG0.tr (PRG0.step o19968 tok20175_ (rX.c (b := 2) (((hF20171.1 176 2 (by decide)).trans ((hF20162.1 176 2 (by decide)).trans (hF20146.1 176 2 (by decide)))))) (JN.ne i20168)) (PRG0.eq (rX.c (b := 4) ((hF20206.1 176 4 (by decide)))) (rX.c (b := 2) ((hF20206.1 176 2 (by decide)))))))).le (by omega)), by omega⟩ ⟨by omega, by omega⟩
            · have c20167_ : v20163.toInt = (-1) := en_i_ne_f c20167
              have i20218 := BLN.no hb20166 (by omega)
              refine At.enter rfl ?_
              refine r_vret ?_
              have x20219 := rX.e hI20161 (b := 2) ((((hF20162.1 176 2 (by decide)).trans (hF20146.1 176 2 (by decide))).trans hv19976))
              have x20220 := rX.e hI20161 (b := 4) ((((hF20162.1 176 4 (by decide)).trans (hF20146.1 176 4 (by decide))).trans hv19978))
              obtain ⟨v20221, hv20221⟩ : ∃ v, gI g19962 176 6 = v := ⟨_, rfl⟩
              have tv20221 := congrArg Int32.toInt hv20221
              have x20222 := rX.e hI20161 (b := 6) ((((hF20162.1 176 6 (by decide)).trans (hF20146.1 176 6 (by decide))).trans hv20221))
              obtain ⟨v20223, hv20223⟩ : ∃ v, gI g0 176 2 = v := ⟨_, rfl⟩
              have tv20223 := congrArg Int32.toInt hv20223
              have x20224 := rX.e hI0 (b := 2) (hv20223)
              have x20225 := rX.e hI0 (b := 4) (hv19943)
              have x20226 := rX.e hI19922 (b := 2) (hv19972)
              have x20227 := rX.e hI19922 (b := 4) (hv19946)
              exact ⟨_, rfl, hI20161, hF20165, rfl, ⟨(TKX.c o19968 (((hF20162.2.1 175 (by decide)).trans (hF20146.2.1 175 (by decide)))) (((hF20162.1 174 1 (by decide)).trans (hF20146.1 174 1 (by decide)))) (((hF20162.1 176 3 (by decide)).trans (hF20146.1 176 3 (by decide)))) (((hF20162.1 176 4 (by decide)).trans (hF20146.1 176 4 (by decide)))) (((hF20162.1 176 5 (by decide)).trans (hF20146.1 176 5 (by decide))))), (PRG0.tr q19938 (PRG0.tr o19969 (PRG0.eq (rX.c (b := 4) (((hF20162.1 176 4 (by decide)).trans (hF20146.1 176 4 (by decide))))) (rX.c (b := 2) (((hF20162.1 176 2 (by decide)).trans (hF20146.1 176 2 (by decide)))))))).le (by omega), LPI.end_ q19937 (OPD.join o19975 (by omega)) (rX.c (b := 2) (((hF20162.1 176 2 (by decide)).trans (hF20146.1 176 2 (by decide))))) (rX.c (b := 4) (((hF20162.1 176 4 (by decide)).trans (hF20146.1 176 4 (by decide))))) (rX.c (b := 6) (((hF20162.1 176 6 (by decide)).trans (hF20146.1 176 6 (by decide))))), (fun hz => (by rw [CDX.c (((hF20162.2.1 175 (by decide)).trans (hF20146.2.1 175 (by decide)))) (((hF20162.1 176 3 (by decide)).trans (hF20146.1 176 3 (by decide)))) (((hF20162.1 176 4 (by decide)).trans (hF20146.1 176 4 (by decide)))) (((hF20162.1 176 5 (by decide)).trans (hF20146.1 176 5 (by decide))))]; exact NJ.mk (o19971 (by omega)) (by omega) i20218))⟩⟩
      · have c19960_ : a1.toInt = 3 := en_i_ne_f c19960
        refine At.enter rfl ?_
        refine r_aload_n e19927 ?_
        refine r_iload_n e19929 ?_
        refine r_callV 39 rfl [.ref 176, .int a2] [] (Nat.le_of_ble_eq_true rfl) rfl (IHT _ (by omega) hI19922 a2 (by omega) (by omega) q19936) ?_
        rintro _ _ ⟨g20228, rfl, hI20229, hF20230, rfl, hr20232⟩
        refine At.stn ?_
        have hF20233 := Fr.tr hF19923 hF20230 rfl rfl
        obtain ⟨v20237, hv20237⟩ : ∃ v, gI g19921 176 2 = v := ⟨_, rfl⟩
        have tv20237 := congrArg Int32.toInt hv20237
        have x20238 := rX.e hI19922 (b := 2) (hv20237)
        have x20239 := rX.e hI19922 (b := 4) (hv19946)
        obtain ⟨o20234, o20235, o20236⟩ := hr20232
        rw [TX.c ((hF19923.2.1 175 (by decide))), nX.c ((hF19923.1 174 1 (by decide)))] at o20236
        obtain ⟨v20240, hv20240⟩ : ∃ v, gI g20228 176 2 = v := ⟨_, rfl⟩
        have tv20240 := congrArg Int32.toInt hv20240
        have x20241 := rX.e hI20229 (b := 2) (hv20240)
        obtain ⟨v20242, hv20242⟩ : ∃ v, gI g20228 176 4 = v := ⟨_, rfl⟩
        have rv20242 := RgF.at hI20229.2.1 (p := 176) (b := 4) rfl
        rw [hv20242] at rv20242
        dsimp only at rv20242
        have tv20242 := congrArg Int32.toInt hv20242
        have x20243 := rX.e hI20229 (b := 4) (hv20242)
        refine At.enter rfl ?_
        refine r_goto ?_
        refine At.enter rfl ?_
        refine r_iload e19931 ?_
        refine r_iconst (-1) rfl ?_
        refine r_ics 56 rfl (fun c20244 => ?_) (fun c20244 => ?_)
        · have c20244_ : x19919.toInt = (-1) := en_i_eq_t c20244
          refine At.enter rfl ?_
          refine r_iload_n e19930 ?_
          refine r_iconst (-1) rfl ?_
          refine r_ics 73 rfl (fun c20245 => ?_) (fun c20245 => ?_)
          · have c20245_ : x19918.toInt = (-1) := en_i_eq_t c20245
            refine At.enter rfl ?_
            refine r_aload_n e19927 ?_
            refine q_getI (Sh.int hI20229.1 kx_176 rfl) v20240 hv20240 ?_
            refine r_iconst (-1) rfl ?_
            refine r_ics 91 rfl (fun c20246 => ?_) (fun c20246 => ?_)
            · have c20246_ : v20240.toInt ≠ (-1) := en_i_ne_t c20246
              refine At.enter rfl ?_
              refine r_iconst (-1) rfl ?_
              refine Ar.fall 100 rfl ?_
              refine At.enter rfl ?_
              refine r_istore_n _ rfl ?_
              refine r_iload_n (w_e1 _ _ _) ?_
              refine r_iconst (-1) rfl ?_
              refine r_icf 106 rfl (by decide) ?_
              refine At.enter rfl ?_
              refine r_vret ?_
              have x20247 := rX.e hI20229 (b := 2) (hv20240)
              have x20248 := rX.e hI20229 (b := 4) (hv20242)
              obtain ⟨v20249, hv20249⟩ : ∃ v, gI g20228 176 6 = v := ⟨_, rfl⟩
              have tv20249 := congrArg Int32.toInt hv20249
              have x20250 := rX.e hI20229 (b := 6) (hv20249)
              obtain ⟨v20251, hv20251⟩ : ∃ v, gI g0 176 2 = v := ⟨_, rfl⟩
              have tv20251 := congrArg Int32.toInt hv20251
              have x20252 := rX.e hI0 (b := 2) (hv20251)
              have x20253 := rX.e hI0 (b := 4) (hv19943)
              have x20254 := rX.e hI19922 (b := 2) (hv20237)
              have x20255 := rX.e hI19922 (b := 4) (hv19946)
              exact ⟨_, rfl, hI20229, hF20233, rfl, ⟨o20234, (PRG0.tr q19938 (PRG0.tr o20235 (PRG0.eq rfl rfl))).le (by omega), LPI.end_ q19937 (OPD.part o20236 (by omega)) rfl rfl rfl, (fun hz => absurd hz (by omega))⟩⟩
            · have c20246_ : v20240.toInt = (-1) := en_i_ne_f c20246
              refine At.enter rfl ?_
              refine r_aload_n e19927 ?_
              refine r_iload_n e19928 ?_
              refine r_callV 96 rfl [.ref 176, .int a1] [] (Nat.le_of_ble_eq_true rfl) rfl (zT_X5_joinHere_176 _ hI20229 a1 (by omega) o20234) ?_
              rintro _ _ ⟨g20256, rfl, hI20257, hF20258, v20259, rfl, hr20260⟩
              refine At.sti ?_
              have hF20261 := Fr.tr hF20233 hF20258 rfl rfl
              have hb20262 : BLN (JN a1.toInt (CDX g20228)) v20259.toInt := hr20260.2
              refine At.enter rfl ?_
              refine r_goto ?_
              refine At.enter rfl ?_
              refine r_istore_n _ rfl ?_
              refine r_iload_n (w_e1 _ _ _) ?_
              refine r_iconst (-1) rfl ?_
              refine r_ics 106 rfl (fun c20263 => ?_) (fun c20263 => ?_)
              · have c20263_ : v20259.toInt ≠ (-1) := en_i_ne_t c20263
                have i20264 := BLN.yes hb20262 (by omega)
                refine At.enter rfl ?_
                refine r_aload_n (w_p1 (by decide) (Or.inr rfl) e19927) ?_
                refine r_callV 111 rfl [.ref 176] [] (Nat.le_of_ble_eq_true rfl) rfl (zT_X5_step_176 _ hI20257 (TKX.c o20234 ((hF20258.2.1 175 (by decide))) ((hF20258.1 174 1 (by decide))) ((hF20258.1 176 3 (by decide))) ((hF20258.1 176 4 (by decide))) ((hF20258.1 176 5 (by decide)))).1 (TKX.c o20234 ((hF20258.2.1 175 (by decide))) ((hF20258.1 174 1 (by decide))) ((hF20258.1 176 3 (by decide))) ((hF20258.1 176 4 (by decide))) ((hF20258.1 176 5 (by decide)))).2.1.le.2.1) ?_
                rintro _ _ ⟨g20265, rfl, hI20266, hF20267, rfl, hr20269⟩
                refine At.stn ?_
                have hF20270 := Fr.tr hF20261 hF20267 rfl rfl
                have tok20271_ := hr20269.2
                rw [TX.c ((hF20258.2.1 175 (by decide))), nX.c ((hF20258.1 174 1 (by decide))), rX.c (b := 5) ((hF20258.1 176 5 (by decide)))] at tok20271_
                have tok20271 := TKX.tok o20234 tok20271_
                rw [TX.c (((hF20230.2.1 175 (by decide)).trans (hF19923.2.1 175 (by decide)))), nX.c (((hF20230.1 174 1 (by decide)).trans (hF19923.1 174 1 (by decide))))] at tok20271
                have hT20272 := hr20269.1
                have x20273 := rX.e hI20257 (b := 4) (((hF20258.1 176 4 (by decide)).trans hv20242))
                obtain ⟨v20274, hv20274⟩ : ∃ v, gI g20265 176 4 = v := ⟨_, rfl⟩
                have rv20274 := RgF.at hI20266.2.1 (p := 176) (b := 4) rfl
                rw [hv20274] at rv20274
                dsimp only at rv20274
                have tv20274 := congrArg Int32.toInt hv20274
                have x20275 := rX.e hI20266 (b := 4) (hv20274)
                refine At.enter rfl ?_
                refine r_iload_n (w_p1 (by decide) (Or.inr rfl) e19928) ?_
                refine r_ifs 115 rfl (fun c20276 => ?_) (fun c20276 => ?_)
                · have c20276_ : a1.toInt = 0 := en_k_eq_t c20276
                  exfalso; omega
                · have c20276_ : a1.toInt ≠ 0 := en_k_eq_f c20276
                  refine At.enter rfl ?_
                  refine r_iload_n (w_p1 (by decide) (Or.inr rfl) e19928) ?_
                  refine r_iconst 1 rfl ?_
                  refine r_ics 120 rfl (fun c20277 => ?_) (fun c20277 => ?_)
                  · have c20277_ : a1.toInt ≠ 1 := en_i_ne_t c20277
                    refine At.enter rfl ?_
                    refine r_iconst (-1) rfl ?_
                    refine Ar.fall 133 rfl ?_
                    refine At.enter rfl ?_
                    refine r_istore _ rfl ?_
                    refine q_iinc (w_p1 (by decide) (Or.inr rfl) (w_p1 (by decide) (Or.inr rfl) e19932)) (x19920.toInt + 1) rfl (by omega) (fun v20278 hv20278 => ?_)
                    refine r_goto ?_
                    have x20279 := rX.e hI19922 (b := 4) (hv19946)
                    have x20280 := rX.e hI20229 (b := 2) (hv20240)
                    have x20281 := rX.e hI20229 (b := 4) (hv20242)
                    have x20282 := rX.e hI20266 (b := 4) (hv20274)
                    have x20283 := rX.e hI20266 (b := 4) (hv20274)
                    have y20284 := (o20235.2.2 (by omega)).2
                    have y20285 := ((PRG0.step o20234 tok20271_ (rX.c (b := 2) (((hF20267.1 176 2 (by decide)).trans (hF20258.1 176 2 (by decide))))) (JN.ne i20264)).2.2 (by rw [(rX.c (b := 2) (((hF20267.1 176 2 (by decide)).trans (hF20258.1 176 2 (by decide)))))]; omega)).2
                    exact ih19926 (400 - v20278.toInt) _ _ ⟨v20259, (-1), v20278, by first | rfl | omega, hI20266, hF20270, (w_p1 (by decide) (Or.inr rfl) (w_p1 (by decide) (Or.inr rfl) (w_p1 (by decide) (Or.inr rfl) e19927))), (w_p1 (by decide) (Or.inr rfl) (w_p1 (by decide) (Or.inr rfl) (w_p1 (by decide) (Or.inr rfl) e19928))), (w_p1 (by decide) (Or.inr rfl) (w_p1 (by decide) (Or.inr rfl) (w_p1 (by decide) (Or.inr rfl) e19929))), (w_p1 (by decide) (Or.inr rfl) (w_p1 (by decide) (Or.inr rfl) (w_e1 _ _ _))), (w_p1 (by decide) (Or.inr rfl) (w_e1 _ _ _)), (w_e1 _ _ _), by omega, by decide, by omega, hT20272, (LPI.eq (LPI.next q19937 (OPD.part o20236 (by omega)) tok20271 i20264 ⟨by omega, by omega⟩ (rX.c (b := 2) (((hF20267.1 176 2 (by decide)).trans (hF20258.1 176 2 (by decide))))) (rX.c (b := 6) (((hF20267.1 176 6 (by decide)).trans (hF20258.1 176 6 (by decide)))))) rfl rfl rfl), ((PRG0.tr q19938 (PRG0.tr o20235 (PRG0.tr (PRG0.step o20234 tok20271_ (rX.c (b := 2) (((hF20267.1 176 2 (by decide)).trans (hF20258.1 176 2 (by decide))))) (JN.ne i20264)) (PRG0.eq rfl rfl)))).le (by omega)), by omega⟩ ⟨by omega, by omega⟩
                  · have c20277_ : a1.toInt = 1 := en_i_ne_f c20277
                    exfalso; omega
              · have c20263_ : v20259.toInt = (-1) := en_i_ne_f c20263
                have i20286 := BLN.no hb20262 (by omega)
                refine At.enter rfl ?_
                refine r_vret ?_
                have x20287 := rX.e hI20257 (b := 2) (((hF20258.1 176 2 (by decide)).trans hv20240))
                have x20288 := rX.e hI20257 (b := 4) (((hF20258.1 176 4 (by decide)).trans hv20242))
                obtain ⟨v20289, hv20289⟩ : ∃ v, gI g20228 176 6 = v := ⟨_, rfl⟩
                have tv20289 := congrArg Int32.toInt hv20289
                have x20290 := rX.e hI20257 (b := 6) (((hF20258.1 176 6 (by decide)).trans hv20289))
                obtain ⟨v20291, hv20291⟩ : ∃ v, gI g0 176 2 = v := ⟨_, rfl⟩
                have tv20291 := congrArg Int32.toInt hv20291
                have x20292 := rX.e hI0 (b := 2) (hv20291)
                have x20293 := rX.e hI0 (b := 4) (hv19943)
                have x20294 := rX.e hI19922 (b := 2) (hv20237)
                have x20295 := rX.e hI19922 (b := 4) (hv19946)
                exact ⟨_, rfl, hI20257, hF20261, rfl, ⟨(TKX.c o20234 ((hF20258.2.1 175 (by decide))) ((hF20258.1 174 1 (by decide))) ((hF20258.1 176 3 (by decide))) ((hF20258.1 176 4 (by decide))) ((hF20258.1 176 5 (by decide)))), (PRG0.tr q19938 (PRG0.tr o20235 (PRG0.eq (rX.c (b := 4) ((hF20258.1 176 4 (by decide)))) (rX.c (b := 2) ((hF20258.1 176 2 (by decide))))))).le (by omega), LPI.end_ q19937 (OPD.part o20236 (by omega)) (rX.c (b := 2) ((hF20258.1 176 2 (by decide)))) (rX.c (b := 4) ((hF20258.1 176 4 (by decide)))) (rX.c (b := 6) ((hF20258.1 176 6 (by decide)))), (fun hz => (by rw [CDX.c ((hF20258.2.1 175 (by decide))) ((hF20258.1 176 3 (by decide))) ((hF20258.1 176 4 (by decide))) ((hF20258.1 176 5 (by decide)))]; exact NJ.mk1 (by omega) i20286))⟩⟩
          · have c20245_ : x19918.toInt ≠ (-1) := en_i_eq_f c20245
            refine At.enter rfl ?_
            refine r_aload_n e19927 ?_
            refine q_getR (Sh.ref hI20229.1 kx_176 rfl) ?_
            refine r_iload_n e19930 ?_
            refine r_iconst 0 rfl ?_
            refine r_callV 82 rfl [.ref 177, .int x19918, .int 0] [] (Nat.le_of_ble_eq_true rfl) rfl (zT_X4_add_177 _ hI20229 x19918 0) ?_
            rintro _ _ ⟨g20296, rfl, hI20297, hF20298, v20299, rfl, hr20300⟩
            refine At.sti ?_
            have hF20301 := Fr.tr hF20233 hF20298 rfl rfl
            refine At.enter rfl ?_
            refine r_pop rfl ?_
            refine Ar.fall 83 rfl ?_
            refine At.enter rfl ?_
            refine r_aload_n e19927 ?_
            refine q_getI (Sh.int hI20297.1 kx_176 rfl) v20240 ((hF20298.1 176 2 (by decide)).trans hv20240) ?_
            refine r_iconst (-1) rfl ?_
            refine r_ics 91 rfl (fun c20302 => ?_) (fun c20302 => ?_)
            · have c20302_ : v20240.toInt ≠ (-1) := en_i_ne_t c20302
              refine At.enter rfl ?_
              refine r_iconst (-1) rfl ?_
              refine Ar.fall 100 rfl ?_
              refine At.enter rfl ?_
              refine r_istore_n _ rfl ?_
              refine r_iload_n (w_e1 _ _ _) ?_
              refine r_iconst (-1) rfl ?_
              refine r_icf 106 rfl (by decide) ?_
              refine At.enter rfl ?_
              refine r_vret ?_
              have x20303 := rX.e hI20297 (b := 2) (((hF20298.1 176 2 (by decide)).trans hv20240))
              have x20304 := rX.e hI20297 (b := 4) (((hF20298.1 176 4 (by decide)).trans hv20242))
              obtain ⟨v20305, hv20305⟩ : ∃ v, gI g20228 176 6 = v := ⟨_, rfl⟩
              have tv20305 := congrArg Int32.toInt hv20305
              have x20306 := rX.e hI20297 (b := 6) (((hF20298.1 176 6 (by decide)).trans hv20305))
              obtain ⟨v20307, hv20307⟩ : ∃ v, gI g0 176 2 = v := ⟨_, rfl⟩
              have tv20307 := congrArg Int32.toInt hv20307
              have x20308 := rX.e hI0 (b := 2) (hv20307)
              have x20309 := rX.e hI0 (b := 4) (hv19943)
              have x20310 := rX.e hI19922 (b := 2) (hv20237)
              have x20311 := rX.e hI19922 (b := 4) (hv19946)
              exact ⟨_, rfl, hI20297, hF20301, rfl, ⟨(TKX.c o20234 ((hF20298.2.1 175 (by decide))) ((hF20298.1 174 1 (by decide))) ((hF20298.1 176 3 (by decide))) ((hF20298.1 176 4 (by decide))) ((hF20298.1 176 5 (by decide)))), (PRG0.tr q19938 (PRG0.tr o20235 (PRG0.eq (rX.c (b := 4) ((hF20298.1 176 4 (by decide)))) (rX.c (b := 2) ((hF20298.1 176 2 (by decide))))))).le (by omega), LPI.end_ q19937 (OPD.part o20236 (by omega)) (rX.c (b := 2) ((hF20298.1 176 2 (by decide)))) (rX.c (b := 4) ((hF20298.1 176 4 (by decide)))) (rX.c (b := 6) ((hF20298.1 176 6 (by decide)))), (fun hz => absurd hz (by omega))⟩⟩
            · have c20302_ : v20240.toInt = (-1) := en_i_ne_f c20302
              refine At.enter rfl ?_
              refine r_aload_n e19927 ?_
              refine r_iload_n e19928 ?_
              refine r_callV 96 rfl [.ref 176, .int a1] [] (Nat.le_of_ble_eq_true rfl) rfl (zT_X5_joinHere_176 _ hI20297 a1 (by omega) (TKX.c o20234 ((hF20298.2.1 175 (by decide))) ((hF20298.1 174 1 (by decide))) ((hF20298.1 176 3 (by decide))) ((hF20298.1 176 4 (by decide))) ((hF20298.1 176 5 (by decide))))) ?_
              rintro _ _ ⟨g20312, rfl, hI20313, hF20314, v20315, rfl, hr20316⟩
              refine At.sti ?_
              have hF20317 := Fr.tr hF20301 hF20314 rfl rfl
              have hb20318 : BLN (JN a1.toInt (CDX g20228)) v20315.toInt := by have z := hr20316.2; rw [CDX.c ((hF20298.2.1 175 (by decide))) ((hF20298.1 176 3 (by decide))) ((hF20298.1 176 4 (by decide))) ((hF20298.1 176 5 (by decide)))] at z; exact z
              refine At.enter rfl ?_
              refine r_goto ?_
              refine At.enter rfl ?_
              refine r_istore_n _ rfl ?_
              refine r_iload_n (w_e1 _ _ _) ?_
              refine r_iconst (-1) rfl ?_
              refine r_ics 106 rfl (fun c20319 => ?_) (fun c20319 => ?_)
              · have c20319_ : v20315.toInt ≠ (-1) := en_i_ne_t c20319
                have i20320 := BLN.yes hb20318 (by omega)
                refine At.enter rfl ?_
                refine r_aload_n (w_p1 (by decide) (Or.inr rfl) e19927) ?_
                refine r_callV 111 rfl [.ref 176] [] (Nat.le_of_ble_eq_true rfl) rfl (zT_X5_step_176 _ hI20313 (TKX.c o20234 (((hF20314.2.1 175 (by decide)).trans (hF20298.2.1 175 (by decide)))) (((hF20314.1 174 1 (by decide)).trans (hF20298.1 174 1 (by decide)))) (((hF20314.1 176 3 (by decide)).trans (hF20298.1 176 3 (by decide)))) (((hF20314.1 176 4 (by decide)).trans (hF20298.1 176 4 (by decide)))) (((hF20314.1 176 5 (by decide)).trans (hF20298.1 176 5 (by decide))))).1 (TKX.c o20234 (((hF20314.2.1 175 (by decide)).trans (hF20298.2.1 175 (by decide)))) (((hF20314.1 174 1 (by decide)).trans (hF20298.1 174 1 (by decide)))) (((hF20314.1 176 3 (by decide)).trans (hF20298.1 176 3 (by decide)))) (((hF20314.1 176 4 (by decide)).trans (hF20298.1 176 4 (by decide)))) (((hF20314.1 176 5 (by decide)).trans (hF20298.1 176 5 (by decide))))).2.1.le.2.1) ?_
                rintro _ _ ⟨g20321, rfl, hI20322, hF20323, rfl, hr20325⟩
                refine At.stn ?_
                have hF20326 := Fr.tr hF20317 hF20323 rfl rfl
                have tok20327_ := hr20325.2
                rw [TX.c (((hF20314.2.1 175 (by decide)).trans (hF20298.2.1 175 (by decide)))), nX.c (((hF20314.1 174 1 (by decide)).trans (hF20298.1 174 1 (by decide)))), rX.c (b := 5) (((hF20314.1 176 5 (by decide)).trans (hF20298.1 176 5 (by decide))))] at tok20327_
                have tok20327 := TKX.tok o20234 tok20327_
                rw [TX.c (((hF20230.2.1 175 (by decide)).trans (hF19923.2.1 175 (by decide)))), nX.c (((hF20230.1 174 1 (by decide)).trans (hF19923.1 174 1 (by decide))))] at tok20327
                have hT20328 := hr20325.1
                have x20329 := rX.e hI20313 (b := 4) ((((hF20314.1 176 4 (by decide)).trans (hF20298.1 176 4 (by decide))).trans hv20242))
                obtain ⟨v20330, hv20330⟩ : ∃ v, gI g20321 176 4 = v := ⟨_, rfl⟩
                have rv20330 := RgF.at hI20322.2.1 (p := 176) (b := 4) rfl
                rw [hv20330] at rv20330
                dsimp only at rv20330
                have tv20330 := congrArg Int32.toInt hv20330
                have x20331 := rX.e hI20322 (b := 4) (hv20330)
                refine At.enter rfl ?_
                refine r_iload_n (w_p1 (by decide) (Or.inr rfl) e19928) ?_
                refine r_ifs 115 rfl (fun c20332 => ?_) (fun c20332 => ?_)
                · have c20332_ : a1.toInt = 0 := en_k_eq_t c20332
                  exfalso; omega
                · have c20332_ : a1.toInt ≠ 0 := en_k_eq_f c20332
                  refine At.enter rfl ?_
                  refine r_iload_n (w_p1 (by decide) (Or.inr rfl) e19928) ?_
                  refine r_iconst 1 rfl ?_
                  refine r_ics 120 rfl (fun c20333 => ?_) (fun c20333 => ?_)
                  · have c20333_ : a1.toInt ≠ 1 := en_i_ne_t c20333
                    refine At.enter rfl ?_
                    refine r_iconst (-1) rfl ?_
                    refine Ar.fall 133 rfl ?_
                    refine At.enter rfl ?_
                    refine r_istore _ rfl ?_
                    refine q_iinc (w_p1 (by decide) (Or.inr rfl) (w_p1 (by decide) (Or.inr rfl) e19932)) (x19920.toInt + 1) rfl (by omega) (fun v20334 hv20334 => ?_)
                    refine r_goto ?_
                    have x20335 := rX.e hI19922 (b := 4) (hv19946)
                    have x20336 := rX.e hI20229 (b := 2) (hv20240)
                    have x20337 := rX.e hI20229 (b := 4) (hv20242)
                    have x20338 := rX.e hI20322 (b := 4) (hv20330)
                    have x20339 := rX.e hI20322 (b := 4) (hv20330)
                    have y20340 := (o20235.2.2 (by omega)).2
                    have y20341 := ((PRG0.step o20234 tok20327_ (rX.c (b := 2) (((hF20323.1 176 2 (by decide)).trans ((hF20314.1 176 2 (by decide)).trans (hF20298.1 176 2 (by decide)))))) (JN.ne i20320)).2.2 (by rw [(rX.c (b := 2) (((hF20323.1 176 2 (by decide)).trans ((hF20314.1 176 2 (by decide)).trans (hF20298.1 176 2 (by decide))))))]; omega)).2
                    exact ih19926 (400 - v20334.toInt) _ _ ⟨v20315, (-1), v20334, by first | rfl | omega, hI20322, hF20326, (w_p1 (by decide) (Or.inr rfl) (w_p1 (by decide) (Or.inr rfl) (w_p1 (by decide) (Or.inr rfl) e19927))), (w_p1 (by decide) (Or.inr rfl) (w_p1 (by decide) (Or.inr rfl) (w_p1 (by decide) (Or.inr rfl) e19928))), (w_p1 (by decide) (Or.inr rfl) (w_p1 (by decide) (Or.inr rfl) (w_p1 (by decide) (Or.inr rfl) e19929))), (w_p1 (by decide) (Or.inr rfl) (w_p1 (by decide) (Or.inr rfl) (w_e1 _ _ _))), (w_p1 (by decide) (Or.inr rfl) (w_e1 _ _ _)), (w_e1 _ _ _), by omega, by decide, by omega, hT20328, (LPI.eq (LPI.next q19937 (OPD.part o20236 (by omega)) tok20327 i20320 ⟨by omega, by omega⟩ (rX.c (b := 2) (((hF20323.1 176 2 (by decide)).trans ((hF20314.1 176 2 (by decide)).trans (hF20298.1 176 2 (by decide)))))) (rX.c (b := 6) (((hF20323.1 176 6 (by decide)).trans ((hF20314.1 176 6 (by decide)).trans (hF20298.1 176 6 (by decide))))))) rfl rfl rfl), ((PRG0.tr q19938 (PRG0.tr o20235 (PRG0.tr (PRG0.step o20234 tok20327_ (rX.c (b := 2) (((hF20323.1 176 2 (by decide)).trans ((hF20314.1 176 2 (by decide)).trans (hF20298.1 176 2 (by decide)))))) (JN.ne i20320)) (PRG0.eq rfl rfl)))).le (by omega)), by omega⟩ ⟨by omega, by omega⟩
                  · have c20333_ : a1.toInt = 1 := en_i_ne_f c20333
                    exfalso; omega
              · have c20319_ : v20315.toInt = (-1) := en_i_ne_f c20319
                have i20342 := BLN.no hb20318 (by omega)
                refine At.enter rfl ?_
                refine r_vret ?_
                have x20343 := rX.e hI20313 (b := 2) ((((hF20314.1 176 2 (by decide)).trans (hF20298.1 176 2 (by decide))).trans hv20240))
                have x20344 := rX.e hI20313 (b := 4) ((((hF20314.1 176 4 (by decide)).trans (hF20298.1 176 4 (by decide))).trans hv20242))
                obtain ⟨v20345, hv20345⟩ : ∃ v, gI g20228 176 6 = v := ⟨_, rfl⟩
                have tv20345 := congrArg Int32.toInt hv20345
                have x20346 := rX.e hI20313 (b := 6) ((((hF20314.1 176 6 (by decide)).trans (hF20298.1 176 6 (by decide))).trans hv20345))
                obtain ⟨v20347, hv20347⟩ : ∃ v, gI g0 176 2 = v := ⟨_, rfl⟩
                have tv20347 := congrArg Int32.toInt hv20347
                have x20348 := rX.e hI0 (b := 2) (hv20347)
                have x20349 := rX.e hI0 (b := 4) (hv19943)
                have x20350 := rX.e hI19922 (b := 2) (hv20237)
                have x20351 := rX.e hI19922 (b := 4) (hv19946)
                exact ⟨_, rfl, hI20313, hF20317, rfl, ⟨(TKX.c o20234 (((hF20314.2.1 175 (by decide)).trans (hF20298.2.1 175 (by decide)))) (((hF20314.1 174 1 (by decide)).trans (hF20298.1 174 1 (by decide)))) (((hF20314.1 176 3 (by decide)).trans (hF20298.1 176 3 (by decide)))) (((hF20314.1 176 4 (by decide)).trans (hF20298.1 176 4 (by decide)))) (((hF20314.1 176 5 (by decide)).trans (hF20298.1 176 5 (by decide))))), (PRG0.tr q19938 (PRG0.tr o20235 (PRG0.eq (rX.c (b := 4) (((hF20314.1 176 4 (by decide)).trans (hF20298.1 176 4 (by decide))))) (rX.c (b := 2) (((hF20314.1 176 2 (by decide)).trans (hF20298.1 176 2 (by decide)))))))).le (by omega), LPI.end_ q19937 (OPD.part o20236 (by omega)) (rX.c (b := 2) (((hF20314.1 176 2 (by decide)).trans (hF20298.1 176 2 (by decide))))) (rX.c (b := 4) (((hF20314.1 176 4 (by decide)).trans (hF20298.1 176 4 (by decide))))) (rX.c (b := 6) (((hF20314.1 176 6 (by decide)).trans (hF20298.1 176 6 (by decide))))), (fun hz => (by rw [CDX.c (((hF20314.2.1 175 (by decide)).trans (hF20298.2.1 175 (by decide)))) (((hF20314.1 176 3 (by decide)).trans (hF20298.1 176 3 (by decide)))) (((hF20314.1 176 4 (by decide)).trans (hF20298.1 176 4 (by decide)))) (((hF20314.1 176 5 (by decide)).trans (hF20298.1 176 5 (by decide))))]; exact NJ.mk1 (by omega) i20342))⟩⟩
        · have c20244_ : x19919.toInt ≠ (-1) := en_i_eq_f c20244
          refine At.enter rfl ?_
          refine r_aload_n e19927 ?_
          refine q_getR (Sh.ref hI20229.1 kx_176 rfl) ?_
          refine r_iload e19931 ?_
          refine r_callV 65 rfl [.ref 177, .int x19919] [] (Nat.le_of_ble_eq_true rfl) rfl (zT_X4_aimAtEnd_177 _ hI20229 x19919) ?_
          rintro _ _ ⟨g20352, rfl, hI20353, hF20354, rfl⟩
          refine At.stn ?_
          have hF20357 := Fr.tr hF20233 hF20354 rfl rfl
          refine At.enter rfl ?_
          refine r_goto ?_
          refine At.enter rfl ?_
          refine r_aload_n e19927 ?_
          refine q_getI (Sh.int hI20353.1 kx_176 rfl) v20240 ((hF20354.1 176 2 (by decide)).trans hv20240) ?_
          refine r_iconst (-1) rfl ?_
          refine r_ics 91 rfl (fun c20358 => ?_) (fun c20358 => ?_)
          · have c20358_ : v20240.toInt ≠ (-1) := en_i_ne_t c20358
            refine At.enter rfl ?_
            refine r_iconst (-1) rfl ?_
            refine Ar.fall 100 rfl ?_
            refine At.enter rfl ?_
            refine r_istore_n _ rfl ?_
            refine r_iload_n (w_e1 _ _ _) ?_
            refine r_iconst (-1) rfl ?_
            refine r_icf 106 rfl (by decide) ?_
            refine At.enter rfl ?_
            refine r_vret ?_
            have x20359 := rX.e hI20353 (b := 2) (((hF20354.1 176 2 (by decide)).trans hv20240))
            have x20360 := rX.e hI20353 (b := 4) (((hF20354.1 176 4 (by decide)).trans hv20242))
            obtain ⟨v20361, hv20361⟩ : ∃ v, gI g20228 176 6 = v := ⟨_, rfl⟩
            have tv20361 := congrArg Int32.toInt hv20361
            have x20362 := rX.e hI20353 (b := 6) (((hF20354.1 176 6 (by decide)).trans hv20361))
            obtain ⟨v20363, hv20363⟩ : ∃ v, gI g0 176 2 = v := ⟨_, rfl⟩
            have tv20363 := congrArg Int32.toInt hv20363
            have x20364 := rX.e hI0 (b := 2) (hv20363)
            have x20365 := rX.e hI0 (b := 4) (hv19943)
            have x20366 := rX.e hI19922 (b := 2) (hv20237)
            have x20367 := rX.e hI19922 (b := 4) (hv19946)
            exact ⟨_, rfl, hI20353, hF20357, rfl, ⟨(TKX.c o20234 ((hF20354.2.1 175 (by decide))) ((hF20354.1 174 1 (by decide))) ((hF20354.1 176 3 (by decide))) ((hF20354.1 176 4 (by decide))) ((hF20354.1 176 5 (by decide)))), (PRG0.tr q19938 (PRG0.tr o20235 (PRG0.eq (rX.c (b := 4) ((hF20354.1 176 4 (by decide)))) (rX.c (b := 2) ((hF20354.1 176 2 (by decide))))))).le (by omega), LPI.end_ q19937 (OPD.part o20236 (by omega)) (rX.c (b := 2) ((hF20354.1 176 2 (by decide)))) (rX.c (b := 4) ((hF20354.1 176 4 (by decide)))) (rX.c (b := 6) ((hF20354.1 176 6 (by decide)))), (fun hz => absurd hz (by omega))⟩⟩
          · have c20358_ : v20240.toInt = (-1) := en_i_ne_f c20358
            refine At.enter rfl ?_
            refine r_aload_n e19927 ?_
            refine r_iload_n e19928 ?_
            refine r_callV 96 rfl [.ref 176, .int a1] [] (Nat.le_of_ble_eq_true rfl) rfl (zT_X5_joinHere_176 _ hI20353 a1 (by omega) (TKX.c o20234 ((hF20354.2.1 175 (by decide))) ((hF20354.1 174 1 (by decide))) ((hF20354.1 176 3 (by decide))) ((hF20354.1 176 4 (by decide))) ((hF20354.1 176 5 (by decide))))) ?_
            rintro _ _ ⟨g20368, rfl, hI20369, hF20370, v20371, rfl, hr20372⟩
            refine At.sti ?_
            have hF20373 := Fr.tr hF20357 hF20370 rfl rfl
            have hb20374 : BLN (JN a1.toInt (CDX g20228)) v20371.toInt := by have z := hr20372.2; rw [CDX.c ((hF20354.2.1 175 (by decide))) ((hF20354.1 176 3 (by decide))) ((hF20354.1 176 4 (by decide))) ((hF20354.1 176 5 (by decide)))] at z; exact z
            refine At.enter rfl ?_
            refine r_goto ?_
            refine At.enter rfl ?_
            refine r_istore_n _ rfl ?_
            refine r_iload_n (w_e1 _ _ _) ?_
            refine r_iconst (-1) rfl ?_
            refine r_ics 106 rfl (fun c20375 => ?_) (fun c20375 => ?_)
            · have c20375_ : v20371.toInt ≠ (-1) := en_i_ne_t c20375
              have i20376 := BLN.yes hb20374 (by omega)
              refine At.enter rfl ?_
              refine r_aload_n (w_p1 (by decide) (Or.inr rfl) e19927) ?_
              refine r_callV 111 rfl [.ref 176] [] (Nat.le_of_ble_eq_true rfl) rfl (zT_X5_step_176 _ hI20369 (TKX.c o20234 (((hF20370.2.1 175 (by decide)).trans (hF20354.2.1 175 (by decide)))) (((hF20370.1 174 1 (by decide)).trans (hF20354.1 174 1 (by decide)))) (((hF20370.1 176 3 (by decide)).trans (hF20354.1 176 3 (by decide)))) (((hF20370.1 176 4 (by decide)).trans (hF20354.1 176 4 (by decide)))) (((hF20370.1 176 5 (by decide)).trans (hF20354.1 176 5 (by decide))))).1 (TKX.c o20234 (((hF20370.2.1 175 (by decide)).trans (hF20354.2.1 175 (by decide)))) (((hF20370.1 174 1 (by decide)).trans (hF20354.1 174 1 (by decide)))) (((hF20370.1 176 3 (by decide)).trans (hF20354.1 176 3 (by decide)))) (((hF20370.1 176 4 (by decide)).trans (hF20354.1 176 4 (by decide)))) (((hF20370.1 176 5 (by decide)).trans (hF20354.1 176 5 (by decide))))).2.1.le.2.1) ?_
              rintro _ _ ⟨g20377, rfl, hI20378, hF20379, rfl, hr20381⟩
              refine At.stn ?_
              have hF20382 := Fr.tr hF20373 hF20379 rfl rfl
              have tok20383_ := hr20381.2
              rw [TX.c (((hF20370.2.1 175 (by decide)).trans (hF20354.2.1 175 (by decide)))), nX.c (((hF20370.1 174 1 (by decide)).trans (hF20354.1 174 1 (by decide)))), rX.c (b := 5) (((hF20370.1 176 5 (by decide)).trans (hF20354.1 176 5 (by decide))))] at tok20383_
              have tok20383 := TKX.tok o20234 tok20383_
              rw [TX.c (((hF20230.2.1 175 (by decide)).trans (hF19923.2.1 175 (by decide)))), nX.c (((hF20230.1 174 1 (by decide)).trans (hF19923.1 174 1 (by decide))))] at tok20383
              have hT20384 := hr20381.1
              have x20385 := rX.e hI20369 (b := 4) ((((hF20370.1 176 4 (by decide)).trans (hF20354.1 176 4 (by decide))).trans hv20242))
              obtain ⟨v20386, hv20386⟩ : ∃ v, gI g20377 176 4 = v := ⟨_, rfl⟩
              have rv20386 := RgF.at hI20378.2.1 (p := 176) (b := 4) rfl
              rw [hv20386] at rv20386
              dsimp only at rv20386
              have tv20386 := congrArg Int32.toInt hv20386
              have x20387 := rX.e hI20378 (b := 4) (hv20386)
              refine At.enter rfl ?_
              refine r_iload_n (w_p1 (by decide) (Or.inr rfl) e19928) ?_
              refine r_ifs 115 rfl (fun c20388 => ?_) (fun c20388 => ?_)
              · have c20388_ : a1.toInt = 0 := en_k_eq_t c20388
                exfalso; omega
              · have c20388_ : a1.toInt ≠ 0 := en_k_eq_f c20388
                refine At.enter rfl ?_
                refine r_iload_n (w_p1 (by decide) (Or.inr rfl) e19928) ?_
                refine r_iconst 1 rfl ?_
                refine r_ics 120 rfl (fun c20389 => ?_) (fun c20389 => ?_)
                · have c20389_ : a1.toInt ≠ 1 := en_i_ne_t c20389
                  refine At.enter rfl ?_
                  refine r_iconst (-1) rfl ?_
                  refine Ar.fall 133 rfl ?_
                  refine At.enter rfl ?_
                  refine r_istore _ rfl ?_
                  refine q_iinc (w_p1 (by decide) (Or.inr rfl) (w_p1 (by decide) (Or.inr rfl) e19932)) (x19920.toInt + 1) rfl (by omega) (fun v20390 hv20390 => ?_)
                  refine r_goto ?_
                  have x20391 := rX.e hI19922 (b := 4) (hv19946)
                  have x20392 := rX.e hI20229 (b := 2) (hv20240)
                  have x20393 := rX.e hI20229 (b := 4) (hv20242)
                  have x20394 := rX.e hI20378 (b := 4) (hv20386)
                  have x20395 := rX.e hI20378 (b := 4) (hv20386)
                  have y20396 := (o20235.2.2 (by omega)).2
                  have y20397 := ((PRG0.step o20234 tok20383_ (rX.c (b := 2) (((hF20379.1 176 2 (by decide)).trans ((hF20370.1 176 2 (by decide)).trans (hF20354.1 176 2 (by decide)))))) (JN.ne i20376)).2.2 (by rw [(rX.c (b := 2) (((hF20379.1 176 2 (by decide)).trans ((hF20370.1 176 2 (by decide)).trans (hF20354.1 176 2 (by decide))))))]; omega)).2
                  exact ih19926 (400 - v20390.toInt) _ _ ⟨v20371, (-1), v20390, by first | rfl | omega, hI20378, hF20382, (w_p1 (by decide) (Or.inr rfl) (w_p1 (by decide) (Or.inr rfl) (w_p1 (by decide) (Or.inr rfl) e19927))), (w_p1 (by decide) (Or.inr rfl) (w_p1 (by decide) (Or.inr rfl) (w_p1 (by decide) (Or.inr rfl) e19928))), (w_p1 (by decide) (Or.inr rfl) (w_p1 (by decide) (Or.inr rfl) (w_p1 (by decide) (Or.inr rfl) e19929))), (w_p1 (by decide) (Or.inr rfl) (w_p1 (by decide) (Or.inr rfl) (w_e1 _ _ _))), (w_p1 (by decide) (Or.inr rfl) (w_e1 _ _ _)), (w_e1 _ _ _), by omega, by decide, by omega, hT20384, (LPI.eq (LPI.next q19937 (OPD.part o20236 (by omega)) tok20383 i20376 ⟨by omega, by omega⟩ (rX.c (b := 2) (((hF20379.1 176 2 (by decide)).trans ((hF20370.1 176 2 (by decide)).trans (hF20354.1 176 2 (by decide)))))) (rX.c (b := 6) (((hF20379.1 176 6 (by decide)).trans ((hF20370.1 176 6 (by decide)).trans (hF20354.1 176 6 (by decide))))))) rfl rfl rfl), ((PRG0.tr q19938 (PRG0.tr o20235 (PRG0.tr (PRG0.step o20234 tok20383_ (rX.c (b := 2) (((hF20379.1 176 2 (by decide)).trans ((hF20370.1 176 2 (by decide)).trans (hF20354.1 176 2 (by decide)))))) (JN.ne i20376)) (PRG0.eq rfl rfl)))).le (by omega)), by omega⟩ ⟨by omega, by omega⟩
                · have c20389_ : a1.toInt = 1 := en_i_ne_f c20389
                  exfalso; omega
            · have c20375_ : v20371.toInt = (-1) := en_i_ne_f c20375
              have i20398 := BLN.no hb20374 (by omega)
              refine At.enter rfl ?_
              refine r_vret ?_
              have x20399 := rX.e hI20369 (b := 2) ((((hF20370.1 176 2 (by decide)).trans (hF20354.1 176 2 (by decide))).trans hv20240))
              have x20400 := rX.e hI20369 (b := 4) ((((hF20370.1 176 4 (by decide)).trans (hF20354.1 176 4 (by decide))).trans hv20242))
              obtain ⟨v20401, hv20401⟩ : ∃ v, gI g20228 176 6 = v := ⟨_, rfl⟩
              have tv20401 := congrArg Int32.toInt hv20401
              have x20402 := rX.e hI20369 (b := 6) ((((hF20370.1 176 6 (by decide)).trans (hF20354.1 176 6 (by decide))).trans hv20401))
              obtain ⟨v20403, hv20403⟩ : ∃ v, gI g0 176 2 = v := ⟨_, rfl⟩
              have tv20403 := congrArg Int32.toInt hv20403
              have x20404 := rX.e hI0 (b := 2) (hv20403)
              have x20405 := rX.e hI0 (b := 4) (hv19943)
              have x20406 := rX.e hI19922 (b := 2) (hv20237)
              have x20407 := rX.e hI19922 (b := 4) (hv19946)
              exact ⟨_, rfl, hI20369, hF20373, rfl, ⟨(TKX.c o20234 (((hF20370.2.1 175 (by decide)).trans (hF20354.2.1 175 (by decide)))) (((hF20370.1 174 1 (by decide)).trans (hF20354.1 174 1 (by decide)))) (((hF20370.1 176 3 (by decide)).trans (hF20354.1 176 3 (by decide)))) (((hF20370.1 176 4 (by decide)).trans (hF20354.1 176 4 (by decide)))) (((hF20370.1 176 5 (by decide)).trans (hF20354.1 176 5 (by decide))))), (PRG0.tr q19938 (PRG0.tr o20235 (PRG0.eq (rX.c (b := 4) (((hF20370.1 176 4 (by decide)).trans (hF20354.1 176 4 (by decide))))) (rX.c (b := 2) (((hF20370.1 176 2 (by decide)).trans (hF20354.1 176 2 (by decide)))))))).le (by omega), LPI.end_ q19937 (OPD.part o20236 (by omega)) (rX.c (b := 2) (((hF20370.1 176 2 (by decide)).trans (hF20354.1 176 2 (by decide))))) (rX.c (b := 4) (((hF20370.1 176 4 (by decide)).trans (hF20354.1 176 4 (by decide))))) (rX.c (b := 6) (((hF20370.1 176 6 (by decide)).trans (hF20354.1 176 6 (by decide))))), (fun hz => (by rw [CDX.c (((hF20370.2.1 175 (by decide)).trans (hF20354.2.1 175 (by decide)))) (((hF20370.1 176 3 (by decide)).trans (hF20354.1 176 3 (by decide)))) (((hF20370.1 176 4 (by decide)).trans (hF20354.1 176 4 (by decide)))) (((hF20370.1 176 5 (by decide)).trans (hF20354.1 176 5 (by decide))))]; exact NJ.mk1 (by omega) i20398))⟩⟩
    · have c19959_ : a1.toInt = 1 := en_i_ne_f c19959
      refine At.enter rfl ?_
      refine r_aload_n e19927 ?_
      refine r_iload_n e19929 ?_
      refine r_callV 26 rfl [.ref 176, .int a2] [] (Nat.le_of_ble_eq_true rfl) rfl (IHP _ (by omega) hI19922 a2 (by omega) (by omega) q19936) ?_
      rintro _ _ ⟨g20408, rfl, hI20409, hF20410, rfl, hr20412⟩
      refine At.stn ?_
      have hF20413 := Fr.tr hF19923 hF20410 rfl rfl
      obtain ⟨v20417, hv20417⟩ : ∃ v, gI g19921 176 2 = v := ⟨_, rfl⟩
      have tv20417 := congrArg Int32.toInt hv20417
      have x20418 := rX.e hI19922 (b := 2) (hv20417)
      have x20419 := rX.e hI19922 (b := 4) (hv19946)
      obtain ⟨o20414, o20415, o20416⟩ := hr20412
      rw [TX.c ((hF19923.2.1 175 (by decide))), nX.c ((hF19923.1 174 1 (by decide)))] at o20416
      obtain ⟨v20420, hv20420⟩ : ∃ v, gI g20408 176 2 = v := ⟨_, rfl⟩
      have tv20420 := congrArg Int32.toInt hv20420
      have x20421 := rX.e hI20409 (b := 2) (hv20420)
      obtain ⟨v20422, hv20422⟩ : ∃ v, gI g20408 176 4 = v := ⟨_, rfl⟩
      have rv20422 := RgF.at hI20409.2.1 (p := 176) (b := 4) rfl
      rw [hv20422] at rv20422
      dsimp only at rv20422
      have tv20422 := congrArg Int32.toInt hv20422
      have x20423 := rX.e hI20409 (b := 4) (hv20422)
      refine At.enter rfl ?_
      refine r_goto ?_
      refine At.enter rfl ?_
      refine r_iload e19931 ?_
      refine r_iconst (-1) rfl ?_
      refine r_ics 56 rfl (fun c20424 => ?_) (fun c20424 => ?_)
      · have c20424_ : x19919.toInt = (-1) := en_i_eq_t c20424
        refine At.enter rfl ?_
        refine r_iload_n e19930 ?_
        refine r_iconst (-1) rfl ?_
        refine r_ics 73 rfl (fun c20425 => ?_) (fun c20425 => ?_)
        · have c20425_ : x19918.toInt = (-1) := en_i_eq_t c20425
          refine At.enter rfl ?_
          refine r_aload_n e19927 ?_
          refine q_getI (Sh.int hI20409.1 kx_176 rfl) v20420 hv20420 ?_
          refine r_iconst (-1) rfl ?_
          refine r_ics 91 rfl (fun c20426 => ?_) (fun c20426 => ?_)
          · have c20426_ : v20420.toInt ≠ (-1) := en_i_ne_t c20426
            refine At.enter rfl ?_
            refine r_iconst (-1) rfl ?_
            refine Ar.fall 100 rfl ?_
            refine At.enter rfl ?_
            refine r_istore_n _ rfl ?_
            refine r_iload_n (w_e1 _ _ _) ?_
            refine r_iconst (-1) rfl ?_
            refine r_icf 106 rfl (by decide) ?_
            refine At.enter rfl ?_
            refine r_vret ?_
            have x20427 := rX.e hI20409 (b := 2) (hv20420)
            have x20428 := rX.e hI20409 (b := 4) (hv20422)
            obtain ⟨v20429, hv20429⟩ : ∃ v, gI g20408 176 6 = v := ⟨_, rfl⟩
            have tv20429 := congrArg Int32.toInt hv20429
            have x20430 := rX.e hI20409 (b := 6) (hv20429)
            obtain ⟨v20431, hv20431⟩ : ∃ v, gI g0 176 2 = v := ⟨_, rfl⟩
            have tv20431 := congrArg Int32.toInt hv20431
            have x20432 := rX.e hI0 (b := 2) (hv20431)
            have x20433 := rX.e hI0 (b := 4) (hv19943)
            have x20434 := rX.e hI19922 (b := 2) (hv20417)
            have x20435 := rX.e hI19922 (b := 4) (hv19946)
            exact ⟨_, rfl, hI20409, hF20413, rfl, ⟨o20414, (PRG0.tr q19938 (PRG0.tr o20415 (PRG0.eq rfl rfl))).le (by omega), LPI.end_ q19937 (OPD.plain o20416 (by omega)) rfl rfl rfl, (fun hz => absurd hz (by omega))⟩⟩
          · have c20426_ : v20420.toInt = (-1) := en_i_ne_f c20426
            refine At.enter rfl ?_
            refine r_aload_n e19927 ?_
            refine r_iload_n e19928 ?_
            refine r_callV 96 rfl [.ref 176, .int a1] [] (Nat.le_of_ble_eq_true rfl) rfl (zT_X5_joinHere_176 _ hI20409 a1 (by omega) o20414) ?_
            rintro _ _ ⟨g20436, rfl, hI20437, hF20438, v20439, rfl, hr20440⟩
            refine At.sti ?_
            have hF20441 := Fr.tr hF20413 hF20438 rfl rfl
            have hb20442 : BLN (JN a1.toInt (CDX g20408)) v20439.toInt := hr20440.2
            refine At.enter rfl ?_
            refine r_goto ?_
            refine At.enter rfl ?_
            refine r_istore_n _ rfl ?_
            refine r_iload_n (w_e1 _ _ _) ?_
            refine r_iconst (-1) rfl ?_
            refine r_ics 106 rfl (fun c20443 => ?_) (fun c20443 => ?_)
            · have c20443_ : v20439.toInt ≠ (-1) := en_i_ne_t c20443
              have i20444 := BLN.yes hb20442 (by omega)
              refine At.enter rfl ?_
              refine r_aload_n (w_p1 (by decide) (Or.inr rfl) e19927) ?_
              refine r_callV 111 rfl [.ref 176] [] (Nat.le_of_ble_eq_true rfl) rfl (zT_X5_step_176 _ hI20437 (TKX.c o20414 ((hF20438.2.1 175 (by decide))) ((hF20438.1 174 1 (by decide))) ((hF20438.1 176 3 (by decide))) ((hF20438.1 176 4 (by decide))) ((hF20438.1 176 5 (by decide)))).1 (TKX.c o20414 ((hF20438.2.1 175 (by decide))) ((hF20438.1 174 1 (by decide))) ((hF20438.1 176 3 (by decide))) ((hF20438.1 176 4 (by decide))) ((hF20438.1 176 5 (by decide)))).2.1.le.2.1) ?_
              rintro _ _ ⟨g20445, rfl, hI20446, hF20447, rfl, hr20449⟩
              refine At.stn ?_
              have hF20450 := Fr.tr hF20441 hF20447 rfl rfl
              have tok20451_ := hr20449.2
              rw [TX.c ((hF20438.2.1 175 (by decide))), nX.c ((hF20438.1 174 1 (by decide))), rX.c (b := 5) ((hF20438.1 176 5 (by decide)))] at tok20451_
              have tok20451 := TKX.tok o20414 tok20451_
              rw [TX.c (((hF20410.2.1 175 (by decide)).trans (hF19923.2.1 175 (by decide)))), nX.c (((hF20410.1 174 1 (by decide)).trans (hF19923.1 174 1 (by decide))))] at tok20451
              have hT20452 := hr20449.1
              have x20453 := rX.e hI20437 (b := 4) (((hF20438.1 176 4 (by decide)).trans hv20422))
              obtain ⟨v20454, hv20454⟩ : ∃ v, gI g20445 176 4 = v := ⟨_, rfl⟩
              have rv20454 := RgF.at hI20446.2.1 (p := 176) (b := 4) rfl
              rw [hv20454] at rv20454
              dsimp only at rv20454
              have tv20454 := congrArg Int32.toInt hv20454
              have x20455 := rX.e hI20446 (b := 4) (hv20454)
              refine At.enter rfl ?_
              refine r_iload_n (w_p1 (by decide) (Or.inr rfl) e19928) ?_
              refine r_ifs 115 rfl (fun c20456 => ?_) (fun c20456 => ?_)
              · have c20456_ : a1.toInt = 0 := en_k_eq_t c20456
                exfalso; omega
              · have c20456_ : a1.toInt ≠ 0 := en_k_eq_f c20456
                refine At.enter rfl ?_
                refine r_iload_n (w_p1 (by decide) (Or.inr rfl) e19928) ?_
                refine r_iconst 1 rfl ?_
                refine r_ics 120 rfl (fun c20457 => ?_) (fun c20457 => ?_)
                · have c20457_ : a1.toInt ≠ 1 := en_i_ne_t c20457
                  exfalso; omega
                · have c20457_ : a1.toInt = 1 := en_i_ne_f c20457
                  refine At.enter rfl ?_
                  refine r_aload_n (w_p1 (by decide) (Or.inr rfl) e19927) ?_
                  refine q_getR (Sh.ref hI20446.1 kx_176 rfl) ?_
                  refine r_iload_n (w_e1 _ _ _) ?_
                  refine r_iconst 0 rfl ?_
                  refine r_callV 129 rfl [.ref 177, .int v20439, .int 0] [] (Nat.le_of_ble_eq_true rfl) rfl (zT_X4_add_177 _ hI20446 v20439 0) ?_
                  rintro _ _ ⟨g20458, rfl, hI20459, hF20460, v20461, rfl, hr20462⟩
                  refine At.sti ?_
                  have hF20463 := Fr.tr hF20450 hF20460 rfl rfl
                  refine At.enter rfl ?_
                  refine r_goto ?_
                  refine At.enter rfl ?_
                  refine r_istore _ rfl ?_
                  refine q_iinc (w_p1 (by decide) (Or.inr rfl) (w_p1 (by decide) (Or.inr rfl) e19932)) (x19920.toInt + 1) rfl (by omega) (fun v20464 hv20464 => ?_)
                  refine r_goto ?_
                  have x20465 := rX.e hI19922 (b := 4) (hv19946)
                  have x20466 := rX.e hI20409 (b := 2) (hv20420)
                  have x20467 := rX.e hI20409 (b := 4) (hv20422)
                  have x20468 := rX.e hI20446 (b := 4) (hv20454)
                  have x20469 := rX.e hI20459 (b := 4) (((hF20460.1 176 4 (by decide)).trans hv20454))
                  have y20470 := (o20415.2.2 (by omega)).2
                  have y20471 := ((PRG0.step o20414 tok20451_ (rX.c (b := 2) (((hF20447.1 176 2 (by decide)).trans (hF20438.1 176 2 (by decide))))) (JN.ne i20444)).2.2 (by rw [(rX.c (b := 2) (((hF20447.1 176 2 (by decide)).trans (hF20438.1 176 2 (by decide)))))]; omega)).2
                  exact ih19926 (400 - v20464.toInt) _ _ ⟨v20439, v20461, v20464, by first | rfl | omega, hI20459, hF20463, (w_p1 (by decide) (Or.inr rfl) (w_p1 (by decide) (Or.inr rfl) (w_p1 (by decide) (Or.inr rfl) e19927))), (w_p1 (by decide) (Or.inr rfl) (w_p1 (by decide) (Or.inr rfl) (w_p1 (by decide) (Or.inr rfl) e19928))), (w_p1 (by decide) (Or.inr rfl) (w_p1 (by decide) (Or.inr rfl) (w_p1 (by decide) (Or.inr rfl) e19929))), (w_p1 (by decide) (Or.inr rfl) (w_p1 (by decide) (Or.inr rfl) (w_e1 _ _ _))), (w_p1 (by decide) (Or.inr rfl) (w_e1 _ _ _)), (w_e1 _ _ _), by omega, by omega, by omega, (TKX.c hT20452 ((hF20460.2.1 175 (by decide))) ((hF20460.1 174 1 (by decide))) ((hF20460.1 176 3 (by decide))) ((hF20460.1 176 4 (by decide))) ((hF20460.1 176 5 (by decide)))), (LPI.eq (LPI.next q19937 (OPD.plain o20416 (by omega)) tok20451 i20444 ⟨by omega, by omega⟩ (rX.c (b := 2) (((hF20447.1 176 2 (by decide)).trans (hF20438.1 176 2 (by decide))))) (rX.c (b := 6) (((hF20447.1 176 6 (by decide)).trans (hF20438.1 176 6 (by decide)))))) (rX.c (b := 2) ((hF20460.1 176 2 (by decide)))) (rX.c (b := 4) ((hF20460.1 176 4 (by decide)))) (rX.c (b := 6) ((hF20460.1 176 6 (by decide))))), ((PRG0.tr q19938 (PRG0.tr o20415 (PRG0.tr (PRG0.step o20414 tok20451_ (rX.c (b := 2) (((hF20447.1 176 2 (by decide)).trans (hF20438.1 176 2 (by decide))))) (JN.ne i20444)) (PRG0.eq (rX.c (b := 4) ((hF20460.1 176 4 (by decide)))) (rX.c (b := 2) ((hF20460.1 176 2 (by decide)))))))).le (by omega)), by omega⟩ ⟨by omega, by omega⟩
            · have c20443_ : v20439.toInt = (-1) := en_i_ne_f c20443
              have i20472 := BLN.no hb20442 (by omega)
              refine At.enter rfl ?_
              refine r_vret ?_
              have x20473 := rX.e hI20437 (b := 2) (((hF20438.1 176 2 (by decide)).trans hv20420))
              have x20474 := rX.e hI20437 (b := 4) (((hF20438.1 176 4 (by decide)).trans hv20422))
              obtain ⟨v20475, hv20475⟩ : ∃ v, gI g20408 176 6 = v := ⟨_, rfl⟩
              have tv20475 := congrArg Int32.toInt hv20475
              have x20476 := rX.e hI20437 (b := 6) (((hF20438.1 176 6 (by decide)).trans hv20475))
              obtain ⟨v20477, hv20477⟩ : ∃ v, gI g0 176 2 = v := ⟨_, rfl⟩
              have tv20477 := congrArg Int32.toInt hv20477
              have x20478 := rX.e hI0 (b := 2) (hv20477)
              have x20479 := rX.e hI0 (b := 4) (hv19943)
              have x20480 := rX.e hI19922 (b := 2) (hv20417)
              have x20481 := rX.e hI19922 (b := 4) (hv19946)
              exact ⟨_, rfl, hI20437, hF20441, rfl, ⟨(TKX.c o20414 ((hF20438.2.1 175 (by decide))) ((hF20438.1 174 1 (by decide))) ((hF20438.1 176 3 (by decide))) ((hF20438.1 176 4 (by decide))) ((hF20438.1 176 5 (by decide)))), (PRG0.tr q19938 (PRG0.tr o20415 (PRG0.eq (rX.c (b := 4) ((hF20438.1 176 4 (by decide)))) (rX.c (b := 2) ((hF20438.1 176 2 (by decide))))))).le (by omega), LPI.end_ q19937 (OPD.plain o20416 (by omega)) (rX.c (b := 2) ((hF20438.1 176 2 (by decide)))) (rX.c (b := 4) ((hF20438.1 176 4 (by decide)))) (rX.c (b := 6) ((hF20438.1 176 6 (by decide)))), (fun hz => (by rw [CDX.c ((hF20438.2.1 175 (by decide))) ((hF20438.1 176 3 (by decide))) ((hF20438.1 176 4 (by decide))) ((hF20438.1 176 5 (by decide)))]; exact NJ.mk1 (by omega) i20472))⟩⟩
        · have c20425_ : x19918.toInt ≠ (-1) := en_i_eq_f c20425
          refine At.enter rfl ?_
          refine r_aload_n e19927 ?_
          refine q_getR (Sh.ref hI20409.1 kx_176 rfl) ?_
          refine r_iload_n e19930 ?_
          refine r_iconst 0 rfl ?_
          refine r_callV 82 rfl [.ref 177, .int x19918, .int 0] [] (Nat.le_of_ble_eq_true rfl) rfl (zT_X4_add_177 _ hI20409 x19918 0) ?_
          rintro _ _ ⟨g20482, rfl, hI20483, hF20484, v20485, rfl, hr20486⟩
          refine At.sti ?_
          have hF20487 := Fr.tr hF20413 hF20484 rfl rfl
          refine At.enter rfl ?_
          refine r_pop rfl ?_
          refine Ar.fall 83 rfl ?_
          refine At.enter rfl ?_
          refine r_aload_n e19927 ?_
          refine q_getI (Sh.int hI20483.1 kx_176 rfl) v20420 ((hF20484.1 176 2 (by decide)).trans hv20420) ?_
          refine r_iconst (-1) rfl ?_
          refine r_ics 91 rfl (fun c20488 => ?_) (fun c20488 => ?_)
          · have c20488_ : v20420.toInt ≠ (-1) := en_i_ne_t c20488
            refine At.enter rfl ?_
            refine r_iconst (-1) rfl ?_
            refine Ar.fall 100 rfl ?_
            refine At.enter rfl ?_
            refine r_istore_n _ rfl ?_
            refine r_iload_n (w_e1 _ _ _) ?_
            refine r_iconst (-1) rfl ?_
            refine r_icf 106 rfl (by decide) ?_
            refine At.enter rfl ?_
            refine r_vret ?_
            have x20489 := rX.e hI20483 (b := 2) (((hF20484.1 176 2 (by decide)).trans hv20420))
            have x20490 := rX.e hI20483 (b := 4) (((hF20484.1 176 4 (by decide)).trans hv20422))
            obtain ⟨v20491, hv20491⟩ : ∃ v, gI g20408 176 6 = v := ⟨_, rfl⟩
            have tv20491 := congrArg Int32.toInt hv20491
            have x20492 := rX.e hI20483 (b := 6) (((hF20484.1 176 6 (by decide)).trans hv20491))
            obtain ⟨v20493, hv20493⟩ : ∃ v, gI g0 176 2 = v := ⟨_, rfl⟩
            have tv20493 := congrArg Int32.toInt hv20493
            have x20494 := rX.e hI0 (b := 2) (hv20493)
            have x20495 := rX.e hI0 (b := 4) (hv19943)
            have x20496 := rX.e hI19922 (b := 2) (hv20417)
            have x20497 := rX.e hI19922 (b := 4) (hv19946)
            exact ⟨_, rfl, hI20483, hF20487, rfl, ⟨(TKX.c o20414 ((hF20484.2.1 175 (by decide))) ((hF20484.1 174 1 (by decide))) ((hF20484.1 176 3 (by decide))) ((hF20484.1 176 4 (by decide))) ((hF20484.1 176 5 (by decide)))), (PRG0.tr q19938 (PRG0.tr o20415 (PRG0.eq (rX.c (b := 4) ((hF20484.1 176 4 (by decide)))) (rX.c (b := 2) ((hF20484.1 176 2 (by decide))))))).le (by omega), LPI.end_ q19937 (OPD.plain o20416 (by omega)) (rX.c (b := 2) ((hF20484.1 176 2 (by decide)))) (rX.c (b := 4) ((hF20484.1 176 4 (by decide)))) (rX.c (b := 6) ((hF20484.1 176 6 (by decide)))), (fun hz => absurd hz (by omega))⟩⟩
          · have c20488_ : v20420.toInt = (-1) := en_i_ne_f c20488
            refine At.enter rfl ?_
            refine r_aload_n e19927 ?_
            refine r_iload_n e19928 ?_
            refine r_callV 96 rfl [.ref 176, .int a1] [] (Nat.le_of_ble_eq_true rfl) rfl (zT_X5_joinHere_176 _ hI20483 a1 (by omega) (TKX.c o20414 ((hF20484.2.1 175 (by decide))) ((hF20484.1 174 1 (by decide))) ((hF20484.1 176 3 (by decide))) ((hF20484.1 176 4 (by decide))) ((hF20484.1 176 5 (by decide))))) ?_
            rintro _ _ ⟨g20498, rfl, hI20499, hF20500, v20501, rfl, hr20502⟩
            refine At.sti ?_
            have hF20503 := Fr.tr hF20487 hF20500 rfl rfl
            have hb20504 : BLN (JN a1.toInt (CDX g20408)) v20501.toInt := by have z := hr20502.2; rw [CDX.c ((hF20484.2.1 175 (by decide))) ((hF20484.1 176 3 (by decide))) ((hF20484.1 176 4 (by decide))) ((hF20484.1 176 5 (by decide)))] at z; exact z
            refine At.enter rfl ?_
            refine r_goto ?_
            refine At.enter rfl ?_
            refine r_istore_n _ rfl ?_
            refine r_iload_n (w_e1 _ _ _) ?_
            refine r_iconst (-1) rfl ?_
            refine r_ics 106 rfl (fun c20505 => ?_) (fun c20505 => ?_)
            · have c20505_ : v20501.toInt ≠ (-1) := en_i_ne_t c20505
              have i20506 := BLN.yes hb20504 (by omega)
              refine At.enter rfl ?_
              refine r_aload_n (w_p1 (by decide) (Or.inr rfl) e19927) ?_
              refine r_callV 111 rfl [.ref 176] [] (Nat.le_of_ble_eq_true rfl) rfl (zT_X5_step_176 _ hI20499 (TKX.c o20414 (((hF20500.2.1 175 (by decide)).trans (hF20484.2.1 175 (by decide)))) (((hF20500.1 174 1 (by decide)).trans (hF20484.1 174 1 (by decide)))) (((hF20500.1 176 3 (by decide)).trans (hF20484.1 176 3 (by decide)))) (((hF20500.1 176 4 (by decide)).trans (hF20484.1 176 4 (by decide)))) (((hF20500.1 176 5 (by decide)).trans (hF20484.1 176 5 (by decide))))).1 (TKX.c o20414 (((hF20500.2.1 175 (by decide)).trans (hF20484.2.1 175 (by decide)))) (((hF20500.1 174 1 (by decide)).trans (hF20484.1 174 1 (by decide)))) (((hF20500.1 176 3 (by decide)).trans (hF20484.1 176 3 (by decide)))) (((hF20500.1 176 4 (by decide)).trans (hF20484.1 176 4 (by decide)))) (((hF20500.1 176 5 (by decide)).trans (hF20484.1 176 5 (by decide))))).2.1.le.2.1) ?_
              rintro _ _ ⟨g20507, rfl, hI20508, hF20509, rfl, hr20511⟩
              refine At.stn ?_
              have hF20512 := Fr.tr hF20503 hF20509 rfl rfl
              have tok20513_ := hr20511.2
              rw [TX.c (((hF20500.2.1 175 (by decide)).trans (hF20484.2.1 175 (by decide)))), nX.c (((hF20500.1 174 1 (by decide)).trans (hF20484.1 174 1 (by decide)))), rX.c (b := 5) (((hF20500.1 176 5 (by decide)).trans (hF20484.1 176 5 (by decide))))] at tok20513_
              have tok20513 := TKX.tok o20414 tok20513_
              rw [TX.c (((hF20410.2.1 175 (by decide)).trans (hF19923.2.1 175 (by decide)))), nX.c (((hF20410.1 174 1 (by decide)).trans (hF19923.1 174 1 (by decide))))] at tok20513
              have hT20514 := hr20511.1
              have x20515 := rX.e hI20499 (b := 4) ((((hF20500.1 176 4 (by decide)).trans (hF20484.1 176 4 (by decide))).trans hv20422))
              obtain ⟨v20516, hv20516⟩ : ∃ v, gI g20507 176 4 = v := ⟨_, rfl⟩
              have rv20516 := RgF.at hI20508.2.1 (p := 176) (b := 4) rfl
              rw [hv20516] at rv20516
              dsimp only at rv20516
              have tv20516 := congrArg Int32.toInt hv20516
              have x20517 := rX.e hI20508 (b := 4) (hv20516)
              refine At.enter rfl ?_
              refine r_iload_n (w_p1 (by decide) (Or.inr rfl) e19928) ?_
              refine r_ifs 115 rfl (fun c20518 => ?_) (fun c20518 => ?_)
              · have c20518_ : a1.toInt = 0 := en_k_eq_t c20518
                exfalso; omega
              · have c20518_ : a1.toInt ≠ 0 := en_k_eq_f c20518
                refine At.enter rfl ?_
                refine r_iload_n (w_p1 (by decide) (Or.inr rfl) e19928) ?_
                refine r_iconst 1 rfl ?_
                refine r_ics 120 rfl (fun c20519 => ?_) (fun c20519 => ?_)
                · have c20519_ : a1.toInt ≠ 1 := en_i_ne_t c20519
                  exfalso; omega
                · have c20519_ : a1.toInt = 1 := en_i_ne_f c20519
                  refine At.enter rfl ?_
                  refine r_aload_n (w_p1 (by decide) (Or.inr rfl) e19927) ?_
                  refine q_getR (Sh.ref hI20508.1 kx_176 rfl) ?_
                  refine r_iload_n (w_e1 _ _ _) ?_
                  refine r_iconst 0 rfl ?_
                  refine r_callV 129 rfl [.ref 177, .int v20501, .int 0] [] (Nat.le_of_ble_eq_true rfl) rfl (zT_X4_add_177 _ hI20508 v20501 0) ?_
                  rintro _ _ ⟨g20520, rfl, hI20521, hF20522, v20523, rfl, hr20524⟩
                  refine At.sti ?_
                  have hF20525 := Fr.tr hF20512 hF20522 rfl rfl
                  refine At.enter rfl ?_
                  refine r_goto ?_
                  refine At.enter rfl ?_
                  refine r_istore _ rfl ?_
                  refine q_iinc (w_p1 (by decide) (Or.inr rfl) (w_p1 (by decide) (Or.inr rfl) e19932)) (x19920.toInt + 1) rfl (by omega) (fun v20526 hv20526 => ?_)
                  refine r_goto ?_
                  have x20527 := rX.e hI19922 (b := 4) (hv19946)
                  have x20528 := rX.e hI20409 (b := 2) (hv20420)
                  have x20529 := rX.e hI20409 (b := 4) (hv20422)
                  have x20530 := rX.e hI20508 (b := 4) (hv20516)
                  have x20531 := rX.e hI20521 (b := 4) (((hF20522.1 176 4 (by decide)).trans hv20516))
                  have y20532 := (o20415.2.2 (by omega)).2
                  have y20533 := ((PRG0.step o20414 tok20513_ (rX.c (b := 2) (((hF20509.1 176 2 (by decide)).trans ((hF20500.1 176 2 (by decide)).trans (hF20484.1 176 2 (by decide)))))) (JN.ne i20506)).2.2 (by rw [(rX.c (b := 2) (((hF20509.1 176 2 (by decide)).trans ((hF20500.1 176 2 (by decide)).trans (hF20484.1 176 2 (by decide))))))]; omega)).2
                  exact ih19926 (400 - v20526.toInt) _ _ ⟨v20501, v20523, v20526, by first | rfl | omega, hI20521, hF20525, (w_p1 (by decide) (Or.inr rfl) (w_p1 (by decide) (Or.inr rfl) (w_p1 (by decide) (Or.inr rfl) e19927))), (w_p1 (by decide) (Or.inr rfl) (w_p1 (by decide) (Or.inr rfl) (w_p1 (by decide) (Or.inr rfl) e19928))), (w_p1 (by decide) (Or.inr rfl) (w_p1 (by decide) (Or.inr rfl) (w_p1 (by decide) (Or.inr rfl) e19929))), (w_p1 (by decide) (Or.inr rfl) (w_p1 (by decide) (Or.inr rfl) (w_e1 _ _ _))), (w_p1 (by decide) (Or.inr rfl) (w_e1 _ _ _)), (w_e1 _ _ _), by omega, by omega, by omega, (TKX.c hT20514 ((hF20522.2.1 175 (by decide))) ((hF20522.1 174 1 (by decide))) ((hF20522.1 176 3 (by decide))) ((hF20522.1 176 4 (by decide))) ((hF20522.1 176 5 (by decide)))), (LPI.eq (LPI.next q19937 (OPD.plain o20416 (by omega)) tok20513 i20506 ⟨by omega, by omega⟩ (rX.c (b := 2) (((hF20509.1 176 2 (by decide)).trans ((hF20500.1 176 2 (by decide)).trans (hF20484.1 176 2 (by decide)))))) (rX.c (b := 6) (((hF20509.1 176 6 (by decide)).trans ((hF20500.1 176 6 (by decide)).trans (hF20484.1 176 6 (by decide))))))) (rX.c (b := 2) ((hF20522.1 176 2 (by decide)))) (rX.c (b := 4) ((hF20522.1 176 4 (by decide)))) (rX.c (b := 6) ((hF20522.1 176 6 (by decide))))), ((PRG0.tr q19938 (PRG0.tr o20415 (PRG0.tr (PRG0.step o20414 tok20513_ (rX.c (b := 2) (((hF20509.1 176 2 (by decide)).trans ((hF20500.1 176 2 (by decide)).trans (hF20484.1 176 2 (by decide)))))) (JN.ne i20506)) (PRG0.eq (rX.c (b := 4) ((hF20522.1 176 4 (by decide)))) (rX.c (b := 2) ((hF20522.1 176 2 (by decide)))))))).le (by omega)), by omega⟩ ⟨by omega, by omega⟩
            · have c20505_ : v20501.toInt = (-1) := en_i_ne_f c20505
              have i20534 := BLN.no hb20504 (by omega)
              refine At.enter rfl ?_
              refine r_vret ?_
              have x20535 := rX.e hI20499 (b := 2) ((((hF20500.1 176 2 (by decide)).trans (hF20484.1 176 2 (by decide))).trans hv20420))
              have x20536 := rX.e hI20499 (b := 4) ((((hF20500.1 176 4 (by decide)).trans (hF20484.1 176 4 (by decide))).trans hv20422))
              obtain ⟨v20537, hv20537⟩ : ∃ v, gI g20408 176 6 = v := ⟨_, rfl⟩
              have tv20537 := congrArg Int32.toInt hv20537
              have x20538 := rX.e hI20499 (b := 6) ((((hF20500.1 176 6 (by decide)).trans (hF20484.1 176 6 (by decide))).trans hv20537))
              obtain ⟨v20539, hv20539⟩ : ∃ v, gI g0 176 2 = v := ⟨_, rfl⟩
              have tv20539 := congrArg Int32.toInt hv20539
              have x20540 := rX.e hI0 (b := 2) (hv20539)
              have x20541 := rX.e hI0 (b := 4) (hv19943)
              have x20542 := rX.e hI19922 (b := 2) (hv20417)
              have x20543 := rX.e hI19922 (b := 4) (hv19946)
              exact ⟨_, rfl, hI20499, hF20503, rfl, ⟨(TKX.c o20414 (((hF20500.2.1 175 (by decide)).trans (hF20484.2.1 175 (by decide)))) (((hF20500.1 174 1 (by decide)).trans (hF20484.1 174 1 (by decide)))) (((hF20500.1 176 3 (by decide)).trans (hF20484.1 176 3 (by decide)))) (((hF20500.1 176 4 (by decide)).trans (hF20484.1 176 4 (by decide)))) (((hF20500.1 176 5 (by decide)).trans (hF20484.1 176 5 (by decide))))), (PRG0.tr q19938 (PRG0.tr o20415 (PRG0.eq (rX.c (b := 4) (((hF20500.1 176 4 (by decide)).trans (hF20484.1 176 4 (by decide))))) (rX.c (b := 2) (((hF20500.1 176 2 (by decide)).trans (hF20484.1 176 2 (by decide)))))))).le (by omega), LPI.end_ q19937 (OPD.plain o20416 (by omega)) (rX.c (b := 2) (((hF20500.1 176 2 (by decide)).trans (hF20484.1 176 2 (by decide))))) (rX.c (b := 4) (((hF20500.1 176 4 (by decide)).trans (hF20484.1 176 4 (by decide))))) (rX.c (b := 6) (((hF20500.1 176 6 (by decide)).trans (hF20484.1 176 6 (by decide))))), (fun hz => (by rw [CDX.c (((hF20500.2.1 175 (by decide)).trans (hF20484.2.1 175 (by decide)))) (((hF20500.1 176 3 (by decide)).trans (hF20484.1 176 3 (by decide)))) (((hF20500.1 176 4 (by decide)).trans (hF20484.1 176 4 (by decide)))) (((hF20500.1 176 5 (by decide)).trans (hF20484.1 176 5 (by decide))))]; exact NJ.mk1 (by omega) i20534))⟩⟩
      · have c20424_ : x19919.toInt ≠ (-1) := en_i_eq_f c20424
        refine At.enter rfl ?_
        refine r_aload_n e19927 ?_
        refine q_getR (Sh.ref hI20409.1 kx_176 rfl) ?_
        refine r_iload e19931 ?_
        refine r_callV 65 rfl [.ref 177, .int x19919] [] (Nat.le_of_ble_eq_true rfl) rfl (zT_X4_aimAtEnd_177 _ hI20409 x19919) ?_
        rintro _ _ ⟨g20544, rfl, hI20545, hF20546, rfl⟩
        refine At.stn ?_
        have hF20549 := Fr.tr hF20413 hF20546 rfl rfl
        refine At.enter rfl ?_
        refine r_goto ?_
        refine At.enter rfl ?_
        refine r_aload_n e19927 ?_
        refine q_getI (Sh.int hI20545.1 kx_176 rfl) v20420 ((hF20546.1 176 2 (by decide)).trans hv20420) ?_
        refine r_iconst (-1) rfl ?_
        refine r_ics 91 rfl (fun c20550 => ?_) (fun c20550 => ?_)
        · have c20550_ : v20420.toInt ≠ (-1) := en_i_ne_t c20550
          refine At.enter rfl ?_
          refine r_iconst (-1) rfl ?_
          refine Ar.fall 100 rfl ?_
          refine At.enter rfl ?_
          refine r_istore_n _ rfl ?_
          refine r_iload_n (w_e1 _ _ _) ?_
          refine r_iconst (-1) rfl ?_
          refine r_icf 106 rfl (by decide) ?_
          refine At.enter rfl ?_
          refine r_vret ?_
          have x20551 := rX.e hI20545 (b := 2) (((hF20546.1 176 2 (by decide)).trans hv20420))
          have x20552 := rX.e hI20545 (b := 4) (((hF20546.1 176 4 (by decide)).trans hv20422))
          obtain ⟨v20553, hv20553⟩ : ∃ v, gI g20408 176 6 = v := ⟨_, rfl⟩
          have tv20553 := congrArg Int32.toInt hv20553
          have x20554 := rX.e hI20545 (b := 6) (((hF20546.1 176 6 (by decide)).trans hv20553))
          obtain ⟨v20555, hv20555⟩ : ∃ v, gI g0 176 2 = v := ⟨_, rfl⟩
          have tv20555 := congrArg Int32.toInt hv20555
          have x20556 := rX.e hI0 (b := 2) (hv20555)
          have x20557 := rX.e hI0 (b := 4) (hv19943)
          have x20558 := rX.e hI19922 (b := 2) (hv20417)
          have x20559 := rX.e hI19922 (b := 4) (hv19946)
          exact ⟨_, rfl, hI20545, hF20549, rfl, ⟨(TKX.c o20414 ((hF20546.2.1 175 (by decide))) ((hF20546.1 174 1 (by decide))) ((hF20546.1 176 3 (by decide))) ((hF20546.1 176 4 (by decide))) ((hF20546.1 176 5 (by decide)))), (PRG0.tr q19938 (PRG0.tr o20415 (PRG0.eq (rX.c (b := 4) ((hF20546.1 176 4 (by decide)))) (rX.c (b := 2) ((hF20546.1 176 2 (by decide))))))).le (by omega), LPI.end_ q19937 (OPD.plain o20416 (by omega)) (rX.c (b := 2) ((hF20546.1 176 2 (by decide)))) (rX.c (b := 4) ((hF20546.1 176 4 (by decide)))) (rX.c (b := 6) ((hF20546.1 176 6 (by decide)))), (fun hz => absurd hz (by omega))⟩⟩
        · have c20550_ : v20420.toInt = (-1) := en_i_ne_f c20550
          refine At.enter rfl ?_
          refine r_aload_n e19927 ?_
          refine r_iload_n e19928 ?_
          refine r_callV 96 rfl [.ref 176, .int a1] [] (Nat.le_of_ble_eq_true rfl) rfl (zT_X5_joinHere_176 _ hI20545 a1 (by omega) (TKX.c o20414 ((hF20546.2.1 175 (by decide))) ((hF20546.1 174 1 (by decide))) ((hF20546.1 176 3 (by decide))) ((hF20546.1 176 4 (by decide))) ((hF20546.1 176 5 (by decide))))) ?_
          rintro _ _ ⟨g20560, rfl, hI20561, hF20562, v20563, rfl, hr20564⟩
          refine At.sti ?_
          have hF20565 := Fr.tr hF20549 hF20562 rfl rfl
          have hb20566 : BLN (JN a1.toInt (CDX g20408)) v20563.toInt := by have z := hr20564.2; rw [CDX.c ((hF20546.2.1 175 (by decide))) ((hF20546.1 176 3 (by decide))) ((hF20546.1 176 4 (by decide))) ((hF20546.1 176 5 (by decide)))] at z; exact z
          refine At.enter rfl ?_
          refine r_goto ?_
          refine At.enter rfl ?_
          refine r_istore_n _ rfl ?_
          refine r_iload_n (w_e1 _ _ _) ?_
          refine r_iconst (-1) rfl ?_
          refine r_ics 106 rfl (fun c20567 => ?_) (fun c20567 => ?_)
          · have c20567_ : v20563.toInt ≠ (-1) := en_i_ne_t c20567
            have i20568 := BLN.yes hb20566 (by omega)
            refine At.enter rfl ?_
            refine r_aload_n (w_p1 (by decide) (Or.inr rfl) e19927) ?_
            refine r_callV 111 rfl [.ref 176] [] (Nat.le_of_ble_eq_true rfl) rfl (zT_X5_step_176 _ hI20561 (TKX.c o20414 (((hF20562.2.1 175 (by decide)).trans (hF20546.2.1 175 (by decide)))) (((hF20562.1 174 1 (by decide)).trans (hF20546.1 174 1 (by decide)))) (((hF20562.1 176 3 (by decide)).trans (hF20546.1 176 3 (by decide)))) (((hF20562.1 176 4 (by decide)).trans (hF20546.1 176 4 (by decide)))) (((hF20562.1 176 5 (by decide)).trans (hF20546.1 176 5 (by decide))))).1 (TKX.c o20414 (((hF20562.2.1 175 (by decide)).trans (hF20546.2.1 175 (by decide)))) (((hF20562.1 174 1 (by decide)).trans (hF20546.1 174 1 (by decide)))) (((hF20562.1 176 3 (by decide)).trans (hF20546.1 176 3 (by decide)))) (((hF20562.1 176 4 (by decide)).trans (hF20546.1 176 4 (by decide)))) (((hF20562.1 176 5 (by decide)).trans (hF20546.1 176 5 (by decide))))).2.1.le.2.1) ?_
            rintro _ _ ⟨g20569, rfl, hI20570, hF20571, rfl, hr20573⟩
            refine At.stn ?_
            have hF20574 := Fr.tr hF20565 hF20571 rfl rfl
            have tok20575_ := hr20573.2
            rw [TX.c (((hF20562.2.1 175 (by decide)).trans (hF20546.2.1 175 (by decide)))), nX.c (((hF20562.1 174 1 (by decide)).trans (hF20546.1 174 1 (by decide)))), rX.c (b := 5) (((hF20562.1 176 5 (by decide)).trans (hF20546.1 176 5 (by decide))))] at tok20575_
            have tok20575 := TKX.tok o20414 tok20575_
            rw [TX.c (((hF20410.2.1 175 (by decide)).trans (hF19923.2.1 175 (by decide)))), nX.c (((hF20410.1 174 1 (by decide)).trans (hF19923.1 174 1 (by decide))))] at tok20575
            have hT20576 := hr20573.1
            have x20577 := rX.e hI20561 (b := 4) ((((hF20562.1 176 4 (by decide)).trans (hF20546.1 176 4 (by decide))).trans hv20422))
            obtain ⟨v20578, hv20578⟩ : ∃ v, gI g20569 176 4 = v := ⟨_, rfl⟩
            have rv20578 := RgF.at hI20570.2.1 (p := 176) (b := 4) rfl
            rw [hv20578] at rv20578
            dsimp only at rv20578
            have tv20578 := congrArg Int32.toInt hv20578
            have x20579 := rX.e hI20570 (b := 4) (hv20578)
            refine At.enter rfl ?_
            refine r_iload_n (w_p1 (by decide) (Or.inr rfl) e19928) ?_
            refine r_ifs 115 rfl (fun c20580 => ?_) (fun c20580 => ?_)
            · have c20580_ : a1.toInt = 0 := en_k_eq_t c20580
              exfalso; omega
            · have c20580_ : a1.toInt ≠ 0 := en_k_eq_f c20580
              refine At.enter rfl ?_
              refine r_iload_n (w_p1 (by decide) (Or.inr rfl) e19928) ?_
              refine r_iconst 1 rfl ?_
              refine r_ics 120 rfl (fun c20581 => ?_) (fun c20581 => ?_)
              · have c20581_ : a1.toInt ≠ 1 := en_i_ne_t c20581
                exfalso; omega
              · have c20581_ : a1.toInt = 1 := en_i_ne_f c20581
                refine At.enter rfl ?_
                refine r_aload_n (w_p1 (by decide) (Or.inr rfl) e19927) ?_
                refine q_getR (Sh.ref hI20570.1 kx_176 rfl) ?_
                refine r_iload_n (w_e1 _ _ _) ?_
                refine r_iconst 0 rfl ?_
                refine r_callV 129 rfl [.ref 177, .int v20563, .int 0] [] (Nat.le_of_ble_eq_true rfl) rfl (zT_X4_add_177 _ hI20570 v20563 0) ?_
                rintro _ _ ⟨g20582, rfl, hI20583, hF20584, v20585, rfl, hr20586⟩
                refine At.sti ?_
                have hF20587 := Fr.tr hF20574 hF20584 rfl rfl
                refine At.enter rfl ?_
                refine r_goto ?_
                refine At.enter rfl ?_
                refine r_istore _ rfl ?_
                refine q_iinc (w_p1 (by decide) (Or.inr rfl) (w_p1 (by decide) (Or.inr rfl) e19932)) (x19920.toInt + 1) rfl (by omega) (fun v20588 hv20588 => ?_)
                refine r_goto ?_
                have x20589 := rX.e hI19922 (b := 4) (hv19946)
                have x20590 := rX.e hI20409 (b := 2) (hv20420)
                have x20591 := rX.e hI20409 (b := 4) (hv20422)
                have x20592 := rX.e hI20570 (b := 4) (hv20578)
                have x20593 := rX.e hI20583 (b := 4) (((hF20584.1 176 4 (by decide)).trans hv20578))
                have y20594 := (o20415.2.2 (by omega)).2
                have y20595 := ((PRG0.step o20414 tok20575_ (rX.c (b := 2) (((hF20571.1 176 2 (by decide)).trans ((hF20562.1 176 2 (by decide)).trans (hF20546.1 176 2 (by decide)))))) (JN.ne i20568)).2.2 (by rw [(rX.c (b := 2) (((hF20571.1 176 2 (by decide)).trans ((hF20562.1 176 2 (by decide)).trans (hF20546.1 176 2 (by decide))))))]; omega)).2
                exact ih19926 (400 - v20588.toInt) _ _ ⟨v20563, v20585, v20588, by first | rfl | omega, hI20583, hF20587, (w_p1 (by decide) (Or.inr rfl) (w_p1 (by decide) (Or.inr rfl) (w_p1 (by decide) (Or.inr rfl) e19927))), (w_p1 (by decide) (Or.inr rfl) (w_p1 (by decide) (Or.inr rfl) (w_p1 (by decide) (Or.inr rfl) e19928))), (w_p1 (by decide) (Or.inr rfl) (w_p1 (by decide) (Or.inr rfl) (w_p1 (by decide) (Or.inr rfl) e19929))), (w_p1 (by decide) (Or.inr rfl) (w_p1 (by decide) (Or.inr rfl) (w_e1 _ _ _))), (w_p1 (by decide) (Or.inr rfl) (w_e1 _ _ _)), (w_e1 _ _ _), by omega, by omega, by omega, (TKX.c hT20576 ((hF20584.2.1 175 (by decide))) ((hF20584.1 174 1 (by decide))) ((hF20584.1 176 3 (by decide))) ((hF20584.1 176 4 (by decide))) ((hF20584.1 176 5 (by decide)))), (LPI.eq (LPI.next q19937 (OPD.plain o20416 (by omega)) tok20575 i20568 ⟨by omega, by omega⟩ (rX.c (b := 2) (((hF20571.1 176 2 (by decide)).trans ((hF20562.1 176 2 (by decide)).trans (hF20546.1 176 2 (by decide)))))) (rX.c (b := 6) (((hF20571.1 176 6 (by decide)).trans ((hF20562.1 176 6 (by decide)).trans (hF20546.1 176 6 (by decide))))))) (rX.c (b := 2) ((hF20584.1 176 2 (by decide)))) (rX.c (b := 4) ((hF20584.1 176 4 (by decide)))) (rX.c (b := 6) ((hF20584.1 176 6 (by decide))))), ((PRG0.tr q19938 (PRG0.tr o20415 (PRG0.tr (PRG0.step o20414 tok20575_ (rX.c (b := 2) (((hF20571.1 176 2 (by decide)).trans ((hF20562.1 176 2 (by decide)).trans (hF20546.1 176 2 (by decide)))))) (JN.ne i20568)) (PRG0.eq (rX.c (b := 4) ((hF20584.1 176 4 (by decide)))) (rX.c (b := 2) ((hF20584.1 176 2 (by decide)))))))).le (by omega)), by omega⟩ ⟨by omega, by omega⟩
          · have c20567_ : v20563.toInt = (-1) := en_i_ne_f c20567
            have i20596 := BLN.no hb20566 (by omega)
            refine At.enter rfl ?_
            refine r_vret ?_
            have x20597 := rX.e hI20561 (b := 2) ((((hF20562.1 176 2 (by decide)).trans (hF20546.1 176 2 (by decide))).trans hv20420))
            have x20598 := rX.e hI20561 (b := 4) ((((hF20562.1 176 4 (by decide)).trans (hF20546.1 176 4 (by decide))).trans hv20422))
            obtain ⟨v20599, hv20599⟩ : ∃ v, gI g20408 176 6 = v := ⟨_, rfl⟩
            have tv20599 := congrArg Int32.toInt hv20599
            have x20600 := rX.e hI20561 (b := 6) ((((hF20562.1 176 6 (by decide)).trans (hF20546.1 176 6 (by decide))).trans hv20599))
            obtain ⟨v20601, hv20601⟩ : ∃ v, gI g0 176 2 = v := ⟨_, rfl⟩
            have tv20601 := congrArg Int32.toInt hv20601
            have x20602 := rX.e hI0 (b := 2) (hv20601)
            have x20603 := rX.e hI0 (b := 4) (hv19943)
            have x20604 := rX.e hI19922 (b := 2) (hv20417)
            have x20605 := rX.e hI19922 (b := 4) (hv19946)
            exact ⟨_, rfl, hI20561, hF20565, rfl, ⟨(TKX.c o20414 (((hF20562.2.1 175 (by decide)).trans (hF20546.2.1 175 (by decide)))) (((hF20562.1 174 1 (by decide)).trans (hF20546.1 174 1 (by decide)))) (((hF20562.1 176 3 (by decide)).trans (hF20546.1 176 3 (by decide)))) (((hF20562.1 176 4 (by decide)).trans (hF20546.1 176 4 (by decide)))) (((hF20562.1 176 5 (by decide)).trans (hF20546.1 176 5 (by decide))))), (PRG0.tr q19938 (PRG0.tr o20415 (PRG0.eq (rX.c (b := 4) (((hF20562.1 176 4 (by decide)).trans (hF20546.1 176 4 (by decide))))) (rX.c (b := 2) (((hF20562.1 176 2 (by decide)).trans (hF20546.1 176 2 (by decide)))))))).le (by omega), LPI.end_ q19937 (OPD.plain o20416 (by omega)) (rX.c (b := 2) (((hF20562.1 176 2 (by decide)).trans (hF20546.1 176 2 (by decide))))) (rX.c (b := 4) (((hF20562.1 176 4 (by decide)).trans (hF20546.1 176 4 (by decide))))) (rX.c (b := 6) (((hF20562.1 176 6 (by decide)).trans (hF20546.1 176 6 (by decide))))), (fun hz => (by rw [CDX.c (((hF20562.2.1 175 (by decide)).trans (hF20546.2.1 175 (by decide)))) (((hF20562.1 176 3 (by decide)).trans (hF20546.1 176 3 (by decide)))) (((hF20562.1 176 4 (by decide)).trans (hF20546.1 176 4 (by decide)))) (((hF20562.1 176 5 (by decide)).trans (hF20546.1 176 5 (by decide))))]; exact NJ.mk1 (by omega) i20596))⟩⟩

set_option maxRecDepth 100000 in
set_option maxHeartbeats 4000000 in
theorem zS_X5_readPlain_176 (n : Nat) (IHJ : zQJ n) (IHP : zQP n) (IHT : zQT n) : zQP (n + 1) := by
  intro e he N g0 hI0 a1 h_a1 hm hT
  obtain ⟨d, rfl⟩ : ∃ d, e = d + 4 := ⟨e - 4, by omega⟩
  have hF0 : Fr F_rd A_rd g0 g0 := Fr.rf
  refine Ev.mk rfl rfl ⟨Nat.le_of_ble_eq_true rfl, Or.inr (q_rc hI0.1 kx_176 rfl)⟩ ?_
  show At _ none _ _ (0, [(0, .ref 176), (1, .int a1)], [], (_, _)) _
  refine At.enter rfl ?_
  refine r_iconst 0 rfl ?_
  refine r_istore_n ([(2, .int 0), (0, .ref 176), (1, .int a1)]) rfl ?_
  refine r_iconst 0 rfl ?_
  refine r_istore_n ([(3, .int 0), (2, .int 0), (0, .ref 176), (1, .int a1)]) rfl ?_
  refine Ar.fall 4 rfl ?_
  have z_17597 : (0 : Int32).toInt = 0 := rfl
  have z_17598 : (0 : Int32).toInt = 0 := rfl
  obtain ⟨v17599, hv17599⟩ : ∃ v, gI g0 176 4 = v := ⟨_, rfl⟩
  have rv17599 := RgF.at hI0.2.1 (p := 176) (b := 4) rfl
  rw [hv17599] at rv17599
  dsimp only at rv17599
  have tv17599 := congrArg Int32.toInt hv17599
  have x17600 := rX.e hI0 (b := 4) (hv17599)
  refine w_loopI (fun n_ l_ g_ => ∃ x17579 : Int32, ∃ x17580 : Int32, n_ = 400 - x17580.toInt ∧ HI g_ ∧ Fr F_rd A_rd g0 g_ ∧ en_get 0 l_ = some (.ref 176) ∧ en_get 1 l_ = some (.int a1) ∧ en_get 2 l_ = some (.int x17579) ∧ en_get 3 l_ = some (.int x17580) ∧ (0 ≤ x17579.toInt ∧ x17579.toInt ≤ 1) ∧ (0 ≤ x17580.toInt ∧ x17580.toInt ≤ 400) ∧ (TKX g_) ∧ (NLI (TX g0) (nX g0) g0 g_) ∧ (PRG0 0 (rX g0 2) (rX g_ 2) (rX g0 4) (rX g_ 4)) ∧ (x17580.toInt ≤ rX g_ 4)) ?_ (400 - 0) ⟨0, 0, by first | rfl | omega, hI0, hF0, rfl, rfl, rfl, rfl, by decide, by decide, hT, NLI.rf, PRG0.rf, by omega⟩
  rintro n17585 l17584 g17581 ⟨x17579, x17580, hm17601, hI17582, hF17583, e17587, e17588, e17589, e17590, r17591, r17592, q17593, q17594, q17595, q17596⟩ ih17586
  obtain ⟨v17602, hv17602⟩ : ∃ v, gI g17581 176 4 = v := ⟨_, rfl⟩
  have rv17602 := RgF.at hI17582.2.1 (p := 176) (b := 4) rfl
  rw [hv17602] at rv17602
  dsimp only at rv17602
  have tv17602 := congrArg Int32.toInt hv17602
  have x17603 := rX.e hI17582 (b := 4) (hv17602)
  have ce17604 := fun hz => CDX.end_ q17593 hz
  refine At.enter rfl ?_
  refine r_iload_n e17590 ?_
  refine r_sipush 400 rfl ?_
  refine r_ics 11 rfl (fun c17605 => ?_) (fun c17605 => ?_)
  · have c17605_ : x17580.toInt ≥ 400 := en_i_ge_t c17605
    refine At.enter rfl ?_
    refine r_aload_n e17587 ?_
    refine r_bipush 40 rfl ?_
    refine r_callV 46 rfl [.ref 176, .int 40] [] (Nat.le_of_ble_eq_true rfl) rfl (zT_X5_isSingle_176 _ hI17582 40 (by decide)) ?_
    rintro _ _ ⟨g17606, rfl, hI17607, hF17608, v17609, rfl, hr17610⟩
    refine At.sti ?_
    have hF17611 := Fr.tr hF17583 hF17608 rfl rfl
    have zv17612 : (40 : Int32).toInt = 40 := rfl
    have hb17613 : BL (CDX g17581 = 2) v17609.toInt := ISX.code (c := 2) hr17610.2 q17593 (isSC_d (by omega)) (by decide)
    refine At.enter rfl ?_
    refine r_ifs 49 rfl (fun c17614 => ?_) (fun c17614 => ?_)
    · have c17614_ : v17609.toInt = 0 := en_k_eq_t c17614
      have i17615 := BL.no hb17613 (by omega)
      refine At.enter rfl ?_
      refine r_aload_n e17587 ?_
      refine r_iconst 2 rfl ?_
      refine r_iload_n e17588 ?_
      have zv17616 : (2 : Int32).toInt = 2 := rfl
      refine r_callV 85 rfl [.ref 176, .int 2, .int a1] [] (Nat.le_of_ble_eq_true rfl) rfl (IHJ _ (by omega) hI17607 2 (by decide) a1 (by omega) (by omega) (TKX.c q17593 ((hF17608.2.1 175 (by decide))) ((hF17608.1 174 1 (by decide))) ((hF17608.1 176 3 (by decide))) ((hF17608.1 176 4 (by decide))) ((hF17608.1 176 5 (by decide))))) ?_
      rintro _ _ ⟨g17617, rfl, hI17618, hF17619, rfl, hr17621⟩
      refine At.stn ?_
      have hF17622 := Fr.tr hF17611 hF17619 rfl rfl
      have zv17623 : (2 : Int32).toInt = 2 := rfl
      obtain ⟨v17628, hv17628⟩ : ∃ v, gI g17581 176 2 = v := ⟨_, rfl⟩
      have tv17628 := congrArg Int32.toInt hv17628
      have x17629 := rX.e hI17607 (b := 2) (((hF17608.1 176 2 (by decide)).trans hv17628))
      have x17630 := rX.e hI17607 (b := 4) (((hF17608.1 176 4 (by decide)).trans hv17602))
      obtain ⟨o17624, o17625, o17626, o17627⟩ := hr17621
      have o17631 := OPD.tc o17626 (((hF17608.2.1 175 (by decide)).trans (hF17583.2.1 175 (by decide)))) (((hF17608.1 174 1 (by decide)).trans (hF17583.1 174 1 (by decide))))
      rw [rX.c (b := 2) ((hF17608.1 176 2 (by decide))), rX.c (b := 4) ((hF17608.1 176 4 (by decide)))] at o17625
      have o17632 := OPD.fr o17631 (rX.c (b := 2) ((hF17608.1 176 2 (by decide)))) (rX.c (b := 4) ((hF17608.1 176 4 (by decide)))) (rX.c (b := 6) ((hF17608.1 176 6 (by decide))))
      obtain ⟨v17633, hv17633⟩ : ∃ v, gI g17617 176 2 = v := ⟨_, rfl⟩
      have tv17633 := congrArg Int32.toInt hv17633
      have x17634 := rX.e hI17618 (b := 2) (hv17633)
      obtain ⟨v17635, hv17635⟩ : ∃ v, gI g17617 176 4 = v := ⟨_, rfl⟩
      have rv17635 := RgF.at hI17618.2.1 (p := 176) (b := 4) rfl
      rw [hv17635] at rv17635
      dsimp only at rv17635
      have tv17635 := congrArg Int32.toInt hv17635
      have x17636 := rX.e hI17618 (b := 4) (hv17635)
      refine At.enter rfl ?_
      refine r_aload_n e17587 ?_
      refine r_callV 89 rfl [.ref 176] [] (Nat.le_of_ble_eq_true rfl) rfl (zT_X5_comparisonHere_176 _ hI17618 o17624) ?_
      rintro _ _ ⟨g17637, rfl, hI17638, hF17639, v17640, rfl, hr17641⟩
      refine At.sti ?_
      have hF17642 := Fr.tr hF17622 hF17639 rfl rfl
      have hb17643 : BLN (24 ≤ CDX g17617 ∧ CDX g17617 ≤ 26) v17640.toInt := hr17641.2
      refine At.enter rfl ?_
      refine r_istore_n _ rfl ?_
      refine r_iload_n (w_e1 _ _ _) ?_
      refine r_iconst (-1) rfl ?_
      refine r_ics 95 rfl (fun c17644 => ?_) (fun c17644 => ?_)
      · have c17644_ : v17640.toInt ≠ (-1) := en_i_ne_t c17644
        have i17645 := BLN.yes hb17643 (by omega)
        refine At.enter rfl ?_
        refine r_aload_n (w_p1 (by decide) (Or.inr rfl) e17587) ?_
        refine r_callV 104 rfl [.ref 176] [] (Nat.le_of_ble_eq_true rfl) rfl (zT_X5_step_176 _ hI17638 (TKX.c o17624 ((hF17639.2.1 175 (by decide))) ((hF17639.1 174 1 (by decide))) ((hF17639.1 176 3 (by decide))) ((hF17639.1 176 4 (by decide))) ((hF17639.1 176 5 (by decide)))).1 (TKX.c o17624 ((hF17639.2.1 175 (by decide))) ((hF17639.1 174 1 (by decide))) ((hF17639.1 176 3 (by decide))) ((hF17639.1 176 4 (by decide))) ((hF17639.1 176 5 (by decide)))).2.1.le.2.1) ?_
        rintro _ _ ⟨g17646, rfl, hI17647, hF17648, rfl, hr17650⟩
        refine At.stn ?_
        have hF17651 := Fr.tr hF17642 hF17648 rfl rfl
        have tok17652_ := hr17650.2
        rw [TX.c ((hF17639.2.1 175 (by decide))), nX.c ((hF17639.1 174 1 (by decide))), rX.c (b := 5) ((hF17639.1 176 5 (by decide)))] at tok17652_
        have tok17652 := TKX.tok o17624 tok17652_
        rw [TX.c (((hF17619.2.1 175 (by decide)).trans ((hF17608.2.1 175 (by decide)).trans (hF17583.2.1 175 (by decide))))), nX.c (((hF17619.1 174 1 (by decide)).trans ((hF17608.1 174 1 (by decide)).trans (hF17583.1 174 1 (by decide)))))] at tok17652
        have hT17653 := hr17650.1
        have x17654 := rX.e hI17638 (b := 4) (((hF17639.1 176 4 (by decide)).trans hv17635))
        obtain ⟨v17655, hv17655⟩ : ∃ v, gI g17646 176 4 = v := ⟨_, rfl⟩
        have rv17655 := RgF.at hI17647.2.1 (p := 176) (b := 4) rfl
        rw [hv17655] at rv17655
        dsimp only at rv17655
        have tv17655 := congrArg Int32.toInt hv17655
        have x17656 := rX.e hI17647 (b := 4) (hv17655)
        refine At.enter rfl ?_
        refine r_aload_n (w_p1 (by decide) (Or.inr rfl) e17587) ?_
        refine r_iconst 2 rfl ?_
        refine r_iload_n (w_p1 (by decide) (Or.inr rfl) e17588) ?_
        have zv17657 : (2 : Int32).toInt = 2 := rfl
        refine r_callV 110 rfl [.ref 176, .int 2, .int a1] [] (Nat.le_of_ble_eq_true rfl) rfl (IHJ _ (by omega) hI17647 2 (by decide) a1 (by omega) (by omega) hT17653) ?_
        rintro _ _ ⟨g17658, rfl, hI17659, hF17660, rfl, hr17662⟩
        refine At.stn ?_
        have hF17663 := Fr.tr hF17651 hF17660 rfl rfl
        have zv17664 : (2 : Int32).toInt = 2 := rfl
        have x17669 := rX.e hI17647 (b := 2) ((((hF17648.1 176 2 (by decide)).trans (hF17639.1 176 2 (by decide))).trans hv17633))
        have x17670 := rX.e hI17647 (b := 4) (hv17655)
        obtain ⟨o17665, o17666, o17667, o17668⟩ := hr17662
        have o17671 := OPD.tc o17667 (((hF17648.2.1 175 (by decide)).trans ((hF17639.2.1 175 (by decide)).trans ((hF17619.2.1 175 (by decide)).trans ((hF17608.2.1 175 (by decide)).trans (hF17583.2.1 175 (by decide))))))) (((hF17648.1 174 1 (by decide)).trans ((hF17639.1 174 1 (by decide)).trans ((hF17619.1 174 1 (by decide)).trans ((hF17608.1 174 1 (by decide)).trans (hF17583.1 174 1 (by decide)))))))
        obtain ⟨v17672, hv17672⟩ : ∃ v, gI g17658 176 2 = v := ⟨_, rfl⟩
        have tv17672 := congrArg Int32.toInt hv17672
        have x17673 := rX.e hI17659 (b := 2) (hv17672)
        obtain ⟨v17674, hv17674⟩ : ∃ v, gI g17658 176 4 = v := ⟨_, rfl⟩
        have rv17674 := RgF.at hI17659.2.1 (p := 176) (b := 4) rfl
        rw [hv17674] at rv17674
        dsimp only at rv17674
        have tv17674 := congrArg Int32.toInt hv17674
        have x17675 := rX.e hI17659 (b := 4) (hv17674)
        refine At.enter rfl ?_
        refine r_aload_n (w_p1 (by decide) (Or.inr rfl) e17587) ?_
        refine q_getR (Sh.ref hI17659.1 kx_176 rfl) ?_
        refine r_iload_n (w_e1 _ _ _) ?_
        refine r_iconst 0 rfl ?_
        refine r_callV 119 rfl [.ref 177, .int v17640, .int 0] [] (Nat.le_of_ble_eq_true rfl) rfl (zT_X4_add_177 _ hI17659 v17640 0) ?_
        rintro _ _ ⟨g17676, rfl, hI17677, hF17678, v17679, rfl, hr17680⟩
        refine At.sti ?_
        have hF17681 := Fr.tr hF17663 hF17678 rfl rfl
        refine At.enter rfl ?_
        refine r_pop rfl ?_
        refine Ar.fall 120 rfl ?_
        refine At.enter rfl ?_
        refine r_iload_n (w_p1 (by decide) (Or.inr rfl) e17589) ?_
        refine r_ifs 124 rfl (fun c17682 => ?_) (fun c17682 => ?_)
        · have c17682_ : x17579.toInt = 0 := en_k_eq_t c17682
          refine At.enter rfl ?_
          refine r_vret ?_
          have x17683 := rX.e hI17677 (b := 2) (((hF17678.1 176 2 (by decide)).trans hv17672))
          have x17684 := rX.e hI17677 (b := 4) (((hF17678.1 176 4 (by decide)).trans hv17674))
          obtain ⟨v17685, hv17685⟩ : ∃ v, gI g17658 176 6 = v := ⟨_, rfl⟩
          have tv17685 := congrArg Int32.toInt hv17685
          have x17686 := rX.e hI17677 (b := 6) (((hF17678.1 176 6 (by decide)).trans hv17685))
          obtain ⟨v17687, hv17687⟩ : ∃ v, gI g0 176 2 = v := ⟨_, rfl⟩
          have tv17687 := congrArg Int32.toInt hv17687
          have x17688 := rX.e hI0 (b := 2) (hv17687)
          have x17689 := rX.e hI0 (b := 4) (hv17599)
          have x17690 := rX.e hI17582 (b := 2) (hv17628)
          have x17691 := rX.e hI17582 (b := 4) (hv17602)
          have x17692 := rX.e hI17618 (b := 2) (hv17633)
          have x17693 := rX.e hI17618 (b := 4) (hv17635)
          obtain ⟨v17694, hv17694⟩ : ∃ v, gI g17617 176 6 = v := ⟨_, rfl⟩
          have tv17694 := congrArg Int32.toInt hv17694
          have x17695 := rX.e hI17618 (b := 6) (hv17694)
          have x17696 := rX.e hI17647 (b := 2) ((((hF17648.1 176 2 (by decide)).trans (hF17639.1 176 2 (by decide))).trans hv17633))
          have x17697 := rX.e hI17647 (b := 4) (hv17655)
          have x17698 := rX.e hI17647 (b := 6) ((((hF17648.1 176 6 (by decide)).trans (hF17639.1 176 6 (by decide))).trans hv17694))
          have x17699 := rX.e hI17659 (b := 2) (hv17672)
          have x17700 := rX.e hI17659 (b := 4) (hv17674)
          have x17701 := rX.e hI17659 (b := 6) (hv17685)
          exact ⟨_, rfl, hI17677, hF17681, rfl, ⟨(TKX.c o17665 ((hF17678.2.1 175 (by decide))) ((hF17678.1 174 1 (by decide))) ((hF17678.1 176 3 (by decide))) ((hF17678.1 176 4 (by decide))) ((hF17678.1 176 5 (by decide)))), ((PRG0.tr ((PRG0.tr ((PRG0.tr ((PRG0.tr (q17595) (o17625))) (PRG0.step o17624 tok17652_ (rX.c (b := 2) (((hF17648.1 176 2 (by decide)).trans (hF17639.1 176 2 (by decide))))) (by omega)))) (o17666))) (PRG0.eq (rX.c (b := 4) ((hF17678.1 176 4 (by decide)))) (rX.c (b := 2) ((hF17678.1 176 2 (by decide))))))).le (by omega), PLO.cmp q17594 (TKX.someC q17593 ((hF17583.2.1 175 (by decide))) ((hF17583.1 174 1 (by decide)))).choose_spec (by omega) o17632 tok17652 (by omega) (rX.c (b := 2) (((hF17648.1 176 2 (by decide)).trans (hF17639.1 176 2 (by decide))))) (rX.c (b := 6) (((hF17648.1 176 6 (by decide)).trans (hF17639.1 176 6 (by decide))))) o17671 (TKX.someC o17665 (((hF17660.2.1 175 (by decide)).trans ((hF17648.2.1 175 (by decide)).trans ((hF17639.2.1 175 (by decide)).trans ((hF17619.2.1 175 (by decide)).trans ((hF17608.2.1 175 (by decide)).trans (hF17583.2.1 175 (by decide)))))))) (((hF17660.1 174 1 (by decide)).trans ((hF17648.1 174 1 (by decide)).trans ((hF17639.1 174 1 (by decide)).trans ((hF17619.1 174 1 (by decide)).trans ((hF17608.1 174 1 (by decide)).trans (hF17583.1 174 1 (by decide))))))))).choose_spec o17668 (rX.c (b := 2) ((hF17678.1 176 2 (by decide)))) (rX.c (b := 4) ((hF17678.1 176 4 (by decide)))) (rX.c (b := 6) ((hF17678.1 176 6 (by decide))))⟩⟩
        · have c17682_ : x17579.toInt ≠ 0 := en_k_eq_f c17682
          refine At.enter rfl ?_
          refine r_aload_n (w_p1 (by decide) (Or.inr rfl) e17587) ?_
          refine q_getR (Sh.ref hI17677.1 kx_176 rfl) ?_
          refine r_bipush 9 rfl ?_
          refine r_iconst 0 rfl ?_
          refine r_callV 134 rfl [.ref 177, .int 9, .int 0] [] (Nat.le_of_ble_eq_true rfl) rfl (zT_X4_add_177 _ hI17677 9 0) ?_
          rintro _ _ ⟨g17702, rfl, hI17703, hF17704, v17705, rfl, hr17706⟩
          refine At.sti ?_
          have hF17707 := Fr.tr hF17681 hF17704 rfl rfl
          refine At.enter rfl ?_
          refine r_pop rfl ?_
          refine Ar.fall 135 rfl ?_
          refine At.enter rfl ?_
          refine r_vret ?_
          have x17708 := rX.e hI17703 (b := 2) ((((hF17704.1 176 2 (by decide)).trans (hF17678.1 176 2 (by decide))).trans hv17672))
          have x17709 := rX.e hI17703 (b := 4) ((((hF17704.1 176 4 (by decide)).trans (hF17678.1 176 4 (by decide))).trans hv17674))
          obtain ⟨v17710, hv17710⟩ : ∃ v, gI g17658 176 6 = v := ⟨_, rfl⟩
          have tv17710 := congrArg Int32.toInt hv17710
          have x17711 := rX.e hI17703 (b := 6) ((((hF17704.1 176 6 (by decide)).trans (hF17678.1 176 6 (by decide))).trans hv17710))
          obtain ⟨v17712, hv17712⟩ : ∃ v, gI g0 176 2 = v := ⟨_, rfl⟩
          have tv17712 := congrArg Int32.toInt hv17712
          have x17713 := rX.e hI0 (b := 2) (hv17712)
          have x17714 := rX.e hI0 (b := 4) (hv17599)
          have x17715 := rX.e hI17582 (b := 2) (hv17628)
          have x17716 := rX.e hI17582 (b := 4) (hv17602)
          have x17717 := rX.e hI17618 (b := 2) (hv17633)
          have x17718 := rX.e hI17618 (b := 4) (hv17635)
          obtain ⟨v17719, hv17719⟩ : ∃ v, gI g17617 176 6 = v := ⟨_, rfl⟩
          have tv17719 := congrArg Int32.toInt hv17719
          have x17720 := rX.e hI17618 (b := 6) (hv17719)
          have x17721 := rX.e hI17647 (b := 2) ((((hF17648.1 176 2 (by decide)).trans (hF17639.1 176 2 (by decide))).trans hv17633))
          have x17722 := rX.e hI17647 (b := 4) (hv17655)
          have x17723 := rX.e hI17647 (b := 6) ((((hF17648.1 176 6 (by decide)).trans (hF17639.1 176 6 (by decide))).trans hv17719))
          have x17724 := rX.e hI17659 (b := 2) (hv17672)
          have x17725 := rX.e hI17659 (b := 4) (hv17674)
          have x17726 := rX.e hI17659 (b := 6) (hv17710)
          exact ⟨_, rfl, hI17703, hF17707, rfl, ⟨(TKX.c o17665 (((hF17704.2.1 175 (by decide)).trans (hF17678.2.1 175 (by decide)))) (((hF17704.1 174 1 (by decide)).trans (hF17678.1 174 1 (by decide)))) (((hF17704.1 176 3 (by decide)).trans (hF17678.1 176 3 (by decide)))) (((hF17704.1 176 4 (by decide)).trans (hF17678.1 176 4 (by decide)))) (((hF17704.1 176 5 (by decide)).trans (hF17678.1 176 5 (by decide))))), ((PRG0.tr ((PRG0.tr ((PRG0.tr ((PRG0.tr (q17595) (o17625))) (PRG0.step o17624 tok17652_ (rX.c (b := 2) (((hF17648.1 176 2 (by decide)).trans (hF17639.1 176 2 (by decide))))) (by omega)))) (o17666))) (PRG0.eq (rX.c (b := 4) (((hF17704.1 176 4 (by decide)).trans (hF17678.1 176 4 (by decide))))) (rX.c (b := 2) (((hF17704.1 176 2 (by decide)).trans (hF17678.1 176 2 (by decide)))))))).le (by omega), PLO.cmp q17594 (TKX.someC q17593 ((hF17583.2.1 175 (by decide))) ((hF17583.1 174 1 (by decide)))).choose_spec (by omega) o17632 tok17652 (by omega) (rX.c (b := 2) (((hF17648.1 176 2 (by decide)).trans (hF17639.1 176 2 (by decide))))) (rX.c (b := 6) (((hF17648.1 176 6 (by decide)).trans (hF17639.1 176 6 (by decide))))) o17671 (TKX.someC o17665 (((hF17660.2.1 175 (by decide)).trans ((hF17648.2.1 175 (by decide)).trans ((hF17639.2.1 175 (by decide)).trans ((hF17619.2.1 175 (by decide)).trans ((hF17608.2.1 175 (by decide)).trans (hF17583.2.1 175 (by decide)))))))) (((hF17660.1 174 1 (by decide)).trans ((hF17648.1 174 1 (by decide)).trans ((hF17639.1 174 1 (by decide)).trans ((hF17619.1 174 1 (by decide)).trans ((hF17608.1 174 1 (by decide)).trans (hF17583.1 174 1 (by decide))))))))).choose_spec o17668 (rX.c (b := 2) (((hF17704.1 176 2 (by decide)).trans (hF17678.1 176 2 (by decide))))) (rX.c (b := 4) (((hF17704.1 176 4 (by decide)).trans (hF17678.1 176 4 (by decide))))) (rX.c (b := 6) (((hF17704.1 176 6 (by decide)).trans (hF17678.1 176 6 (by decide)))))⟩⟩
      · have c17644_ : v17640.toInt = (-1) := en_i_ne_f c17644
        have i17727 := BLN.no hb17643 (by omega)
        refine At.enter rfl ?_
        refine r_aload_n (w_p1 (by decide) (Or.inr rfl) e17587) ?_
        refine q_inlV 99 rfl [.ref 176] [] (Nat.le_of_ble_eq_true rfl) rfl ?_
        refine Ev.mk rfl rfl ⟨Nat.le_of_ble_eq_true rfl, Or.inr (q_rc hI17638.1 kx_176 rfl)⟩ ?_
        show At _ none _ _ (0, [(0, .ref 176)], [], (_, _)) _
        refine At.enter rfl ?_
        refine r_aload_n rfl ?_
        refine q_getI (Sh.int hI17638.1 kx_176 rfl) v17633 ((hF17639.1 176 2 (by decide)).trans hv17633) ?_
        refine r_iconst (-1) rfl ?_
        refine r_ics 8 rfl (fun c17728 => ?_) (fun c17728 => ?_)
        · have c17728_ : v17633.toInt ≠ (-1) := en_i_ne_t c17728
          refine At.enter rfl ?_
          refine q_vret ?_
          refine At.enter rfl ?_
          refine r_vret ?_
          have x17729 := rX.e hI17638 (b := 2) (((hF17639.1 176 2 (by decide)).trans hv17633))
          have x17730 := rX.e hI17638 (b := 4) (((hF17639.1 176 4 (by decide)).trans hv17635))
          obtain ⟨v17731, hv17731⟩ : ∃ v, gI g17617 176 6 = v := ⟨_, rfl⟩
          have tv17731 := congrArg Int32.toInt hv17731
          have x17732 := rX.e hI17638 (b := 6) (((hF17639.1 176 6 (by decide)).trans hv17731))
          obtain ⟨v17733, hv17733⟩ : ∃ v, gI g0 176 2 = v := ⟨_, rfl⟩
          have tv17733 := congrArg Int32.toInt hv17733
          have x17734 := rX.e hI0 (b := 2) (hv17733)
          have x17735 := rX.e hI0 (b := 4) (hv17599)
          have x17736 := rX.e hI17582 (b := 2) (hv17628)
          have x17737 := rX.e hI17582 (b := 4) (hv17602)
          have x17738 := rX.e hI17618 (b := 2) (hv17633)
          have x17739 := rX.e hI17618 (b := 4) (hv17635)
          have x17740 := rX.e hI17618 (b := 6) (hv17731)
          exact ⟨_, rfl, hI17638, hF17642, rfl, ⟨(TKX.c o17624 ((hF17639.2.1 175 (by decide))) ((hF17639.1 174 1 (by decide))) ((hF17639.1 176 3 (by decide))) ((hF17639.1 176 4 (by decide))) ((hF17639.1 176 5 (by decide)))), ((PRG0.tr ((PRG0.tr (q17595) (o17625))) (PRG0.fail 1 (rX.c (b := 4) ((hF17639.1 176 4 (by decide)))) (fun _ => by omega) (fun _ => by omega) (by omega)))).le (by omega), PLO.cmpF q17594 (TKX.someC q17593 ((hF17583.2.1 175 (by decide))) ((hF17583.1 174 1 (by decide)))).choose_spec (by omega) o17632 (TKX.someC o17624 (((hF17619.2.1 175 (by decide)).trans ((hF17608.2.1 175 (by decide)).trans (hF17583.2.1 175 (by decide))))) (((hF17619.1 174 1 (by decide)).trans ((hF17608.1 174 1 (by decide)).trans (hF17583.1 174 1 (by decide)))))).choose_spec o17627 (by omega) (fun _ => by omega) (fun _ => by omega) (by omega)⟩⟩
        · have c17728_ : v17633.toInt = (-1) := en_i_ne_f c17728
          refine At.enter rfl ?_
          refine r_aload_n rfl ?_
          refine r_aload_n rfl ?_
          refine q_getI (Sh.int hI17638.1 kx_176 rfl) v17635 ((hF17639.1 176 4 (by decide)).trans hv17635) ?_
          refine q_putI (Sh.int hI17638.1 kx_176 rfl) rfl ?_
          have hI17741 := HI.wI0 hI17638 kx_176 rfl (p := 176) (b := 2) (v := v17635) rfl
          have hF17742 := Fr.wI (p := 176) (b := 2) (v := v17635) hF17642 rfl
          refine Ar.fall 16 rfl ?_
          refine At.enter rfl ?_
          refine q_vret ?_
          refine At.enter rfl ?_
          refine r_vret ?_
          have x17743 := rX.e hI17741 (b := 2) ((gI_sI_eq hI17638.1 kx_176 rfl _))
          have x17744 := rX.e hI17741 (b := 4) ((((gI_sI_ne (by decide)).trans (hF17639.1 176 4 (by decide))).trans hv17635))
          obtain ⟨v17745, hv17745⟩ : ∃ v, gI g17617 176 6 = v := ⟨_, rfl⟩
          have tv17745 := congrArg Int32.toInt hv17745
          have x17746 := rX.e hI17741 (b := 6) ((((gI_sI_ne (by decide)).trans (hF17639.1 176 6 (by decide))).trans hv17745))
          obtain ⟨v17747, hv17747⟩ : ∃ v, gI g0 176 2 = v := ⟨_, rfl⟩
          have tv17747 := congrArg Int32.toInt hv17747
          have x17748 := rX.e hI0 (b := 2) (hv17747)
          have x17749 := rX.e hI0 (b := 4) (hv17599)
          have x17750 := rX.e hI17582 (b := 2) (hv17628)
          have x17751 := rX.e hI17582 (b := 4) (hv17602)
          have x17752 := rX.e hI17618 (b := 2) (hv17633)
          have x17753 := rX.e hI17618 (b := 4) (hv17635)
          have x17754 := rX.e hI17618 (b := 6) (hv17745)
          exact ⟨_, rfl, hI17741, hF17742, rfl, ⟨(TKX.c o17624 (((gA_sI).trans (hF17639.2.1 175 (by decide)))) (((gI_sI_ne (by decide)).trans (hF17639.1 174 1 (by decide)))) (((gI_sI_ne (by decide)).trans (hF17639.1 176 3 (by decide)))) (((gI_sI_ne (by decide)).trans (hF17639.1 176 4 (by decide)))) (((gI_sI_ne (by decide)).trans (hF17639.1 176 5 (by decide))))), ((PRG0.tr ((PRG0.tr (q17595) (o17625))) (PRG0.fail 1 (rX.c (b := 4) (((gI_sI_ne (by decide)).trans (hF17639.1 176 4 (by decide))))) (fun _ => by omega) (fun _ => by omega) (by omega)))).le (by omega), PLO.cmpF q17594 (TKX.someC q17593 ((hF17583.2.1 175 (by decide))) ((hF17583.1 174 1 (by decide)))).choose_spec (by omega) o17632 (TKX.someC o17624 (((hF17619.2.1 175 (by decide)).trans ((hF17608.2.1 175 (by decide)).trans (hF17583.2.1 175 (by decide))))) (((hF17619.1 174 1 (by decide)).trans ((hF17608.1 174 1 (by decide)).trans (hF17583.1 174 1 (by decide)))))).choose_spec o17627 (by omega) (fun _ => by omega) (fun _ => by omega) (by omega)⟩⟩
    · have c17614_ : v17609.toInt ≠ 0 := en_k_eq_f c17614
      have i17755 := BL.yes hb17613 (by omega)
      refine At.enter rfl ?_
      refine r_aload_n e17587 ?_
      refine r_iload_n e17588 ?_
      refine q_inlV 54 rfl [.ref 176, .int a1] [] (Nat.le_of_ble_eq_true rfl) rfl ?_
      refine Ev.mk rfl rfl ⟨Nat.le_of_ble_eq_true rfl, Or.inr (q_rc hI17607.1 kx_176 rfl)⟩ ?_
      show At _ none _ _ (0, [(0, .ref 176), (1, .int a1)], [], (_, _)) _
      refine At.enter rfl ?_
      refine r_iload_n rfl ?_
      refine r_bipush 8 rfl ?_
      refine r_ics 6 rfl (fun c17756 => ?_) (fun c17756 => ?_)
      · have c17756_ : a1.toInt < 8 := en_i_lt_t c17756
        refine At.enter rfl ?_
        refine r_aload_n rfl ?_
        refine r_callV 17 rfl [.ref 176] [] (Nat.le_of_ble_eq_true rfl) rfl (zT_X5_step_176 _ hI17607 (TKX.c q17593 ((hF17608.2.1 175 (by decide))) ((hF17608.1 174 1 (by decide))) ((hF17608.1 176 3 (by decide))) ((hF17608.1 176 4 (by decide))) ((hF17608.1 176 5 (by decide)))).1 (TKX.c q17593 ((hF17608.2.1 175 (by decide))) ((hF17608.1 174 1 (by decide))) ((hF17608.1 176 3 (by decide))) ((hF17608.1 176 4 (by decide))) ((hF17608.1 176 5 (by decide)))).2.1.le.2.1) ?_
        rintro _ _ ⟨g17757, rfl, hI17758, hF17759, rfl, hr17761⟩
        refine At.stn ?_
        have hF17762 := Fr.tr hF17611 hF17759 rfl rfl
        have tok17763_ := hr17761.2
        rw [TX.c ((hF17608.2.1 175 (by decide))), nX.c ((hF17608.1 174 1 (by decide))), rX.c (b := 5) ((hF17608.1 176 5 (by decide)))] at tok17763_
        have tok17763 := TKX.tok q17593 tok17763_
        rw [TX.c ((hF17583.2.1 175 (by decide))), nX.c ((hF17583.1 174 1 (by decide)))] at tok17763
        have hT17764 := hr17761.1
        have x17765 := rX.e hI17607 (b := 4) (((hF17608.1 176 4 (by decide)).trans hv17602))
        obtain ⟨v17766, hv17766⟩ : ∃ v, gI g17757 176 4 = v := ⟨_, rfl⟩
        have rv17766 := RgF.at hI17758.2.1 (p := 176) (b := 4) rfl
        rw [hv17766] at rv17766
        dsimp only at rv17766
        have tv17766 := congrArg Int32.toInt hv17766
        have x17767 := rX.e hI17758 (b := 4) (hv17766)
        refine At.enter rfl ?_
        refine q_vret ?_
        refine At.enter rfl ?_
        refine r_aload_n e17587 ?_
        obtain ⟨v17768, hv17768⟩ : ∃ v, gI g17581 176 2 = v := ⟨_, rfl⟩
        refine q_getI (Sh.int hI17758.1 kx_176 rfl) v17768 (((hF17759.1 176 2 (by decide)).trans (hF17608.1 176 2 (by decide))).trans hv17768) ?_
        refine r_iconst (-1) rfl ?_
        refine r_ics 62 rfl (fun c17769 => ?_) (fun c17769 => ?_)
        · have c17769_ : v17768.toInt ≠ (-1) := en_i_ne_t c17769
          refine At.enter rfl ?_
          refine r_iload_n e17589 ?_
          refine r_ifs 124 rfl (fun c17770 => ?_) (fun c17770 => ?_)
          · have c17770_ : x17579.toInt = 0 := en_k_eq_t c17770
            refine At.enter rfl ?_
            refine r_vret ?_
            have x17771 := rX.e hI17758 (b := 2) ((((hF17759.1 176 2 (by decide)).trans (hF17608.1 176 2 (by decide))).trans hv17768))
            have x17772 := rX.e hI17758 (b := 4) (hv17766)
            obtain ⟨v17773, hv17773⟩ : ∃ v, gI g17581 176 6 = v := ⟨_, rfl⟩
            have tv17773 := congrArg Int32.toInt hv17773
            have x17774 := rX.e hI17758 (b := 6) ((((hF17759.1 176 6 (by decide)).trans (hF17608.1 176 6 (by decide))).trans hv17773))
            obtain ⟨v17775, hv17775⟩ : ∃ v, gI g0 176 2 = v := ⟨_, rfl⟩
            have tv17775 := congrArg Int32.toInt hv17775
            have x17776 := rX.e hI0 (b := 2) (hv17775)
            have x17777 := rX.e hI0 (b := 4) (hv17599)
            have x17778 := rX.e hI17582 (b := 2) (hv17768)
            have x17779 := rX.e hI17582 (b := 4) (hv17602)
            have x17780 := rX.e hI17758 (b := 2) ((((hF17759.1 176 2 (by decide)).trans (hF17608.1 176 2 (by decide))).trans hv17768))
            have x17781 := rX.e hI17758 (b := 4) (hv17766)
            have x17782 := rX.e hI17758 (b := 6) ((((hF17759.1 176 6 (by decide)).trans (hF17608.1 176 6 (by decide))).trans hv17773))
            exact ⟨_, rfl, hI17758, hF17762, rfl, ⟨hT17764, ((PRG0.tr ((PRG0.tr (q17595) (PRG0.step q17593 tok17763_ (rX.c (b := 2) (((hF17759.1 176 2 (by decide)).trans (hF17608.1 176 2 (by decide))))) (by omega)))) (PRG0.eq rfl rfl))).le (by omega), PLO.bad (g1 := g17581) q17594 (by omega) (rX.c (b := 2) (((hF17759.1 176 2 (by decide)).trans (hF17608.1 176 2 (by decide)))))⟩⟩
          · have c17770_ : x17579.toInt ≠ 0 := en_k_eq_f c17770
            refine At.enter rfl ?_
            refine r_aload_n e17587 ?_
            refine q_getR (Sh.ref hI17758.1 kx_176 rfl) ?_
            refine r_bipush 9 rfl ?_
            refine r_iconst 0 rfl ?_
            refine r_callV 134 rfl [.ref 177, .int 9, .int 0] [] (Nat.le_of_ble_eq_true rfl) rfl (zT_X4_add_177 _ hI17758 9 0) ?_
            rintro _ _ ⟨g17783, rfl, hI17784, hF17785, v17786, rfl, hr17787⟩
            refine At.sti ?_
            have hF17788 := Fr.tr hF17762 hF17785 rfl rfl
            refine At.enter rfl ?_
            refine r_pop rfl ?_
            refine Ar.fall 135 rfl ?_
            refine At.enter rfl ?_
            refine r_vret ?_
            have x17789 := rX.e hI17784 (b := 2) ((((hF17785.1 176 2 (by decide)).trans ((hF17759.1 176 2 (by decide)).trans (hF17608.1 176 2 (by decide)))).trans hv17768))
            have x17790 := rX.e hI17784 (b := 4) (((hF17785.1 176 4 (by decide)).trans hv17766))
            obtain ⟨v17791, hv17791⟩ : ∃ v, gI g17581 176 6 = v := ⟨_, rfl⟩
            have tv17791 := congrArg Int32.toInt hv17791
            have x17792 := rX.e hI17784 (b := 6) ((((hF17785.1 176 6 (by decide)).trans ((hF17759.1 176 6 (by decide)).trans (hF17608.1 176 6 (by decide)))).trans hv17791))
            obtain ⟨v17793, hv17793⟩ : ∃ v, gI g0 176 2 = v := ⟨_, rfl⟩
            have tv17793 := congrArg Int32.toInt hv17793
            have x17794 := rX.e hI0 (b := 2) (hv17793)
            have x17795 := rX.e hI0 (b := 4) (hv17599)
            have x17796 := rX.e hI17582 (b := 2) (hv17768)
            have x17797 := rX.e hI17582 (b := 4) (hv17602)
            have x17798 := rX.e hI17758 (b := 2) ((((hF17759.1 176 2 (by decide)).trans (hF17608.1 176 2 (by decide))).trans hv17768))
            have x17799 := rX.e hI17758 (b := 4) (hv17766)
            have x17800 := rX.e hI17758 (b := 6) ((((hF17759.1 176 6 (by decide)).trans (hF17608.1 176 6 (by decide))).trans hv17791))
            exact ⟨_, rfl, hI17784, hF17788, rfl, ⟨(TKX.c hT17764 ((hF17785.2.1 175 (by decide))) ((hF17785.1 174 1 (by decide))) ((hF17785.1 176 3 (by decide))) ((hF17785.1 176 4 (by decide))) ((hF17785.1 176 5 (by decide)))), ((PRG0.tr ((PRG0.tr (q17595) (PRG0.step q17593 tok17763_ (rX.c (b := 2) (((hF17759.1 176 2 (by decide)).trans (hF17608.1 176 2 (by decide))))) (by omega)))) (PRG0.eq (rX.c (b := 4) ((hF17785.1 176 4 (by decide)))) (rX.c (b := 2) ((hF17785.1 176 2 (by decide))))))).le (by omega), PLO.bad (g1 := g17581) q17594 (by omega) (rX.c (b := 2) (((hF17785.1 176 2 (by decide)).trans ((hF17759.1 176 2 (by decide)).trans (hF17608.1 176 2 (by decide))))))⟩⟩
        · have c17769_ : v17768.toInt = (-1) := en_i_ne_f c17769
          refine At.enter rfl ?_
          refine r_aload_n e17587 ?_
          refine r_iconst 0 rfl ?_
          refine r_iload_n e17588 ?_
          refine r_iconst 1 rfl ?_
          refine q_iadd (a1.toInt + 1) rfl (by omega) (fun v17801 hv17801 => ?_)
          have zv17802 : (0 : Int32).toInt = 0 := rfl
          refine r_callV 70 rfl [.ref 176, .int 0, .int v17801] [] (Nat.le_of_ble_eq_true rfl) rfl (IHJ _ (by omega) hI17758 0 (by decide) v17801 (by omega) (by omega) hT17764) ?_
          rintro _ _ ⟨g17803, rfl, hI17804, hF17805, rfl, hr17807⟩
          refine At.stn ?_
          have hF17808 := Fr.tr hF17762 hF17805 rfl rfl
          have zv17809 : (0 : Int32).toInt = 0 := rfl
          have x17814 := rX.e hI17758 (b := 2) ((((hF17759.1 176 2 (by decide)).trans (hF17608.1 176 2 (by decide))).trans hv17768))
          have x17815 := rX.e hI17758 (b := 4) (hv17766)
          obtain ⟨o17810, o17811, o17812, o17813⟩ := hr17807
          have o17816 := OPD.tc o17812 (((hF17759.2.1 175 (by decide)).trans ((hF17608.2.1 175 (by decide)).trans (hF17583.2.1 175 (by decide))))) (((hF17759.1 174 1 (by decide)).trans ((hF17608.1 174 1 (by decide)).trans (hF17583.1 174 1 (by decide)))))
          obtain ⟨v17817, hv17817⟩ : ∃ v, gI g17803 176 2 = v := ⟨_, rfl⟩
          have tv17817 := congrArg Int32.toInt hv17817
          have x17818 := rX.e hI17804 (b := 2) (hv17817)
          obtain ⟨v17819, hv17819⟩ : ∃ v, gI g17803 176 4 = v := ⟨_, rfl⟩
          have rv17819 := RgF.at hI17804.2.1 (p := 176) (b := 4) rfl
          rw [hv17819] at rv17819
          dsimp only at rv17819
          have tv17819 := congrArg Int32.toInt hv17819
          have x17820 := rX.e hI17804 (b := 4) (hv17819)
          refine At.enter rfl ?_
          refine r_aload_n e17587 ?_
          refine r_bipush 41 rfl ?_
          refine q_inlV 76 rfl [.ref 176, .int 41] [] (Nat.le_of_ble_eq_true rfl) rfl ?_
          refine Ev.mk rfl rfl ⟨Nat.le_of_ble_eq_true rfl, Or.inr (q_rc hI17804.1 kx_176 rfl)⟩ ?_
          show At _ none _ _ (0, [(0, .ref 176), (1, .int 41)], [], (_, _)) _
          refine At.enter rfl ?_
          refine r_aload_n rfl ?_
          refine r_iload_n rfl ?_
          refine r_callV 5 rfl [.ref 176, .int 41] [] (Nat.le_of_ble_eq_true rfl) rfl (zT_X5_isSingle_176 _ hI17804 41 (by decide)) ?_
          rintro _ _ ⟨g17821, rfl, hI17822, hF17823, v17824, rfl, hr17825⟩
          refine At.sti ?_
          have hF17826 := Fr.tr hF17808 hF17823 rfl rfl
          have zv17827 : (41 : Int32).toInt = 41 := rfl
          have hb17828 : BL (CDX g17803 = 9) v17824.toInt := ISX.code (c := 9) hr17825.2 o17810 (isSC_d (by omega)) (by decide)
          refine At.enter rfl ?_
          refine r_ifs 8 rfl (fun c17829 => ?_) (fun c17829 => ?_)
          · have c17829_ : v17824.toInt = 0 := en_k_eq_t c17829
            have i17830 := BL.no hb17828 (by omega)
            refine At.enter rfl ?_
            refine r_aload_n rfl ?_
            refine q_inlV 19 rfl [.ref 176] [] (Nat.le_of_ble_eq_true rfl) rfl ?_
            refine Ev.mk rfl rfl ⟨Nat.le_of_ble_eq_true rfl, Or.inr (q_rc hI17822.1 kx_176 rfl)⟩ ?_
            show At _ none _ _ (0, [(0, .ref 176)], [], (_, _)) _
            refine At.enter rfl ?_
            refine r_aload_n rfl ?_
            refine q_getI (Sh.int hI17822.1 kx_176 rfl) v17817 ((hF17823.1 176 2 (by decide)).trans hv17817) ?_
            refine r_iconst (-1) rfl ?_
            refine r_ics 8 rfl (fun c17831 => ?_) (fun c17831 => ?_)
            · have c17831_ : v17817.toInt ≠ (-1) := en_i_ne_t c17831
              refine At.enter rfl ?_
              refine q_vret ?_
              refine At.enter rfl ?_
              refine q_vret ?_
              refine At.enter rfl ?_
              refine r_goto ?_
              refine At.enter rfl ?_
              refine r_iload_n e17589 ?_
              refine r_ifs 124 rfl (fun c17832 => ?_) (fun c17832 => ?_)
              · have c17832_ : x17579.toInt = 0 := en_k_eq_t c17832
                refine At.enter rfl ?_
                refine r_vret ?_
                have x17833 := rX.e hI17822 (b := 2) (((hF17823.1 176 2 (by decide)).trans hv17817))
                have x17834 := rX.e hI17822 (b := 4) (((hF17823.1 176 4 (by decide)).trans hv17819))
                obtain ⟨v17835, hv17835⟩ : ∃ v, gI g17803 176 6 = v := ⟨_, rfl⟩
                have tv17835 := congrArg Int32.toInt hv17835
                have x17836 := rX.e hI17822 (b := 6) (((hF17823.1 176 6 (by decide)).trans hv17835))
                obtain ⟨v17837, hv17837⟩ : ∃ v, gI g0 176 2 = v := ⟨_, rfl⟩
                have tv17837 := congrArg Int32.toInt hv17837
                have x17838 := rX.e hI0 (b := 2) (hv17837)
                have x17839 := rX.e hI0 (b := 4) (hv17599)
                have x17840 := rX.e hI17582 (b := 2) (hv17768)
                have x17841 := rX.e hI17582 (b := 4) (hv17602)
                have x17842 := rX.e hI17758 (b := 2) ((((hF17759.1 176 2 (by decide)).trans (hF17608.1 176 2 (by decide))).trans hv17768))
                have x17843 := rX.e hI17758 (b := 4) (hv17766)
                obtain ⟨v17844, hv17844⟩ : ∃ v, gI g17581 176 6 = v := ⟨_, rfl⟩
                have tv17844 := congrArg Int32.toInt hv17844
                have x17845 := rX.e hI17758 (b := 6) ((((hF17759.1 176 6 (by decide)).trans (hF17608.1 176 6 (by decide))).trans hv17844))
                have x17846 := rX.e hI17804 (b := 2) (hv17817)
                have x17847 := rX.e hI17804 (b := 4) (hv17819)
                have x17848 := rX.e hI17804 (b := 6) (hv17835)
                exact ⟨_, rfl, hI17822, hF17826, rfl, ⟨(TKX.c o17810 ((hF17823.2.1 175 (by decide))) ((hF17823.1 174 1 (by decide))) ((hF17823.1 176 3 (by decide))) ((hF17823.1 176 4 (by decide))) ((hF17823.1 176 5 (by decide)))), ((PRG0.tr ((PRG0.tr ((PRG0.tr (q17595) (PRG0.step q17593 tok17763_ (rX.c (b := 2) (((hF17759.1 176 2 (by decide)).trans (hF17608.1 176 2 (by decide))))) (by omega)))) (o17811))) (PRG0.fail 1 (rX.c (b := 4) ((hF17823.1 176 4 (by decide)))) (fun _ => by omega) (fun _ => by omega) (by omega)))).le (by omega), PLO.rndF q17594 tok17763 (by omega) (by omega) (rX.c (b := 2) (((hF17759.1 176 2 (by decide)).trans (hF17608.1 176 2 (by decide))))) (rX.c (b := 6) (((hF17759.1 176 6 (by decide)).trans (hF17608.1 176 6 (by decide))))) (OPD.cast o17816 rfl (by omega)) (TKX.someC o17810 (((hF17805.2.1 175 (by decide)).trans ((hF17759.2.1 175 (by decide)).trans ((hF17608.2.1 175 (by decide)).trans (hF17583.2.1 175 (by decide)))))) (((hF17805.1 174 1 (by decide)).trans ((hF17759.1 174 1 (by decide)).trans ((hF17608.1 174 1 (by decide)).trans (hF17583.1 174 1 (by decide))))))).choose_spec o17813 (by omega) (fun _ => by omega) (fun _ => by omega) (by omega)⟩⟩
              · have c17832_ : x17579.toInt ≠ 0 := en_k_eq_f c17832
                refine At.enter rfl ?_
                refine r_aload_n e17587 ?_
                refine q_getR (Sh.ref hI17822.1 kx_176 rfl) ?_
                refine r_bipush 9 rfl ?_
                refine r_iconst 0 rfl ?_
                refine r_callV 134 rfl [.ref 177, .int 9, .int 0] [] (Nat.le_of_ble_eq_true rfl) rfl (zT_X4_add_177 _ hI17822 9 0) ?_
                rintro _ _ ⟨g17849, rfl, hI17850, hF17851, v17852, rfl, hr17853⟩
                refine At.sti ?_
                have hF17854 := Fr.tr hF17826 hF17851 rfl rfl
                refine At.enter rfl ?_
                refine r_pop rfl ?_
                refine Ar.fall 135 rfl ?_
                refine At.enter rfl ?_
                refine r_vret ?_
                have x17855 := rX.e hI17850 (b := 2) ((((hF17851.1 176 2 (by decide)).trans (hF17823.1 176 2 (by decide))).trans hv17817))
                have x17856 := rX.e hI17850 (b := 4) ((((hF17851.1 176 4 (by decide)).trans (hF17823.1 176 4 (by decide))).trans hv17819))
                obtain ⟨v17857, hv17857⟩ : ∃ v, gI g17803 176 6 = v := ⟨_, rfl⟩
                have tv17857 := congrArg Int32.toInt hv17857
                have x17858 := rX.e hI17850 (b := 6) ((((hF17851.1 176 6 (by decide)).trans (hF17823.1 176 6 (by decide))).trans hv17857))
                obtain ⟨v17859, hv17859⟩ : ∃ v, gI g0 176 2 = v := ⟨_, rfl⟩
                have tv17859 := congrArg Int32.toInt hv17859
                have x17860 := rX.e hI0 (b := 2) (hv17859)
                have x17861 := rX.e hI0 (b := 4) (hv17599)
                have x17862 := rX.e hI17582 (b := 2) (hv17768)
                have x17863 := rX.e hI17582 (b := 4) (hv17602)
                have x17864 := rX.e hI17758 (b := 2) ((((hF17759.1 176 2 (by decide)).trans (hF17608.1 176 2 (by decide))).trans hv17768))
                have x17865 := rX.e hI17758 (b := 4) (hv17766)
                obtain ⟨v17866, hv17866⟩ : ∃ v, gI g17581 176 6 = v := ⟨_, rfl⟩
                have tv17866 := congrArg Int32.toInt hv17866
                have x17867 := rX.e hI17758 (b := 6) ((((hF17759.1 176 6 (by decide)).trans (hF17608.1 176 6 (by decide))).trans hv17866))
                have x17868 := rX.e hI17804 (b := 2) (hv17817)
                have x17869 := rX.e hI17804 (b := 4) (hv17819)
                have x17870 := rX.e hI17804 (b := 6) (hv17857)
                exact ⟨_, rfl, hI17850, hF17854, rfl, ⟨(TKX.c o17810 (((hF17851.2.1 175 (by decide)).trans (hF17823.2.1 175 (by decide)))) (((hF17851.1 174 1 (by decide)).trans (hF17823.1 174 1 (by decide)))) (((hF17851.1 176 3 (by decide)).trans (hF17823.1 176 3 (by decide)))) (((hF17851.1 176 4 (by decide)).trans (hF17823.1 176 4 (by decide)))) (((hF17851.1 176 5 (by decide)).trans (hF17823.1 176 5 (by decide))))), ((PRG0.tr ((PRG0.tr ((PRG0.tr (q17595) (PRG0.step q17593 tok17763_ (rX.c (b := 2) (((hF17759.1 176 2 (by decide)).trans (hF17608.1 176 2 (by decide))))) (by omega)))) (o17811))) (PRG0.fail 1 (rX.c (b := 4) (((hF17851.1 176 4 (by decide)).trans (hF17823.1 176 4 (by decide))))) (fun _ => by omega) (fun _ => by omega) (by omega)))).le (by omega), PLO.rndF q17594 tok17763 (by omega) (by omega) (rX.c (b := 2) (((hF17759.1 176 2 (by decide)).trans (hF17608.1 176 2 (by decide))))) (rX.c (b := 6) (((hF17759.1 176 6 (by decide)).trans (hF17608.1 176 6 (by decide))))) (OPD.cast o17816 rfl (by omega)) (TKX.someC o17810 (((hF17805.2.1 175 (by decide)).trans ((hF17759.2.1 175 (by decide)).trans ((hF17608.2.1 175 (by decide)).trans (hF17583.2.1 175 (by decide)))))) (((hF17805.1 174 1 (by decide)).trans ((hF17759.1 174 1 (by decide)).trans ((hF17608.1 174 1 (by decide)).trans (hF17583.1 174 1 (by decide))))))).choose_spec o17813 (by omega) (fun _ => by omega) (fun _ => by omega) (by omega)⟩⟩
            · have c17831_ : v17817.toInt = (-1) := en_i_ne_f c17831
              refine At.enter rfl ?_
              refine r_aload_n rfl ?_
              refine r_aload_n rfl ?_
              refine q_getI (Sh.int hI17822.1 kx_176 rfl) v17819 ((hF17823.1 176 4 (by decide)).trans hv17819) ?_
              refine q_putI (Sh.int hI17822.1 kx_176 rfl) rfl ?_
              have hI17871 := HI.wI0 hI17822 kx_176 rfl (p := 176) (b := 2) (v := v17819) rfl
              have hF17872 := Fr.wI (p := 176) (b := 2) (v := v17819) hF17826 rfl
              refine Ar.fall 16 rfl ?_
              refine At.enter rfl ?_
              refine q_vret ?_
              refine At.enter rfl ?_
              refine q_vret ?_
              refine At.enter rfl ?_
              refine r_goto ?_
              refine At.enter rfl ?_
              refine r_iload_n e17589 ?_
              refine r_ifs 124 rfl (fun c17873 => ?_) (fun c17873 => ?_)
              · have c17873_ : x17579.toInt = 0 := en_k_eq_t c17873
                refine At.enter rfl ?_
                refine r_vret ?_
                have x17874 := rX.e hI17871 (b := 2) ((gI_sI_eq hI17822.1 kx_176 rfl _))
                have x17875 := rX.e hI17871 (b := 4) ((((gI_sI_ne (by decide)).trans (hF17823.1 176 4 (by decide))).trans hv17819))
                obtain ⟨v17876, hv17876⟩ : ∃ v, gI g17803 176 6 = v := ⟨_, rfl⟩
                have tv17876 := congrArg Int32.toInt hv17876
                have x17877 := rX.e hI17871 (b := 6) ((((gI_sI_ne (by decide)).trans (hF17823.1 176 6 (by decide))).trans hv17876))
                obtain ⟨v17878, hv17878⟩ : ∃ v, gI g0 176 2 = v := ⟨_, rfl⟩
                have tv17878 := congrArg Int32.toInt hv17878
                have x17879 := rX.e hI0 (b := 2) (hv17878)
                have x17880 := rX.e hI0 (b := 4) (hv17599)
                have x17881 := rX.e hI17582 (b := 2) (hv17768)
                have x17882 := rX.e hI17582 (b := 4) (hv17602)
                have x17883 := rX.e hI17758 (b := 2) ((((hF17759.1 176 2 (by decide)).trans (hF17608.1 176 2 (by decide))).trans hv17768))
                have x17884 := rX.e hI17758 (b := 4) (hv17766)
                obtain ⟨v17885, hv17885⟩ : ∃ v, gI g17581 176 6 = v := ⟨_, rfl⟩
                have tv17885 := congrArg Int32.toInt hv17885
                have x17886 := rX.e hI17758 (b := 6) ((((hF17759.1 176 6 (by decide)).trans (hF17608.1 176 6 (by decide))).trans hv17885))
                have x17887 := rX.e hI17804 (b := 2) (hv17817)
                have x17888 := rX.e hI17804 (b := 4) (hv17819)
                have x17889 := rX.e hI17804 (b := 6) (hv17876)
                exact ⟨_, rfl, hI17871, hF17872, rfl, ⟨(TKX.c o17810 (((gA_sI).trans (hF17823.2.1 175 (by decide)))) (((gI_sI_ne (by decide)).trans (hF17823.1 174 1 (by decide)))) (((gI_sI_ne (by decide)).trans (hF17823.1 176 3 (by decide)))) (((gI_sI_ne (by decide)).trans (hF17823.1 176 4 (by decide)))) (((gI_sI_ne (by decide)).trans (hF17823.1 176 5 (by decide))))), ((PRG0.tr ((PRG0.tr ((PRG0.tr (q17595) (PRG0.step q17593 tok17763_ (rX.c (b := 2) (((hF17759.1 176 2 (by decide)).trans (hF17608.1 176 2 (by decide))))) (by omega)))) (o17811))) (PRG0.fail 1 (rX.c (b := 4) (((gI_sI_ne (by decide)).trans (hF17823.1 176 4 (by decide))))) (fun _ => by omega) (fun _ => by omega) (by omega)))).le (by omega), PLO.rndF q17594 tok17763 (by omega) (by omega) (rX.c (b := 2) (((hF17759.1 176 2 (by decide)).trans (hF17608.1 176 2 (by decide))))) (rX.c (b := 6) (((hF17759.1 176 6 (by decide)).trans (hF17608.1 176 6 (by decide))))) (OPD.cast o17816 rfl (by omega)) (TKX.someC o17810 (((hF17805.2.1 175 (by decide)).trans ((hF17759.2.1 175 (by decide)).trans ((hF17608.2.1 175 (by decide)).trans (hF17583.2.1 175 (by decide)))))) (((hF17805.1 174 1 (by decide)).trans ((hF17759.1 174 1 (by decide)).trans ((hF17608.1 174 1 (by decide)).trans (hF17583.1 174 1 (by decide))))))).choose_spec o17813 (by omega) (fun _ => by omega) (fun _ => by omega) (by omega)⟩⟩
              · have c17873_ : x17579.toInt ≠ 0 := en_k_eq_f c17873
                refine At.enter rfl ?_
                refine r_aload_n e17587 ?_
                refine q_getR (Sh.ref hI17871.1 kx_176 rfl) ?_
                refine r_bipush 9 rfl ?_
                refine r_iconst 0 rfl ?_
                refine r_callV 134 rfl [.ref 177, .int 9, .int 0] [] (Nat.le_of_ble_eq_true rfl) rfl (zT_X4_add_177 _ hI17871 9 0) ?_
                rintro _ _ ⟨g17890, rfl, hI17891, hF17892, v17893, rfl, hr17894⟩
                refine At.sti ?_
                have hF17895 := Fr.tr hF17872 hF17892 rfl rfl
                refine At.enter rfl ?_
                refine r_pop rfl ?_
                refine Ar.fall 135 rfl ?_
                refine At.enter rfl ?_
                refine r_vret ?_
                have x17896 := rX.e hI17891 (b := 2) (((hF17892.1 176 2 (by decide)).trans (gI_sI_eq hI17822.1 kx_176 rfl _)))
                have x17897 := rX.e hI17891 (b := 4) ((((hF17892.1 176 4 (by decide)).trans ((gI_sI_ne (by decide)).trans (hF17823.1 176 4 (by decide)))).trans hv17819))
                obtain ⟨v17898, hv17898⟩ : ∃ v, gI g17803 176 6 = v := ⟨_, rfl⟩
                have tv17898 := congrArg Int32.toInt hv17898
                have x17899 := rX.e hI17891 (b := 6) ((((hF17892.1 176 6 (by decide)).trans ((gI_sI_ne (by decide)).trans (hF17823.1 176 6 (by decide)))).trans hv17898))
                obtain ⟨v17900, hv17900⟩ : ∃ v, gI g0 176 2 = v := ⟨_, rfl⟩
                have tv17900 := congrArg Int32.toInt hv17900
                have x17901 := rX.e hI0 (b := 2) (hv17900)
                have x17902 := rX.e hI0 (b := 4) (hv17599)
                have x17903 := rX.e hI17582 (b := 2) (hv17768)
                have x17904 := rX.e hI17582 (b := 4) (hv17602)
                have x17905 := rX.e hI17758 (b := 2) ((((hF17759.1 176 2 (by decide)).trans (hF17608.1 176 2 (by decide))).trans hv17768))
                have x17906 := rX.e hI17758 (b := 4) (hv17766)
                obtain ⟨v17907, hv17907⟩ : ∃ v, gI g17581 176 6 = v := ⟨_, rfl⟩
                have tv17907 := congrArg Int32.toInt hv17907
                have x17908 := rX.e hI17758 (b := 6) ((((hF17759.1 176 6 (by decide)).trans (hF17608.1 176 6 (by decide))).trans hv17907))
                have x17909 := rX.e hI17804 (b := 2) (hv17817)
                have x17910 := rX.e hI17804 (b := 4) (hv17819)
                have x17911 := rX.e hI17804 (b := 6) (hv17898)
                exact ⟨_, rfl, hI17891, hF17895, rfl, ⟨(TKX.c o17810 (((hF17892.2.1 175 (by decide)).trans ((gA_sI).trans (hF17823.2.1 175 (by decide))))) (((hF17892.1 174 1 (by decide)).trans ((gI_sI_ne (by decide)).trans (hF17823.1 174 1 (by decide))))) (((hF17892.1 176 3 (by decide)).trans ((gI_sI_ne (by decide)).trans (hF17823.1 176 3 (by decide))))) (((hF17892.1 176 4 (by decide)).trans ((gI_sI_ne (by decide)).trans (hF17823.1 176 4 (by decide))))) (((hF17892.1 176 5 (by decide)).trans ((gI_sI_ne (by decide)).trans (hF17823.1 176 5 (by decide)))))), ((PRG0.tr ((PRG0.tr ((PRG0.tr (q17595) (PRG0.step q17593 tok17763_ (rX.c (b := 2) (((hF17759.1 176 2 (by decide)).trans (hF17608.1 176 2 (by decide))))) (by omega)))) (o17811))) (PRG0.fail 1 (rX.c (b := 4) (((hF17892.1 176 4 (by decide)).trans ((gI_sI_ne (by decide)).trans (hF17823.1 176 4 (by decide)))))) (fun _ => by omega) (fun _ => by omega) (by omega)))).le (by omega), PLO.rndF q17594 tok17763 (by omega) (by omega) (rX.c (b := 2) (((hF17759.1 176 2 (by decide)).trans (hF17608.1 176 2 (by decide))))) (rX.c (b := 6) (((hF17759.1 176 6 (by decide)).trans (hF17608.1 176 6 (by decide))))) (OPD.cast o17816 rfl (by omega)) (TKX.someC o17810 (((hF17805.2.1 175 (by decide)).trans ((hF17759.2.1 175 (by decide)).trans ((hF17608.2.1 175 (by decide)).trans (hF17583.2.1 175 (by decide)))))) (((hF17805.1 174 1 (by decide)).trans ((hF17759.1 174 1 (by decide)).trans ((hF17608.1 174 1 (by decide)).trans (hF17583.1 174 1 (by decide))))))).choose_spec o17813 (by omega) (fun _ => by omega) (fun _ => by omega) (by omega)⟩⟩
          · have c17829_ : v17824.toInt ≠ 0 := en_k_eq_f c17829
            have i17912 := BL.yes hb17828 (by omega)
            refine At.enter rfl ?_
            refine r_aload_n rfl ?_
            refine r_callV 12 rfl [.ref 176] [] (Nat.le_of_ble_eq_true rfl) rfl (zT_X5_step_176 _ hI17822 (TKX.c o17810 ((hF17823.2.1 175 (by decide))) ((hF17823.1 174 1 (by decide))) ((hF17823.1 176 3 (by decide))) ((hF17823.1 176 4 (by decide))) ((hF17823.1 176 5 (by decide)))).1 (TKX.c o17810 ((hF17823.2.1 175 (by decide))) ((hF17823.1 174 1 (by decide))) ((hF17823.1 176 3 (by decide))) ((hF17823.1 176 4 (by decide))) ((hF17823.1 176 5 (by decide)))).2.1.le.2.1) ?_
            rintro _ _ ⟨g17913, rfl, hI17914, hF17915, rfl, hr17917⟩
            refine At.stn ?_
            have hF17918 := Fr.tr hF17826 hF17915 rfl rfl
            have tok17919_ := hr17917.2
            rw [TX.c ((hF17823.2.1 175 (by decide))), nX.c ((hF17823.1 174 1 (by decide))), rX.c (b := 5) ((hF17823.1 176 5 (by decide)))] at tok17919_
            have tok17919 := TKX.tok o17810 tok17919_
            rw [TX.c (((hF17805.2.1 175 (by decide)).trans ((hF17759.2.1 175 (by decide)).trans ((hF17608.2.1 175 (by decide)).trans (hF17583.2.1 175 (by decide)))))), nX.c (((hF17805.1 174 1 (by decide)).trans ((hF17759.1 174 1 (by decide)).trans ((hF17608.1 174 1 (by decide)).trans (hF17583.1 174 1 (by decide))))))] at tok17919
            have hT17920 := hr17917.1
            have x17921 := rX.e hI17822 (b := 4) (((hF17823.1 176 4 (by decide)).trans hv17819))
            obtain ⟨v17922, hv17922⟩ : ∃ v, gI g17913 176 4 = v := ⟨_, rfl⟩
            have rv17922 := RgF.at hI17914.2.1 (p := 176) (b := 4) rfl
            rw [hv17922] at rv17922
            dsimp only at rv17922
            have tv17922 := congrArg Int32.toInt hv17922
            have x17923 := rX.e hI17914 (b := 4) (hv17922)
            refine At.enter rfl ?_
            refine r_goto ?_
            refine At.enter rfl ?_
            refine q_vret ?_
            refine At.enter rfl ?_
            refine r_goto ?_
            refine At.enter rfl ?_
            refine r_iload_n e17589 ?_
            refine r_ifs 124 rfl (fun c17924 => ?_) (fun c17924 => ?_)
            · have c17924_ : x17579.toInt = 0 := en_k_eq_t c17924
              refine At.enter rfl ?_
              refine r_vret ?_
              have x17925 := rX.e hI17914 (b := 2) ((((hF17915.1 176 2 (by decide)).trans (hF17823.1 176 2 (by decide))).trans hv17817))
              have x17926 := rX.e hI17914 (b := 4) (hv17922)
              obtain ⟨v17927, hv17927⟩ : ∃ v, gI g17803 176 6 = v := ⟨_, rfl⟩
              have tv17927 := congrArg Int32.toInt hv17927
              have x17928 := rX.e hI17914 (b := 6) ((((hF17915.1 176 6 (by decide)).trans (hF17823.1 176 6 (by decide))).trans hv17927))
              obtain ⟨v17929, hv17929⟩ : ∃ v, gI g0 176 2 = v := ⟨_, rfl⟩
              have tv17929 := congrArg Int32.toInt hv17929
              have x17930 := rX.e hI0 (b := 2) (hv17929)
              have x17931 := rX.e hI0 (b := 4) (hv17599)
              have x17932 := rX.e hI17582 (b := 2) (hv17768)
              have x17933 := rX.e hI17582 (b := 4) (hv17602)
              have x17934 := rX.e hI17758 (b := 2) ((((hF17759.1 176 2 (by decide)).trans (hF17608.1 176 2 (by decide))).trans hv17768))
              have x17935 := rX.e hI17758 (b := 4) (hv17766)
              obtain ⟨v17936, hv17936⟩ : ∃ v, gI g17581 176 6 = v := ⟨_, rfl⟩
              have tv17936 := congrArg Int32.toInt hv17936
              have x17937 := rX.e hI17758 (b := 6) ((((hF17759.1 176 6 (by decide)).trans (hF17608.1 176 6 (by decide))).trans hv17936))
              have x17938 := rX.e hI17804 (b := 2) (hv17817)
              have x17939 := rX.e hI17804 (b := 4) (hv17819)
              have x17940 := rX.e hI17804 (b := 6) (hv17927)
              have x17941 := rX.e hI17914 (b := 2) ((((hF17915.1 176 2 (by decide)).trans (hF17823.1 176 2 (by decide))).trans hv17817))
              have x17942 := rX.e hI17914 (b := 4) (hv17922)
              have x17943 := rX.e hI17914 (b := 6) ((((hF17915.1 176 6 (by decide)).trans (hF17823.1 176 6 (by decide))).trans hv17927))
              exact ⟨_, rfl, hI17914, hF17918, rfl, ⟨hT17920, ((PRG0.tr ((PRG0.tr ((PRG0.tr ((PRG0.tr (q17595) (PRG0.step q17593 tok17763_ (rX.c (b := 2) (((hF17759.1 176 2 (by decide)).trans (hF17608.1 176 2 (by decide))))) (by omega)))) (o17811))) (PRG0.step o17810 tok17919_ (rX.c (b := 2) (((hF17915.1 176 2 (by decide)).trans (hF17823.1 176 2 (by decide))))) (by omega)))) (PRG0.eq rfl rfl))).le (by omega), PLO.rnd q17594 tok17763 (by omega) (by omega) (rX.c (b := 2) (((hF17759.1 176 2 (by decide)).trans (hF17608.1 176 2 (by decide))))) (rX.c (b := 6) (((hF17759.1 176 6 (by decide)).trans (hF17608.1 176 6 (by decide))))) (OPD.cast o17816 rfl (by omega)) tok17919 (by omega) (rX.c (b := 2) (((hF17915.1 176 2 (by decide)).trans (hF17823.1 176 2 (by decide))))) (rX.c (b := 6) (((hF17915.1 176 6 (by decide)).trans (hF17823.1 176 6 (by decide))))) rfl rfl rfl⟩⟩
            · have c17924_ : x17579.toInt ≠ 0 := en_k_eq_f c17924
              refine At.enter rfl ?_
              refine r_aload_n e17587 ?_
              refine q_getR (Sh.ref hI17914.1 kx_176 rfl) ?_
              refine r_bipush 9 rfl ?_
              refine r_iconst 0 rfl ?_
              refine r_callV 134 rfl [.ref 177, .int 9, .int 0] [] (Nat.le_of_ble_eq_true rfl) rfl (zT_X4_add_177 _ hI17914 9 0) ?_
              rintro _ _ ⟨g17944, rfl, hI17945, hF17946, v17947, rfl, hr17948⟩
              refine At.sti ?_
              have hF17949 := Fr.tr hF17918 hF17946 rfl rfl
              refine At.enter rfl ?_
              refine r_pop rfl ?_
              refine Ar.fall 135 rfl ?_
              refine At.enter rfl ?_
              refine r_vret ?_
              have x17950 := rX.e hI17945 (b := 2) ((((hF17946.1 176 2 (by decide)).trans ((hF17915.1 176 2 (by decide)).trans (hF17823.1 176 2 (by decide)))).trans hv17817))
              have x17951 := rX.e hI17945 (b := 4) (((hF17946.1 176 4 (by decide)).trans hv17922))
              obtain ⟨v17952, hv17952⟩ : ∃ v, gI g17803 176 6 = v := ⟨_, rfl⟩
              have tv17952 := congrArg Int32.toInt hv17952
              have x17953 := rX.e hI17945 (b := 6) ((((hF17946.1 176 6 (by decide)).trans ((hF17915.1 176 6 (by decide)).trans (hF17823.1 176 6 (by decide)))).trans hv17952))
              obtain ⟨v17954, hv17954⟩ : ∃ v, gI g0 176 2 = v := ⟨_, rfl⟩
              have tv17954 := congrArg Int32.toInt hv17954
              have x17955 := rX.e hI0 (b := 2) (hv17954)
              have x17956 := rX.e hI0 (b := 4) (hv17599)
              have x17957 := rX.e hI17582 (b := 2) (hv17768)
              have x17958 := rX.e hI17582 (b := 4) (hv17602)
              have x17959 := rX.e hI17758 (b := 2) ((((hF17759.1 176 2 (by decide)).trans (hF17608.1 176 2 (by decide))).trans hv17768))
              have x17960 := rX.e hI17758 (b := 4) (hv17766)
              obtain ⟨v17961, hv17961⟩ : ∃ v, gI g17581 176 6 = v := ⟨_, rfl⟩
              have tv17961 := congrArg Int32.toInt hv17961
              have x17962 := rX.e hI17758 (b := 6) ((((hF17759.1 176 6 (by decide)).trans (hF17608.1 176 6 (by decide))).trans hv17961))
              have x17963 := rX.e hI17804 (b := 2) (hv17817)
              have x17964 := rX.e hI17804 (b := 4) (hv17819)
              have x17965 := rX.e hI17804 (b := 6) (hv17952)
              have x17966 := rX.e hI17914 (b := 2) ((((hF17915.1 176 2 (by decide)).trans (hF17823.1 176 2 (by decide))).trans hv17817))
              have x17967 := rX.e hI17914 (b := 4) (hv17922)
              have x17968 := rX.e hI17914 (b := 6) ((((hF17915.1 176 6 (by decide)).trans (hF17823.1 176 6 (by decide))).trans hv17952))
              exact ⟨_, rfl, hI17945, hF17949, rfl, ⟨(TKX.c hT17920 ((hF17946.2.1 175 (by decide))) ((hF17946.1 174 1 (by decide))) ((hF17946.1 176 3 (by decide))) ((hF17946.1 176 4 (by decide))) ((hF17946.1 176 5 (by decide)))), ((PRG0.tr ((PRG0.tr ((PRG0.tr ((PRG0.tr (q17595) (PRG0.step q17593 tok17763_ (rX.c (b := 2) (((hF17759.1 176 2 (by decide)).trans (hF17608.1 176 2 (by decide))))) (by omega)))) (o17811))) (PRG0.step o17810 tok17919_ (rX.c (b := 2) (((hF17915.1 176 2 (by decide)).trans (hF17823.1 176 2 (by decide))))) (by omega)))) (PRG0.eq (rX.c (b := 4) ((hF17946.1 176 4 (by decide)))) (rX.c (b := 2) ((hF17946.1 176 2 (by decide))))))).le (by omega), PLO.rnd q17594 tok17763 (by omega) (by omega) (rX.c (b := 2) (((hF17759.1 176 2 (by decide)).trans (hF17608.1 176 2 (by decide))))) (rX.c (b := 6) (((hF17759.1 176 6 (by decide)).trans (hF17608.1 176 6 (by decide))))) (OPD.cast o17816 rfl (by omega)) tok17919 (by omega) (rX.c (b := 2) (((hF17915.1 176 2 (by decide)).trans (hF17823.1 176 2 (by decide))))) (rX.c (b := 6) (((hF17915.1 176 6 (by decide)).trans (hF17823.1 176 6 (by decide))))) (rX.c (b := 2) ((hF17946.1 176 2 (by decide)))) (rX.c (b := 4) ((hF17946.1 176 4 (by decide)))) (rX.c (b := 6) ((hF17946.1 176 6 (by decide))))⟩⟩
      · have c17756_ : a1.toInt ≥ 8 := en_i_lt_f c17756
        refine At.enter rfl ?_
        refine r_aload_n rfl ?_
        refine q_inlV 10 rfl [.ref 176] [] (Nat.le_of_ble_eq_true rfl) rfl ?_
        refine Ev.mk rfl rfl ⟨Nat.le_of_ble_eq_true rfl, Or.inr (q_rc hI17607.1 kx_176 rfl)⟩ ?_
        show At _ none _ _ (0, [(0, .ref 176)], [], (_, _)) _
        refine At.enter rfl ?_
        refine r_aload_n rfl ?_
        obtain ⟨v17969, hv17969⟩ : ∃ v, gI g17581 176 2 = v := ⟨_, rfl⟩
        refine q_getI (Sh.int hI17607.1 kx_176 rfl) v17969 ((hF17608.1 176 2 (by decide)).trans hv17969) ?_
        refine r_iconst (-1) rfl ?_
        refine r_ics 8 rfl (fun c17970 => ?_) (fun c17970 => ?_)
        · have c17970_ : v17969.toInt ≠ (-1) := en_i_ne_t c17970
          refine At.enter rfl ?_
          refine q_vret ?_
          refine At.enter rfl ?_
          refine r_goto ?_
          refine At.enter rfl ?_
          refine q_vret ?_
          refine At.enter rfl ?_
          refine r_aload_n e17587 ?_
          refine q_getI (Sh.int hI17607.1 kx_176 rfl) v17969 ((hF17608.1 176 2 (by decide)).trans hv17969) ?_
          refine r_iconst (-1) rfl ?_
          refine r_ics 62 rfl (fun c17971 => ?_) (fun c17971 => ?_)
          · have c17971_ : v17969.toInt ≠ (-1) := en_i_ne_t c17971
            refine At.enter rfl ?_
            refine r_iload_n e17589 ?_
            refine r_ifs 124 rfl (fun c17972 => ?_) (fun c17972 => ?_)
            · have c17972_ : x17579.toInt = 0 := en_k_eq_t c17972
              refine At.enter rfl ?_
              refine r_vret ?_
              have x17973 := rX.e hI17607 (b := 2) (((hF17608.1 176 2 (by decide)).trans hv17969))
              have x17974 := rX.e hI17607 (b := 4) (((hF17608.1 176 4 (by decide)).trans hv17602))
              obtain ⟨v17975, hv17975⟩ : ∃ v, gI g17581 176 6 = v := ⟨_, rfl⟩
              have tv17975 := congrArg Int32.toInt hv17975
              have x17976 := rX.e hI17607 (b := 6) (((hF17608.1 176 6 (by decide)).trans hv17975))
              obtain ⟨v17977, hv17977⟩ : ∃ v, gI g0 176 2 = v := ⟨_, rfl⟩
              have tv17977 := congrArg Int32.toInt hv17977
              have x17978 := rX.e hI0 (b := 2) (hv17977)
              have x17979 := rX.e hI0 (b := 4) (hv17599)
              have x17980 := rX.e hI17582 (b := 2) (hv17969)
              have x17981 := rX.e hI17582 (b := 4) (hv17602)
              exact ⟨_, rfl, hI17607, hF17611, rfl, ⟨(TKX.c q17593 ((hF17608.2.1 175 (by decide))) ((hF17608.1 174 1 (by decide))) ((hF17608.1 176 3 (by decide))) ((hF17608.1 176 4 (by decide))) ((hF17608.1 176 5 (by decide)))), ((PRG0.tr (q17595) (PRG0.fail 1 (rX.c (b := 4) ((hF17608.1 176 4 (by decide)))) (fun _ => by omega) (fun _ => by omega) (by omega)))).le (by omega), PLO.deep q17594 (TKX.someC q17593 ((hF17583.2.1 175 (by decide))) ((hF17583.1 174 1 (by decide)))).choose_spec (by omega) (by omega) (fun _ => by omega) (fun _ => by omega) (by omega)⟩⟩
            · have c17972_ : x17579.toInt ≠ 0 := en_k_eq_f c17972
              refine At.enter rfl ?_
              refine r_aload_n e17587 ?_
              refine q_getR (Sh.ref hI17607.1 kx_176 rfl) ?_
              refine r_bipush 9 rfl ?_
              refine r_iconst 0 rfl ?_
              refine r_callV 134 rfl [.ref 177, .int 9, .int 0] [] (Nat.le_of_ble_eq_true rfl) rfl (zT_X4_add_177 _ hI17607 9 0) ?_
              rintro _ _ ⟨g17982, rfl, hI17983, hF17984, v17985, rfl, hr17986⟩
              refine At.sti ?_
              have hF17987 := Fr.tr hF17611 hF17984 rfl rfl
              refine At.enter rfl ?_
              refine r_pop rfl ?_
              refine Ar.fall 135 rfl ?_
              refine At.enter rfl ?_
              refine r_vret ?_
              have x17988 := rX.e hI17983 (b := 2) ((((hF17984.1 176 2 (by decide)).trans (hF17608.1 176 2 (by decide))).trans hv17969))
              have x17989 := rX.e hI17983 (b := 4) ((((hF17984.1 176 4 (by decide)).trans (hF17608.1 176 4 (by decide))).trans hv17602))
              obtain ⟨v17990, hv17990⟩ : ∃ v, gI g17581 176 6 = v := ⟨_, rfl⟩
              have tv17990 := congrArg Int32.toInt hv17990
              have x17991 := rX.e hI17983 (b := 6) ((((hF17984.1 176 6 (by decide)).trans (hF17608.1 176 6 (by decide))).trans hv17990))
              obtain ⟨v17992, hv17992⟩ : ∃ v, gI g0 176 2 = v := ⟨_, rfl⟩
              have tv17992 := congrArg Int32.toInt hv17992
              have x17993 := rX.e hI0 (b := 2) (hv17992)
              have x17994 := rX.e hI0 (b := 4) (hv17599)
              have x17995 := rX.e hI17582 (b := 2) (hv17969)
              have x17996 := rX.e hI17582 (b := 4) (hv17602)
              exact ⟨_, rfl, hI17983, hF17987, rfl, ⟨(TKX.c q17593 (((hF17984.2.1 175 (by decide)).trans (hF17608.2.1 175 (by decide)))) (((hF17984.1 174 1 (by decide)).trans (hF17608.1 174 1 (by decide)))) (((hF17984.1 176 3 (by decide)).trans (hF17608.1 176 3 (by decide)))) (((hF17984.1 176 4 (by decide)).trans (hF17608.1 176 4 (by decide)))) (((hF17984.1 176 5 (by decide)).trans (hF17608.1 176 5 (by decide))))), ((PRG0.tr (q17595) (PRG0.fail 1 (rX.c (b := 4) (((hF17984.1 176 4 (by decide)).trans (hF17608.1 176 4 (by decide))))) (fun _ => by omega) (fun _ => by omega) (by omega)))).le (by omega), PLO.deep q17594 (TKX.someC q17593 ((hF17583.2.1 175 (by decide))) ((hF17583.1 174 1 (by decide)))).choose_spec (by omega) (by omega) (fun _ => by omega) (fun _ => by omega) (by omega)⟩⟩
          · have c17971_ : v17969.toInt = (-1) := en_i_ne_f c17971
            refine At.enter rfl ?_
            refine r_aload_n e17587 ?_
            refine r_iconst 0 rfl ?_
            refine r_iload_n e17588 ?_
            refine r_iconst 1 rfl ?_
            refine q_iadd (a1.toInt + 1) rfl (by omega) (fun v17997 hv17997 => ?_)
            have zv17998 : (0 : Int32).toInt = 0 := rfl
            refine r_callV 70 rfl [.ref 176, .int 0, .int v17997] [] (Nat.le_of_ble_eq_true rfl) rfl (IHJ _ (by omega) hI17607 0 (by decide) v17997 (by omega) (by omega) (TKX.c q17593 ((hF17608.2.1 175 (by decide))) ((hF17608.1 174 1 (by decide))) ((hF17608.1 176 3 (by decide))) ((hF17608.1 176 4 (by decide))) ((hF17608.1 176 5 (by decide))))) ?_
            rintro _ _ ⟨g17999, rfl, hI18000, hF18001, rfl, hr18003⟩
            refine At.stn ?_
            have hF18004 := Fr.tr hF17611 hF18001 rfl rfl
            have zv18005 : (0 : Int32).toInt = 0 := rfl
            have x18010 := rX.e hI17607 (b := 2) (((hF17608.1 176 2 (by decide)).trans hv17969))
            have x18011 := rX.e hI17607 (b := 4) (((hF17608.1 176 4 (by decide)).trans hv17602))
            obtain ⟨o18006, o18007, o18008, o18009⟩ := hr18003
            have o18012 := OPD.tc o18008 (((hF17608.2.1 175 (by decide)).trans (hF17583.2.1 175 (by decide)))) (((hF17608.1 174 1 (by decide)).trans (hF17583.1 174 1 (by decide))))
            rw [rX.c (b := 2) ((hF17608.1 176 2 (by decide))), rX.c (b := 4) ((hF17608.1 176 4 (by decide)))] at o18007
            have o18013 := OPD.fr o18012 (rX.c (b := 2) ((hF17608.1 176 2 (by decide)))) (rX.c (b := 4) ((hF17608.1 176 4 (by decide)))) (rX.c (b := 6) ((hF17608.1 176 6 (by decide))))
            obtain ⟨v18014, hv18014⟩ : ∃ v, gI g17999 176 2 = v := ⟨_, rfl⟩
            have tv18014 := congrArg Int32.toInt hv18014
            have x18015 := rX.e hI18000 (b := 2) (hv18014)
            obtain ⟨v18016, hv18016⟩ : ∃ v, gI g17999 176 4 = v := ⟨_, rfl⟩
            have rv18016 := RgF.at hI18000.2.1 (p := 176) (b := 4) rfl
            rw [hv18016] at rv18016
            dsimp only at rv18016
            have tv18016 := congrArg Int32.toInt hv18016
            have x18017 := rX.e hI18000 (b := 4) (hv18016)
            refine At.enter rfl ?_
            refine r_aload_n e17587 ?_
            refine r_bipush 41 rfl ?_
            refine q_inlV 76 rfl [.ref 176, .int 41] [] (Nat.le_of_ble_eq_true rfl) rfl ?_
            refine Ev.mk rfl rfl ⟨Nat.le_of_ble_eq_true rfl, Or.inr (q_rc hI18000.1 kx_176 rfl)⟩ ?_
            show At _ none _ _ (0, [(0, .ref 176), (1, .int 41)], [], (_, _)) _
            refine At.enter rfl ?_
            refine r_aload_n rfl ?_
            refine r_iload_n rfl ?_
            refine r_callV 5 rfl [.ref 176, .int 41] [] (Nat.le_of_ble_eq_true rfl) rfl (zT_X5_isSingle_176 _ hI18000 41 (by decide)) ?_
            rintro _ _ ⟨g18018, rfl, hI18019, hF18020, v18021, rfl, hr18022⟩
            refine At.sti ?_
            have hF18023 := Fr.tr hF18004 hF18020 rfl rfl
            have zv18024 : (41 : Int32).toInt = 41 := rfl
            have hb18025 : BL (CDX g17999 = 9) v18021.toInt := ISX.code (c := 9) hr18022.2 o18006 (isSC_d (by omega)) (by decide)
            refine At.enter rfl ?_
            refine r_ifs 8 rfl (fun c18026 => ?_) (fun c18026 => ?_)
            · have c18026_ : v18021.toInt = 0 := en_k_eq_t c18026
              have i18027 := BL.no hb18025 (by omega)
              refine At.enter rfl ?_
              refine r_aload_n rfl ?_
              refine q_inlV 19 rfl [.ref 176] [] (Nat.le_of_ble_eq_true rfl) rfl ?_
              refine Ev.mk rfl rfl ⟨Nat.le_of_ble_eq_true rfl, Or.inr (q_rc hI18019.1 kx_176 rfl)⟩ ?_
              show At _ none _ _ (0, [(0, .ref 176)], [], (_, _)) _
              refine At.enter rfl ?_
              refine r_aload_n rfl ?_
              refine q_getI (Sh.int hI18019.1 kx_176 rfl) v18014 ((hF18020.1 176 2 (by decide)).trans hv18014) ?_
              refine r_iconst (-1) rfl ?_
              refine r_ics 8 rfl (fun c18028 => ?_) (fun c18028 => ?_)
              · have c18028_ : v18014.toInt ≠ (-1) := en_i_ne_t c18028
                refine At.enter rfl ?_
                refine q_vret ?_
                refine At.enter rfl ?_
                refine q_vret ?_
                refine At.enter rfl ?_
                refine r_goto ?_
                refine At.enter rfl ?_
                refine r_iload_n e17589 ?_
                refine r_ifs 124 rfl (fun c18029 => ?_) (fun c18029 => ?_)
                · have c18029_ : x17579.toInt = 0 := en_k_eq_t c18029
                  refine At.enter rfl ?_
                  refine r_vret ?_
                  have x18030 := rX.e hI18019 (b := 2) (((hF18020.1 176 2 (by decide)).trans hv18014))
                  have x18031 := rX.e hI18019 (b := 4) (((hF18020.1 176 4 (by decide)).trans hv18016))
                  obtain ⟨v18032, hv18032⟩ : ∃ v, gI g17999 176 6 = v := ⟨_, rfl⟩
                  have tv18032 := congrArg Int32.toInt hv18032
                  have x18033 := rX.e hI18019 (b := 6) (((hF18020.1 176 6 (by decide)).trans hv18032))
                  obtain ⟨v18034, hv18034⟩ : ∃ v, gI g0 176 2 = v := ⟨_, rfl⟩
                  have tv18034 := congrArg Int32.toInt hv18034
                  have x18035 := rX.e hI0 (b := 2) (hv18034)
                  have x18036 := rX.e hI0 (b := 4) (hv17599)
                  have x18037 := rX.e hI17582 (b := 2) (hv17969)
                  have x18038 := rX.e hI17582 (b := 4) (hv17602)
                  have x18039 := rX.e hI18000 (b := 2) (hv18014)
                  have x18040 := rX.e hI18000 (b := 4) (hv18016)
                  have x18041 := rX.e hI18000 (b := 6) (hv18032)
                  exact ⟨_, rfl, hI18019, hF18023, rfl, (False.elim (by omega))⟩
                · have c18029_ : x17579.toInt ≠ 0 := en_k_eq_f c18029
                  refine At.enter rfl ?_
                  refine r_aload_n e17587 ?_
                  refine q_getR (Sh.ref hI18019.1 kx_176 rfl) ?_
                  refine r_bipush 9 rfl ?_
                  refine r_iconst 0 rfl ?_
                  refine r_callV 134 rfl [.ref 177, .int 9, .int 0] [] (Nat.le_of_ble_eq_true rfl) rfl (zT_X4_add_177 _ hI18019 9 0) ?_
                  rintro _ _ ⟨g18042, rfl, hI18043, hF18044, v18045, rfl, hr18046⟩
                  refine At.sti ?_
                  have hF18047 := Fr.tr hF18023 hF18044 rfl rfl
                  refine At.enter rfl ?_
                  refine r_pop rfl ?_
                  refine Ar.fall 135 rfl ?_
                  refine At.enter rfl ?_
                  refine r_vret ?_
                  have x18048 := rX.e hI18043 (b := 2) ((((hF18044.1 176 2 (by decide)).trans (hF18020.1 176 2 (by decide))).trans hv18014))
                  have x18049 := rX.e hI18043 (b := 4) ((((hF18044.1 176 4 (by decide)).trans (hF18020.1 176 4 (by decide))).trans hv18016))
                  obtain ⟨v18050, hv18050⟩ : ∃ v, gI g17999 176 6 = v := ⟨_, rfl⟩
                  have tv18050 := congrArg Int32.toInt hv18050
                  have x18051 := rX.e hI18043 (b := 6) ((((hF18044.1 176 6 (by decide)).trans (hF18020.1 176 6 (by decide))).trans hv18050))
                  obtain ⟨v18052, hv18052⟩ : ∃ v, gI g0 176 2 = v := ⟨_, rfl⟩
                  have tv18052 := congrArg Int32.toInt hv18052
                  have x18053 := rX.e hI0 (b := 2) (hv18052)
                  have x18054 := rX.e hI0 (b := 4) (hv17599)
                  have x18055 := rX.e hI17582 (b := 2) (hv17969)
                  have x18056 := rX.e hI17582 (b := 4) (hv17602)
                  have x18057 := rX.e hI18000 (b := 2) (hv18014)
                  have x18058 := rX.e hI18000 (b := 4) (hv18016)
                  have x18059 := rX.e hI18000 (b := 6) (hv18050)
                  exact ⟨_, rfl, hI18043, hF18047, rfl, (False.elim (by omega))⟩
              · have c18028_ : v18014.toInt = (-1) := en_i_ne_f c18028
                refine At.enter rfl ?_
                refine r_aload_n rfl ?_
                refine r_aload_n rfl ?_
                refine q_getI (Sh.int hI18019.1 kx_176 rfl) v18016 ((hF18020.1 176 4 (by decide)).trans hv18016) ?_
                refine q_putI (Sh.int hI18019.1 kx_176 rfl) rfl ?_
                have hI18060 := HI.wI0 hI18019 kx_176 rfl (p := 176) (b := 2) (v := v18016) rfl
                have hF18061 := Fr.wI (p := 176) (b := 2) (v := v18016) hF18023 rfl
                refine Ar.fall 16 rfl ?_
                refine At.enter rfl ?_
                refine q_vret ?_
                refine At.enter rfl ?_
                refine q_vret ?_
                refine At.enter rfl ?_
                refine r_goto ?_
                refine At.enter rfl ?_
                refine r_iload_n e17589 ?_
                refine r_ifs 124 rfl (fun c18062 => ?_) (fun c18062 => ?_)
                · have c18062_ : x17579.toInt = 0 := en_k_eq_t c18062
                  refine At.enter rfl ?_
                  refine r_vret ?_
                  have x18063 := rX.e hI18060 (b := 2) ((gI_sI_eq hI18019.1 kx_176 rfl _))
                  have x18064 := rX.e hI18060 (b := 4) ((((gI_sI_ne (by decide)).trans (hF18020.1 176 4 (by decide))).trans hv18016))
                  obtain ⟨v18065, hv18065⟩ : ∃ v, gI g17999 176 6 = v := ⟨_, rfl⟩
                  have tv18065 := congrArg Int32.toInt hv18065
                  have x18066 := rX.e hI18060 (b := 6) ((((gI_sI_ne (by decide)).trans (hF18020.1 176 6 (by decide))).trans hv18065))
                  obtain ⟨v18067, hv18067⟩ : ∃ v, gI g0 176 2 = v := ⟨_, rfl⟩
                  have tv18067 := congrArg Int32.toInt hv18067
                  have x18068 := rX.e hI0 (b := 2) (hv18067)
                  have x18069 := rX.e hI0 (b := 4) (hv17599)
                  have x18070 := rX.e hI17582 (b := 2) (hv17969)
                  have x18071 := rX.e hI17582 (b := 4) (hv17602)
                  have x18072 := rX.e hI18000 (b := 2) (hv18014)
                  have x18073 := rX.e hI18000 (b := 4) (hv18016)
                  have x18074 := rX.e hI18000 (b := 6) (hv18065)
                  exact ⟨_, rfl, hI18060, hF18061, rfl, (False.elim (by omega))⟩
                · have c18062_ : x17579.toInt ≠ 0 := en_k_eq_f c18062
                  refine At.enter rfl ?_
                  refine r_aload_n e17587 ?_
                  refine q_getR (Sh.ref hI18060.1 kx_176 rfl) ?_
                  refine r_bipush 9 rfl ?_
                  refine r_iconst 0 rfl ?_
                  refine r_callV 134 rfl [.ref 177, .int 9, .int 0] [] (Nat.le_of_ble_eq_true rfl) rfl (zT_X4_add_177 _ hI18060 9 0) ?_
                  rintro _ _ ⟨g18075, rfl, hI18076, hF18077, v18078, rfl, hr18079⟩
                  refine At.sti ?_
                  have hF18080 := Fr.tr hF18061 hF18077 rfl rfl
                  refine At.enter rfl ?_
                  refine r_pop rfl ?_
                  refine Ar.fall 135 rfl ?_
                  refine At.enter rfl ?_
                  refine r_vret ?_
                  have x18081 := rX.e hI18076 (b := 2) (((hF18077.1 176 2 (by decide)).trans (gI_sI_eq hI18019.1 kx_176 rfl _)))
                  have x18082 := rX.e hI18076 (b := 4) ((((hF18077.1 176 4 (by decide)).trans ((gI_sI_ne (by decide)).trans (hF18020.1 176 4 (by decide)))).trans hv18016))
                  obtain ⟨v18083, hv18083⟩ : ∃ v, gI g17999 176 6 = v := ⟨_, rfl⟩
                  have tv18083 := congrArg Int32.toInt hv18083
                  have x18084 := rX.e hI18076 (b := 6) ((((hF18077.1 176 6 (by decide)).trans ((gI_sI_ne (by decide)).trans (hF18020.1 176 6 (by decide)))).trans hv18083))
                  obtain ⟨v18085, hv18085⟩ : ∃ v, gI g0 176 2 = v := ⟨_, rfl⟩
                  have tv18085 := congrArg Int32.toInt hv18085
                  have x18086 := rX.e hI0 (b := 2) (hv18085)
                  have x18087 := rX.e hI0 (b := 4) (hv17599)
                  have x18088 := rX.e hI17582 (b := 2) (hv17969)
                  have x18089 := rX.e hI17582 (b := 4) (hv17602)
                  have x18090 := rX.e hI18000 (b := 2) (hv18014)
                  have x18091 := rX.e hI18000 (b := 4) (hv18016)
                  have x18092 := rX.e hI18000 (b := 6) (hv18083)
                  exact ⟨_, rfl, hI18076, hF18080, rfl, (False.elim (by omega))⟩
            · have c18026_ : v18021.toInt ≠ 0 := en_k_eq_f c18026
              have i18093 := BL.yes hb18025 (by omega)
              refine At.enter rfl ?_
              refine r_aload_n rfl ?_
              refine r_callV 12 rfl [.ref 176] [] (Nat.le_of_ble_eq_true rfl) rfl (zT_X5_step_176 _ hI18019 (TKX.c o18006 ((hF18020.2.1 175 (by decide))) ((hF18020.1 174 1 (by decide))) ((hF18020.1 176 3 (by decide))) ((hF18020.1 176 4 (by decide))) ((hF18020.1 176 5 (by decide)))).1 (TKX.c o18006 ((hF18020.2.1 175 (by decide))) ((hF18020.1 174 1 (by decide))) ((hF18020.1 176 3 (by decide))) ((hF18020.1 176 4 (by decide))) ((hF18020.1 176 5 (by decide)))).2.1.le.2.1) ?_
              rintro _ _ ⟨g18094, rfl, hI18095, hF18096, rfl, hr18098⟩
              refine At.stn ?_
              have hF18099 := Fr.tr hF18023 hF18096 rfl rfl
              have tok18100_ := hr18098.2
              rw [TX.c ((hF18020.2.1 175 (by decide))), nX.c ((hF18020.1 174 1 (by decide))), rX.c (b := 5) ((hF18020.1 176 5 (by decide)))] at tok18100_
              have tok18100 := TKX.tok o18006 tok18100_
              rw [TX.c (((hF18001.2.1 175 (by decide)).trans ((hF17608.2.1 175 (by decide)).trans (hF17583.2.1 175 (by decide))))), nX.c (((hF18001.1 174 1 (by decide)).trans ((hF17608.1 174 1 (by decide)).trans (hF17583.1 174 1 (by decide)))))] at tok18100
              have hT18101 := hr18098.1
              have x18102 := rX.e hI18019 (b := 4) (((hF18020.1 176 4 (by decide)).trans hv18016))
              obtain ⟨v18103, hv18103⟩ : ∃ v, gI g18094 176 4 = v := ⟨_, rfl⟩
              have rv18103 := RgF.at hI18095.2.1 (p := 176) (b := 4) rfl
              rw [hv18103] at rv18103
              dsimp only at rv18103
              have tv18103 := congrArg Int32.toInt hv18103
              have x18104 := rX.e hI18095 (b := 4) (hv18103)
              refine At.enter rfl ?_
              refine r_goto ?_
              refine At.enter rfl ?_
              refine q_vret ?_
              refine At.enter rfl ?_
              refine r_goto ?_
              refine At.enter rfl ?_
              refine r_iload_n e17589 ?_
              refine r_ifs 124 rfl (fun c18105 => ?_) (fun c18105 => ?_)
              · have c18105_ : x17579.toInt = 0 := en_k_eq_t c18105
                refine At.enter rfl ?_
                refine r_vret ?_
                have x18106 := rX.e hI18095 (b := 2) ((((hF18096.1 176 2 (by decide)).trans (hF18020.1 176 2 (by decide))).trans hv18014))
                have x18107 := rX.e hI18095 (b := 4) (hv18103)
                obtain ⟨v18108, hv18108⟩ : ∃ v, gI g17999 176 6 = v := ⟨_, rfl⟩
                have tv18108 := congrArg Int32.toInt hv18108
                have x18109 := rX.e hI18095 (b := 6) ((((hF18096.1 176 6 (by decide)).trans (hF18020.1 176 6 (by decide))).trans hv18108))
                obtain ⟨v18110, hv18110⟩ : ∃ v, gI g0 176 2 = v := ⟨_, rfl⟩
                have tv18110 := congrArg Int32.toInt hv18110
                have x18111 := rX.e hI0 (b := 2) (hv18110)
                have x18112 := rX.e hI0 (b := 4) (hv17599)
                have x18113 := rX.e hI17582 (b := 2) (hv17969)
                have x18114 := rX.e hI17582 (b := 4) (hv17602)
                have x18115 := rX.e hI18000 (b := 2) (hv18014)
                have x18116 := rX.e hI18000 (b := 4) (hv18016)
                have x18117 := rX.e hI18000 (b := 6) (hv18108)
                have x18118 := rX.e hI18095 (b := 2) ((((hF18096.1 176 2 (by decide)).trans (hF18020.1 176 2 (by decide))).trans hv18014))
                have x18119 := rX.e hI18095 (b := 4) (hv18103)
                have x18120 := rX.e hI18095 (b := 6) ((((hF18096.1 176 6 (by decide)).trans (hF18020.1 176 6 (by decide))).trans hv18108))
                exact ⟨_, rfl, hI18095, hF18099, rfl, (False.elim (by omega))⟩
              · have c18105_ : x17579.toInt ≠ 0 := en_k_eq_f c18105
                refine At.enter rfl ?_
                refine r_aload_n e17587 ?_
                refine q_getR (Sh.ref hI18095.1 kx_176 rfl) ?_
                refine r_bipush 9 rfl ?_
                refine r_iconst 0 rfl ?_
                refine r_callV 134 rfl [.ref 177, .int 9, .int 0] [] (Nat.le_of_ble_eq_true rfl) rfl (zT_X4_add_177 _ hI18095 9 0) ?_
                rintro _ _ ⟨g18121, rfl, hI18122, hF18123, v18124, rfl, hr18125⟩
                refine At.sti ?_
                have hF18126 := Fr.tr hF18099 hF18123 rfl rfl
                refine At.enter rfl ?_
                refine r_pop rfl ?_
                refine Ar.fall 135 rfl ?_
                refine At.enter rfl ?_
                refine r_vret ?_
                have x18127 := rX.e hI18122 (b := 2) ((((hF18123.1 176 2 (by decide)).trans ((hF18096.1 176 2 (by decide)).trans (hF18020.1 176 2 (by decide)))).trans hv18014))
                have x18128 := rX.e hI18122 (b := 4) (((hF18123.1 176 4 (by decide)).trans hv18103))
                obtain ⟨v18129, hv18129⟩ : ∃ v, gI g17999 176 6 = v := ⟨_, rfl⟩
                have tv18129 := congrArg Int32.toInt hv18129
                have x18130 := rX.e hI18122 (b := 6) ((((hF18123.1 176 6 (by decide)).trans ((hF18096.1 176 6 (by decide)).trans (hF18020.1 176 6 (by decide)))).trans hv18129))
                obtain ⟨v18131, hv18131⟩ : ∃ v, gI g0 176 2 = v := ⟨_, rfl⟩
                have tv18131 := congrArg Int32.toInt hv18131
                have x18132 := rX.e hI0 (b := 2) (hv18131)
                have x18133 := rX.e hI0 (b := 4) (hv17599)
                have x18134 := rX.e hI17582 (b := 2) (hv17969)
                have x18135 := rX.e hI17582 (b := 4) (hv17602)
                have x18136 := rX.e hI18000 (b := 2) (hv18014)
                have x18137 := rX.e hI18000 (b := 4) (hv18016)
                have x18138 := rX.e hI18000 (b := 6) (hv18129)
                have x18139 := rX.e hI18095 (b := 2) ((((hF18096.1 176 2 (by decide)).trans (hF18020.1 176 2 (by decide))).trans hv18014))
                have x18140 := rX.e hI18095 (b := 4) (hv18103)
                have x18141 := rX.e hI18095 (b := 6) ((((hF18096.1 176 6 (by decide)).trans (hF18020.1 176 6 (by decide))).trans hv18129))
                exact ⟨_, rfl, hI18122, hF18126, rfl, (False.elim (by omega))⟩
        · have c17970_ : v17969.toInt = (-1) := en_i_ne_f c17970
          refine At.enter rfl ?_
          refine r_aload_n rfl ?_
          refine r_aload_n rfl ?_
          refine q_getI (Sh.int hI17607.1 kx_176 rfl) v17602 ((hF17608.1 176 4 (by decide)).trans hv17602) ?_
          refine q_putI (Sh.int hI17607.1 kx_176 rfl) rfl ?_
          have hI18142 := HI.wI0 hI17607 kx_176 rfl (p := 176) (b := 2) (v := v17602) rfl
          have hF18143 := Fr.wI (p := 176) (b := 2) (v := v17602) hF17611 rfl
          refine Ar.fall 16 rfl ?_
          refine At.enter rfl ?_
          refine q_vret ?_
          refine At.enter rfl ?_
          refine r_goto ?_
          refine At.enter rfl ?_
          refine q_vret ?_
          refine At.enter rfl ?_
          refine r_aload_n e17587 ?_
          refine q_getI (Sh.int hI18142.1 kx_176 rfl) v17602 (gI_sI_eq hI17607.1 kx_176 rfl _) ?_
          refine r_iconst (-1) rfl ?_
          refine r_ics 62 rfl (fun c18144 => ?_) (fun c18144 => ?_)
          · have c18144_ : v17602.toInt ≠ (-1) := en_i_ne_t c18144
            refine At.enter rfl ?_
            refine r_iload_n e17589 ?_
            refine r_ifs 124 rfl (fun c18145 => ?_) (fun c18145 => ?_)
            · have c18145_ : x17579.toInt = 0 := en_k_eq_t c18145
              refine At.enter rfl ?_
              refine r_vret ?_
              have x18146 := rX.e hI18142 (b := 2) ((gI_sI_eq hI17607.1 kx_176 rfl _))
              have x18147 := rX.e hI18142 (b := 4) ((((gI_sI_ne (by decide)).trans (hF17608.1 176 4 (by decide))).trans hv17602))
              obtain ⟨v18148, hv18148⟩ : ∃ v, gI g17581 176 6 = v := ⟨_, rfl⟩
              have tv18148 := congrArg Int32.toInt hv18148
              have x18149 := rX.e hI18142 (b := 6) ((((gI_sI_ne (by decide)).trans (hF17608.1 176 6 (by decide))).trans hv18148))
              obtain ⟨v18150, hv18150⟩ : ∃ v, gI g0 176 2 = v := ⟨_, rfl⟩
              have tv18150 := congrArg Int32.toInt hv18150
              have x18151 := rX.e hI0 (b := 2) (hv18150)
              have x18152 := rX.e hI0 (b := 4) (hv17599)
              have x18153 := rX.e hI17582 (b := 2) (hv17969)
              have x18154 := rX.e hI17582 (b := 4) (hv17602)
              exact ⟨_, rfl, hI18142, hF18143, rfl, ⟨(TKX.c q17593 (((gA_sI).trans (hF17608.2.1 175 (by decide)))) (((gI_sI_ne (by decide)).trans (hF17608.1 174 1 (by decide)))) (((gI_sI_ne (by decide)).trans (hF17608.1 176 3 (by decide)))) (((gI_sI_ne (by decide)).trans (hF17608.1 176 4 (by decide)))) (((gI_sI_ne (by decide)).trans (hF17608.1 176 5 (by decide))))), ((PRG0.tr (q17595) (PRG0.fail 1 (rX.c (b := 4) (((gI_sI_ne (by decide)).trans (hF17608.1 176 4 (by decide))))) (fun _ => by omega) (fun _ => by omega) (by omega)))).le (by omega), PLO.deep q17594 (TKX.someC q17593 ((hF17583.2.1 175 (by decide))) ((hF17583.1 174 1 (by decide)))).choose_spec (by omega) (by omega) (fun _ => by omega) (fun _ => by omega) (by omega)⟩⟩
            · have c18145_ : x17579.toInt ≠ 0 := en_k_eq_f c18145
              refine At.enter rfl ?_
              refine r_aload_n e17587 ?_
              refine q_getR (Sh.ref hI18142.1 kx_176 rfl) ?_
              refine r_bipush 9 rfl ?_
              refine r_iconst 0 rfl ?_
              refine r_callV 134 rfl [.ref 177, .int 9, .int 0] [] (Nat.le_of_ble_eq_true rfl) rfl (zT_X4_add_177 _ hI18142 9 0) ?_
              rintro _ _ ⟨g18155, rfl, hI18156, hF18157, v18158, rfl, hr18159⟩
              refine At.sti ?_
              have hF18160 := Fr.tr hF18143 hF18157 rfl rfl
              refine At.enter rfl ?_
              refine r_pop rfl ?_
              refine Ar.fall 135 rfl ?_
              refine At.enter rfl ?_
              refine r_vret ?_
              have x18161 := rX.e hI18156 (b := 2) (((hF18157.1 176 2 (by decide)).trans (gI_sI_eq hI17607.1 kx_176 rfl _)))
              have x18162 := rX.e hI18156 (b := 4) ((((hF18157.1 176 4 (by decide)).trans ((gI_sI_ne (by decide)).trans (hF17608.1 176 4 (by decide)))).trans hv17602))
              obtain ⟨v18163, hv18163⟩ : ∃ v, gI g17581 176 6 = v := ⟨_, rfl⟩
              have tv18163 := congrArg Int32.toInt hv18163
              have x18164 := rX.e hI18156 (b := 6) ((((hF18157.1 176 6 (by decide)).trans ((gI_sI_ne (by decide)).trans (hF17608.1 176 6 (by decide)))).trans hv18163))
              obtain ⟨v18165, hv18165⟩ : ∃ v, gI g0 176 2 = v := ⟨_, rfl⟩
              have tv18165 := congrArg Int32.toInt hv18165
              have x18166 := rX.e hI0 (b := 2) (hv18165)
              have x18167 := rX.e hI0 (b := 4) (hv17599)
              have x18168 := rX.e hI17582 (b := 2) (hv17969)
              have x18169 := rX.e hI17582 (b := 4) (hv17602)
              exact ⟨_, rfl, hI18156, hF18160, rfl, ⟨(TKX.c q17593 (((hF18157.2.1 175 (by decide)).trans ((gA_sI).trans (hF17608.2.1 175 (by decide))))) (((hF18157.1 174 1 (by decide)).trans ((gI_sI_ne (by decide)).trans (hF17608.1 174 1 (by decide))))) (((hF18157.1 176 3 (by decide)).trans ((gI_sI_ne (by decide)).trans (hF17608.1 176 3 (by decide))))) (((hF18157.1 176 4 (by decide)).trans ((gI_sI_ne (by decide)).trans (hF17608.1 176 4 (by decide))))) (((hF18157.1 176 5 (by decide)).trans ((gI_sI_ne (by decide)).trans (hF17608.1 176 5 (by decide)))))), ((PRG0.tr (q17595) (PRG0.fail 1 (rX.c (b := 4) (((hF18157.1 176 4 (by decide)).trans ((gI_sI_ne (by decide)).trans (hF17608.1 176 4 (by decide)))))) (fun _ => by omega) (fun _ => by omega) (by omega)))).le (by omega), PLO.deep q17594 (TKX.someC q17593 ((hF17583.2.1 175 (by decide))) ((hF17583.1 174 1 (by decide)))).choose_spec (by omega) (by omega) (fun _ => by omega) (fun _ => by omega) (by omega)⟩⟩
          · have c18144_ : v17602.toInt = (-1) := en_i_ne_f c18144
            exfalso; omega
  · have c17605_ : x17580.toInt < 400 := en_i_ge_f c17605
    refine At.enter rfl ?_
    refine r_aload_n e17587 ?_
    refine r_ldcS (by decide) 4 rfl ?_
    refine r_callV 17 rfl [.ref 176, .float 4] [] (Nat.le_of_ble_eq_true rfl) rfl (zT_X5_isWord_176 _ hI17582 4 (by decide) q17593) ?_
    rintro _ _ ⟨g18170, rfl, hI18171, hF18172, v18173, rfl, hr18174⟩
    refine At.sti ?_
    have hF18175 := Fr.tr hF17583 hF18172 rfl rfl
    have hb18176 : BL (CDX g17581 = 1) v18173.toInt := ISW.code (c := 1) hr18174.2 q17593 (isWC_d (by omega)) (by decide +kernel)
    refine At.enter rfl ?_
    refine r_ifs 20 rfl (fun c18177 => ?_) (fun c18177 => ?_)
    · have c18177_ : v18173.toInt = 0 := en_k_eq_t c18177
      have i18178 := BL.no hb18176 (by omega)
      refine At.enter rfl ?_
      refine r_aload_n e17587 ?_
      refine r_bipush 40 rfl ?_
      refine r_callV 46 rfl [.ref 176, .int 40] [] (Nat.le_of_ble_eq_true rfl) rfl (zT_X5_isSingle_176 _ hI18171 40 (by decide)) ?_
      rintro _ _ ⟨g18179, rfl, hI18180, hF18181, v18182, rfl, hr18183⟩
      refine At.sti ?_
      have hF18184 := Fr.tr hF18175 hF18181 rfl rfl
      have zv18185 : (40 : Int32).toInt = 40 := rfl
      have hb18186 : BL (CDX g17581 = 2) v18182.toInt := by have z := ISX.code (c := 2) hr18183.2 (TKX.c q17593 ((hF18172.2.1 175 (by decide))) ((hF18172.1 174 1 (by decide))) ((hF18172.1 176 3 (by decide))) ((hF18172.1 176 4 (by decide))) ((hF18172.1 176 5 (by decide)))) (isSC_d (by omega)) (by decide); rw [CDX.c ((hF18172.2.1 175 (by decide))) ((hF18172.1 176 3 (by decide))) ((hF18172.1 176 4 (by decide))) ((hF18172.1 176 5 (by decide)))] at z; exact z
      refine At.enter rfl ?_
      refine r_ifs 49 rfl (fun c18187 => ?_) (fun c18187 => ?_)
      · have c18187_ : v18182.toInt = 0 := en_k_eq_t c18187
        have i18188 := BL.no hb18186 (by omega)
        refine At.enter rfl ?_
        refine r_aload_n e17587 ?_
        refine r_iconst 2 rfl ?_
        refine r_iload_n e17588 ?_
        have zv18189 : (2 : Int32).toInt = 2 := rfl
        refine r_callV 85 rfl [.ref 176, .int 2, .int a1] [] (Nat.le_of_ble_eq_true rfl) rfl (IHJ _ (by omega) hI18180 2 (by decide) a1 (by omega) (by omega) (TKX.c q17593 (((hF18181.2.1 175 (by decide)).trans (hF18172.2.1 175 (by decide)))) (((hF18181.1 174 1 (by decide)).trans (hF18172.1 174 1 (by decide)))) (((hF18181.1 176 3 (by decide)).trans (hF18172.1 176 3 (by decide)))) (((hF18181.1 176 4 (by decide)).trans (hF18172.1 176 4 (by decide)))) (((hF18181.1 176 5 (by decide)).trans (hF18172.1 176 5 (by decide)))))) ?_
        rintro _ _ ⟨g18190, rfl, hI18191, hF18192, rfl, hr18194⟩
        refine At.stn ?_
        have hF18195 := Fr.tr hF18184 hF18192 rfl rfl
        have zv18196 : (2 : Int32).toInt = 2 := rfl
        obtain ⟨v18201, hv18201⟩ : ∃ v, gI g17581 176 2 = v := ⟨_, rfl⟩
        have tv18201 := congrArg Int32.toInt hv18201
        have x18202 := rX.e hI18180 (b := 2) ((((hF18181.1 176 2 (by decide)).trans (hF18172.1 176 2 (by decide))).trans hv18201))
        have x18203 := rX.e hI18180 (b := 4) ((((hF18181.1 176 4 (by decide)).trans (hF18172.1 176 4 (by decide))).trans hv17602))
        obtain ⟨o18197, o18198, o18199, o18200⟩ := hr18194
        have o18204 := OPD.tc o18199 (((hF18181.2.1 175 (by decide)).trans ((hF18172.2.1 175 (by decide)).trans (hF17583.2.1 175 (by decide))))) (((hF18181.1 174 1 (by decide)).trans ((hF18172.1 174 1 (by decide)).trans (hF17583.1 174 1 (by decide)))))
        rw [rX.c (b := 2) (((hF18181.1 176 2 (by decide)).trans (hF18172.1 176 2 (by decide)))), rX.c (b := 4) (((hF18181.1 176 4 (by decide)).trans (hF18172.1 176 4 (by decide))))] at o18198
        have o18205 := OPD.fr o18204 (rX.c (b := 2) (((hF18181.1 176 2 (by decide)).trans (hF18172.1 176 2 (by decide))))) (rX.c (b := 4) (((hF18181.1 176 4 (by decide)).trans (hF18172.1 176 4 (by decide))))) (rX.c (b := 6) (((hF18181.1 176 6 (by decide)).trans (hF18172.1 176 6 (by decide)))))
        obtain ⟨v18206, hv18206⟩ : ∃ v, gI g18190 176 2 = v := ⟨_, rfl⟩
        have tv18206 := congrArg Int32.toInt hv18206
        have x18207 := rX.e hI18191 (b := 2) (hv18206)
        obtain ⟨v18208, hv18208⟩ : ∃ v, gI g18190 176 4 = v := ⟨_, rfl⟩
        have rv18208 := RgF.at hI18191.2.1 (p := 176) (b := 4) rfl
        rw [hv18208] at rv18208
        dsimp only at rv18208
        have tv18208 := congrArg Int32.toInt hv18208
        have x18209 := rX.e hI18191 (b := 4) (hv18208)
        refine At.enter rfl ?_
        refine r_aload_n e17587 ?_
        refine r_callV 89 rfl [.ref 176] [] (Nat.le_of_ble_eq_true rfl) rfl (zT_X5_comparisonHere_176 _ hI18191 o18197) ?_
        rintro _ _ ⟨g18210, rfl, hI18211, hF18212, v18213, rfl, hr18214⟩
        refine At.sti ?_
        have hF18215 := Fr.tr hF18195 hF18212 rfl rfl
        have hb18216 : BLN (24 ≤ CDX g18190 ∧ CDX g18190 ≤ 26) v18213.toInt := hr18214.2
        refine At.enter rfl ?_
        refine r_istore_n _ rfl ?_
        refine r_iload_n (w_e1 _ _ _) ?_
        refine r_iconst (-1) rfl ?_
        refine r_ics 95 rfl (fun c18217 => ?_) (fun c18217 => ?_)
        · have c18217_ : v18213.toInt ≠ (-1) := en_i_ne_t c18217
          have i18218 := BLN.yes hb18216 (by omega)
          refine At.enter rfl ?_
          refine r_aload_n (w_p1 (by decide) (Or.inr rfl) e17587) ?_
          refine r_callV 104 rfl [.ref 176] [] (Nat.le_of_ble_eq_true rfl) rfl (zT_X5_step_176 _ hI18211 (TKX.c o18197 ((hF18212.2.1 175 (by decide))) ((hF18212.1 174 1 (by decide))) ((hF18212.1 176 3 (by decide))) ((hF18212.1 176 4 (by decide))) ((hF18212.1 176 5 (by decide)))).1 (TKX.c o18197 ((hF18212.2.1 175 (by decide))) ((hF18212.1 174 1 (by decide))) ((hF18212.1 176 3 (by decide))) ((hF18212.1 176 4 (by decide))) ((hF18212.1 176 5 (by decide)))).2.1.le.2.1) ?_
          rintro _ _ ⟨g18219, rfl, hI18220, hF18221, rfl, hr18223⟩
          refine At.stn ?_
          have hF18224 := Fr.tr hF18215 hF18221 rfl rfl
          have tok18225_ := hr18223.2
          rw [TX.c ((hF18212.2.1 175 (by decide))), nX.c ((hF18212.1 174 1 (by decide))), rX.c (b := 5) ((hF18212.1 176 5 (by decide)))] at tok18225_
          have tok18225 := TKX.tok o18197 tok18225_
          rw [TX.c (((hF18192.2.1 175 (by decide)).trans ((hF18181.2.1 175 (by decide)).trans ((hF18172.2.1 175 (by decide)).trans (hF17583.2.1 175 (by decide)))))), nX.c (((hF18192.1 174 1 (by decide)).trans ((hF18181.1 174 1 (by decide)).trans ((hF18172.1 174 1 (by decide)).trans (hF17583.1 174 1 (by decide))))))] at tok18225
          have hT18226 := hr18223.1
          have x18227 := rX.e hI18211 (b := 4) (((hF18212.1 176 4 (by decide)).trans hv18208))
          obtain ⟨v18228, hv18228⟩ : ∃ v, gI g18219 176 4 = v := ⟨_, rfl⟩
          have rv18228 := RgF.at hI18220.2.1 (p := 176) (b := 4) rfl
          rw [hv18228] at rv18228
          dsimp only at rv18228
          have tv18228 := congrArg Int32.toInt hv18228
          have x18229 := rX.e hI18220 (b := 4) (hv18228)
          refine At.enter rfl ?_
          refine r_aload_n (w_p1 (by decide) (Or.inr rfl) e17587) ?_
          refine r_iconst 2 rfl ?_
          refine r_iload_n (w_p1 (by decide) (Or.inr rfl) e17588) ?_
          have zv18230 : (2 : Int32).toInt = 2 := rfl
          refine r_callV 110 rfl [.ref 176, .int 2, .int a1] [] (Nat.le_of_ble_eq_true rfl) rfl (IHJ _ (by omega) hI18220 2 (by decide) a1 (by omega) (by omega) hT18226) ?_
          rintro _ _ ⟨g18231, rfl, hI18232, hF18233, rfl, hr18235⟩
          refine At.stn ?_
          have hF18236 := Fr.tr hF18224 hF18233 rfl rfl
          have zv18237 : (2 : Int32).toInt = 2 := rfl
          have x18242 := rX.e hI18220 (b := 2) ((((hF18221.1 176 2 (by decide)).trans (hF18212.1 176 2 (by decide))).trans hv18206))
          have x18243 := rX.e hI18220 (b := 4) (hv18228)
          obtain ⟨o18238, o18239, o18240, o18241⟩ := hr18235
          have o18244 := OPD.tc o18240 (((hF18221.2.1 175 (by decide)).trans ((hF18212.2.1 175 (by decide)).trans ((hF18192.2.1 175 (by decide)).trans ((hF18181.2.1 175 (by decide)).trans ((hF18172.2.1 175 (by decide)).trans (hF17583.2.1 175 (by decide)))))))) (((hF18221.1 174 1 (by decide)).trans ((hF18212.1 174 1 (by decide)).trans ((hF18192.1 174 1 (by decide)).trans ((hF18181.1 174 1 (by decide)).trans ((hF18172.1 174 1 (by decide)).trans (hF17583.1 174 1 (by decide))))))))
          obtain ⟨v18245, hv18245⟩ : ∃ v, gI g18231 176 2 = v := ⟨_, rfl⟩
          have tv18245 := congrArg Int32.toInt hv18245
          have x18246 := rX.e hI18232 (b := 2) (hv18245)
          obtain ⟨v18247, hv18247⟩ : ∃ v, gI g18231 176 4 = v := ⟨_, rfl⟩
          have rv18247 := RgF.at hI18232.2.1 (p := 176) (b := 4) rfl
          rw [hv18247] at rv18247
          dsimp only at rv18247
          have tv18247 := congrArg Int32.toInt hv18247
          have x18248 := rX.e hI18232 (b := 4) (hv18247)
          refine At.enter rfl ?_
          refine r_aload_n (w_p1 (by decide) (Or.inr rfl) e17587) ?_
          refine q_getR (Sh.ref hI18232.1 kx_176 rfl) ?_
          refine r_iload_n (w_e1 _ _ _) ?_
          refine r_iconst 0 rfl ?_
          refine r_callV 119 rfl [.ref 177, .int v18213, .int 0] [] (Nat.le_of_ble_eq_true rfl) rfl (zT_X4_add_177 _ hI18232 v18213 0) ?_
          rintro _ _ ⟨g18249, rfl, hI18250, hF18251, v18252, rfl, hr18253⟩
          refine At.sti ?_
          have hF18254 := Fr.tr hF18236 hF18251 rfl rfl
          refine At.enter rfl ?_
          refine r_pop rfl ?_
          refine Ar.fall 120 rfl ?_
          refine At.enter rfl ?_
          refine r_iload_n (w_p1 (by decide) (Or.inr rfl) e17589) ?_
          refine r_ifs 124 rfl (fun c18255 => ?_) (fun c18255 => ?_)
          · have c18255_ : x17579.toInt = 0 := en_k_eq_t c18255
            refine At.enter rfl ?_
            refine r_vret ?_
            have x18256 := rX.e hI18250 (b := 2) (((hF18251.1 176 2 (by decide)).trans hv18245))
            have x18257 := rX.e hI18250 (b := 4) (((hF18251.1 176 4 (by decide)).trans hv18247))
            obtain ⟨v18258, hv18258⟩ : ∃ v, gI g18231 176 6 = v := ⟨_, rfl⟩
            have tv18258 := congrArg Int32.toInt hv18258
            have x18259 := rX.e hI18250 (b := 6) (((hF18251.1 176 6 (by decide)).trans hv18258))
            obtain ⟨v18260, hv18260⟩ : ∃ v, gI g0 176 2 = v := ⟨_, rfl⟩
            have tv18260 := congrArg Int32.toInt hv18260
            have x18261 := rX.e hI0 (b := 2) (hv18260)
            have x18262 := rX.e hI0 (b := 4) (hv17599)
            have x18263 := rX.e hI17582 (b := 2) (hv18201)
            have x18264 := rX.e hI17582 (b := 4) (hv17602)
            have x18265 := rX.e hI18191 (b := 2) (hv18206)
            have x18266 := rX.e hI18191 (b := 4) (hv18208)
            obtain ⟨v18267, hv18267⟩ : ∃ v, gI g18190 176 6 = v := ⟨_, rfl⟩
            have tv18267 := congrArg Int32.toInt hv18267
            have x18268 := rX.e hI18191 (b := 6) (hv18267)
            have x18269 := rX.e hI18220 (b := 2) ((((hF18221.1 176 2 (by decide)).trans (hF18212.1 176 2 (by decide))).trans hv18206))
            have x18270 := rX.e hI18220 (b := 4) (hv18228)
            have x18271 := rX.e hI18220 (b := 6) ((((hF18221.1 176 6 (by decide)).trans (hF18212.1 176 6 (by decide))).trans hv18267))
            have x18272 := rX.e hI18232 (b := 2) (hv18245)
            have x18273 := rX.e hI18232 (b := 4) (hv18247)
            have x18274 := rX.e hI18232 (b := 6) (hv18258)
            exact ⟨_, rfl, hI18250, hF18254, rfl, ⟨(TKX.c o18238 ((hF18251.2.1 175 (by decide))) ((hF18251.1 174 1 (by decide))) ((hF18251.1 176 3 (by decide))) ((hF18251.1 176 4 (by decide))) ((hF18251.1 176 5 (by decide)))), ((PRG0.tr ((PRG0.tr ((PRG0.tr ((PRG0.tr (q17595) (o18198))) (PRG0.step o18197 tok18225_ (rX.c (b := 2) (((hF18221.1 176 2 (by decide)).trans (hF18212.1 176 2 (by decide))))) (by omega)))) (o18239))) (PRG0.eq (rX.c (b := 4) ((hF18251.1 176 4 (by decide)))) (rX.c (b := 2) ((hF18251.1 176 2 (by decide))))))).le (by omega), PLO.cmp q17594 (TKX.someC q17593 ((hF17583.2.1 175 (by decide))) ((hF17583.1 174 1 (by decide)))).choose_spec (by omega) o18205 tok18225 (by omega) (rX.c (b := 2) (((hF18221.1 176 2 (by decide)).trans (hF18212.1 176 2 (by decide))))) (rX.c (b := 6) (((hF18221.1 176 6 (by decide)).trans (hF18212.1 176 6 (by decide))))) o18244 (TKX.someC o18238 (((hF18233.2.1 175 (by decide)).trans ((hF18221.2.1 175 (by decide)).trans ((hF18212.2.1 175 (by decide)).trans ((hF18192.2.1 175 (by decide)).trans ((hF18181.2.1 175 (by decide)).trans ((hF18172.2.1 175 (by decide)).trans (hF17583.2.1 175 (by decide))))))))) (((hF18233.1 174 1 (by decide)).trans ((hF18221.1 174 1 (by decide)).trans ((hF18212.1 174 1 (by decide)).trans ((hF18192.1 174 1 (by decide)).trans ((hF18181.1 174 1 (by decide)).trans ((hF18172.1 174 1 (by decide)).trans (hF17583.1 174 1 (by decide)))))))))).choose_spec o18241 (rX.c (b := 2) ((hF18251.1 176 2 (by decide)))) (rX.c (b := 4) ((hF18251.1 176 4 (by decide)))) (rX.c (b := 6) ((hF18251.1 176 6 (by decide))))⟩⟩
          · have c18255_ : x17579.toInt ≠ 0 := en_k_eq_f c18255
            refine At.enter rfl ?_
            refine r_aload_n (w_p1 (by decide) (Or.inr rfl) e17587) ?_
            refine q_getR (Sh.ref hI18250.1 kx_176 rfl) ?_
            refine r_bipush 9 rfl ?_
            refine r_iconst 0 rfl ?_
            refine r_callV 134 rfl [.ref 177, .int 9, .int 0] [] (Nat.le_of_ble_eq_true rfl) rfl (zT_X4_add_177 _ hI18250 9 0) ?_
            rintro _ _ ⟨g18275, rfl, hI18276, hF18277, v18278, rfl, hr18279⟩
            refine At.sti ?_
            have hF18280 := Fr.tr hF18254 hF18277 rfl rfl
            refine At.enter rfl ?_
            refine r_pop rfl ?_
            refine Ar.fall 135 rfl ?_
            refine At.enter rfl ?_
            refine r_vret ?_
            have x18281 := rX.e hI18276 (b := 2) ((((hF18277.1 176 2 (by decide)).trans (hF18251.1 176 2 (by decide))).trans hv18245))
            have x18282 := rX.e hI18276 (b := 4) ((((hF18277.1 176 4 (by decide)).trans (hF18251.1 176 4 (by decide))).trans hv18247))
            obtain ⟨v18283, hv18283⟩ : ∃ v, gI g18231 176 6 = v := ⟨_, rfl⟩
            have tv18283 := congrArg Int32.toInt hv18283
            have x18284 := rX.e hI18276 (b := 6) ((((hF18277.1 176 6 (by decide)).trans (hF18251.1 176 6 (by decide))).trans hv18283))
            obtain ⟨v18285, hv18285⟩ : ∃ v, gI g0 176 2 = v := ⟨_, rfl⟩
            have tv18285 := congrArg Int32.toInt hv18285
            have x18286 := rX.e hI0 (b := 2) (hv18285)
            have x18287 := rX.e hI0 (b := 4) (hv17599)
            have x18288 := rX.e hI17582 (b := 2) (hv18201)
            have x18289 := rX.e hI17582 (b := 4) (hv17602)
            have x18290 := rX.e hI18191 (b := 2) (hv18206)
            have x18291 := rX.e hI18191 (b := 4) (hv18208)
            obtain ⟨v18292, hv18292⟩ : ∃ v, gI g18190 176 6 = v := ⟨_, rfl⟩
            have tv18292 := congrArg Int32.toInt hv18292
            have x18293 := rX.e hI18191 (b := 6) (hv18292)
            have x18294 := rX.e hI18220 (b := 2) ((((hF18221.1 176 2 (by decide)).trans (hF18212.1 176 2 (by decide))).trans hv18206))
            have x18295 := rX.e hI18220 (b := 4) (hv18228)
            have x18296 := rX.e hI18220 (b := 6) ((((hF18221.1 176 6 (by decide)).trans (hF18212.1 176 6 (by decide))).trans hv18292))
            have x18297 := rX.e hI18232 (b := 2) (hv18245)
            have x18298 := rX.e hI18232 (b := 4) (hv18247)
            have x18299 := rX.e hI18232 (b := 6) (hv18283)
            exact ⟨_, rfl, hI18276, hF18280, rfl, ⟨(TKX.c o18238 (((hF18277.2.1 175 (by decide)).trans (hF18251.2.1 175 (by decide)))) (((hF18277.1 174 1 (by decide)).trans (hF18251.1 174 1 (by decide)))) (((hF18277.1 176 3 (by decide)).trans (hF18251.1 176 3 (by decide)))) (((hF18277.1 176 4 (by decide)).trans (hF18251.1 176 4 (by decide)))) (((hF18277.1 176 5 (by decide)).trans (hF18251.1 176 5 (by decide))))), ((PRG0.tr ((PRG0.tr ((PRG0.tr ((PRG0.tr (q17595) (o18198))) (PRG0.step o18197 tok18225_ (rX.c (b := 2) (((hF18221.1 176 2 (by decide)).trans (hF18212.1 176 2 (by decide))))) (by omega)))) (o18239))) (PRG0.eq (rX.c (b := 4) (((hF18277.1 176 4 (by decide)).trans (hF18251.1 176 4 (by decide))))) (rX.c (b := 2) (((hF18277.1 176 2 (by decide)).trans (hF18251.1 176 2 (by decide)))))))).le (by omega), PLO.cmp q17594 (TKX.someC q17593 ((hF17583.2.1 175 (by decide))) ((hF17583.1 174 1 (by decide)))).choose_spec (by omega) o18205 tok18225 (by omega) (rX.c (b := 2) (((hF18221.1 176 2 (by decide)).trans (hF18212.1 176 2 (by decide))))) (rX.c (b := 6) (((hF18221.1 176 6 (by decide)).trans (hF18212.1 176 6 (by decide))))) o18244 (TKX.someC o18238 (((hF18233.2.1 175 (by decide)).trans ((hF18221.2.1 175 (by decide)).trans ((hF18212.2.1 175 (by decide)).trans ((hF18192.2.1 175 (by decide)).trans ((hF18181.2.1 175 (by decide)).trans ((hF18172.2.1 175 (by decide)).trans (hF17583.2.1 175 (by decide))))))))) (((hF18233.1 174 1 (by decide)).trans ((hF18221.1 174 1 (by decide)).trans ((hF18212.1 174 1 (by decide)).trans ((hF18192.1 174 1 (by decide)).trans ((hF18181.1 174 1 (by decide)).trans ((hF18172.1 174 1 (by decide)).trans (hF17583.1 174 1 (by decide)))))))))).choose_spec o18241 (rX.c (b := 2) (((hF18277.1 176 2 (by decide)).trans (hF18251.1 176 2 (by decide))))) (rX.c (b := 4) (((hF18277.1 176 4 (by decide)).trans (hF18251.1 176 4 (by decide))))) (rX.c (b := 6) (((hF18277.1 176 6 (by decide)).trans (hF18251.1 176 6 (by decide)))))⟩⟩
        · have c18217_ : v18213.toInt = (-1) := en_i_ne_f c18217
          have i18300 := BLN.no hb18216 (by omega)
          refine At.enter rfl ?_
          refine r_aload_n (w_p1 (by decide) (Or.inr rfl) e17587) ?_
          refine q_inlV 99 rfl [.ref 176] [] (Nat.le_of_ble_eq_true rfl) rfl ?_
          refine Ev.mk rfl rfl ⟨Nat.le_of_ble_eq_true rfl, Or.inr (q_rc hI18211.1 kx_176 rfl)⟩ ?_
          show At _ none _ _ (0, [(0, .ref 176)], [], (_, _)) _
          refine At.enter rfl ?_
          refine r_aload_n rfl ?_
          refine q_getI (Sh.int hI18211.1 kx_176 rfl) v18206 ((hF18212.1 176 2 (by decide)).trans hv18206) ?_
          refine r_iconst (-1) rfl ?_
          refine r_ics 8 rfl (fun c18301 => ?_) (fun c18301 => ?_)
          · have c18301_ : v18206.toInt ≠ (-1) := en_i_ne_t c18301
            refine At.enter rfl ?_
            refine q_vret ?_
            refine At.enter rfl ?_
            refine r_vret ?_
            have x18302 := rX.e hI18211 (b := 2) (((hF18212.1 176 2 (by decide)).trans hv18206))
            have x18303 := rX.e hI18211 (b := 4) (((hF18212.1 176 4 (by decide)).trans hv18208))
            obtain ⟨v18304, hv18304⟩ : ∃ v, gI g18190 176 6 = v := ⟨_, rfl⟩
            have tv18304 := congrArg Int32.toInt hv18304
            have x18305 := rX.e hI18211 (b := 6) (((hF18212.1 176 6 (by decide)).trans hv18304))
            obtain ⟨v18306, hv18306⟩ : ∃ v, gI g0 176 2 = v := ⟨_, rfl⟩
            have tv18306 := congrArg Int32.toInt hv18306
            have x18307 := rX.e hI0 (b := 2) (hv18306)
            have x18308 := rX.e hI0 (b := 4) (hv17599)
            have x18309 := rX.e hI17582 (b := 2) (hv18201)
            have x18310 := rX.e hI17582 (b := 4) (hv17602)
            have x18311 := rX.e hI18191 (b := 2) (hv18206)
            have x18312 := rX.e hI18191 (b := 4) (hv18208)
            have x18313 := rX.e hI18191 (b := 6) (hv18304)
            exact ⟨_, rfl, hI18211, hF18215, rfl, ⟨(TKX.c o18197 ((hF18212.2.1 175 (by decide))) ((hF18212.1 174 1 (by decide))) ((hF18212.1 176 3 (by decide))) ((hF18212.1 176 4 (by decide))) ((hF18212.1 176 5 (by decide)))), ((PRG0.tr ((PRG0.tr (q17595) (o18198))) (PRG0.fail 1 (rX.c (b := 4) ((hF18212.1 176 4 (by decide)))) (fun _ => by omega) (fun _ => by omega) (by omega)))).le (by omega), PLO.cmpF q17594 (TKX.someC q17593 ((hF17583.2.1 175 (by decide))) ((hF17583.1 174 1 (by decide)))).choose_spec (by omega) o18205 (TKX.someC o18197 (((hF18192.2.1 175 (by decide)).trans ((hF18181.2.1 175 (by decide)).trans ((hF18172.2.1 175 (by decide)).trans (hF17583.2.1 175 (by decide)))))) (((hF18192.1 174 1 (by decide)).trans ((hF18181.1 174 1 (by decide)).trans ((hF18172.1 174 1 (by decide)).trans (hF17583.1 174 1 (by decide))))))).choose_spec o18200 (by omega) (fun _ => by omega) (fun _ => by omega) (by omega)⟩⟩
          · have c18301_ : v18206.toInt = (-1) := en_i_ne_f c18301
            refine At.enter rfl ?_
            refine r_aload_n rfl ?_
            refine r_aload_n rfl ?_
            refine q_getI (Sh.int hI18211.1 kx_176 rfl) v18208 ((hF18212.1 176 4 (by decide)).trans hv18208) ?_
            refine q_putI (Sh.int hI18211.1 kx_176 rfl) rfl ?_
            have hI18314 := HI.wI0 hI18211 kx_176 rfl (p := 176) (b := 2) (v := v18208) rfl
            have hF18315 := Fr.wI (p := 176) (b := 2) (v := v18208) hF18215 rfl
            refine Ar.fall 16 rfl ?_
            refine At.enter rfl ?_
            refine q_vret ?_
            refine At.enter rfl ?_
            refine r_vret ?_
            have x18316 := rX.e hI18314 (b := 2) ((gI_sI_eq hI18211.1 kx_176 rfl _))
            have x18317 := rX.e hI18314 (b := 4) ((((gI_sI_ne (by decide)).trans (hF18212.1 176 4 (by decide))).trans hv18208))
            obtain ⟨v18318, hv18318⟩ : ∃ v, gI g18190 176 6 = v := ⟨_, rfl⟩
            have tv18318 := congrArg Int32.toInt hv18318
            have x18319 := rX.e hI18314 (b := 6) ((((gI_sI_ne (by decide)).trans (hF18212.1 176 6 (by decide))).trans hv18318))
            obtain ⟨v18320, hv18320⟩ : ∃ v, gI g0 176 2 = v := ⟨_, rfl⟩
            have tv18320 := congrArg Int32.toInt hv18320
            have x18321 := rX.e hI0 (b := 2) (hv18320)
            have x18322 := rX.e hI0 (b := 4) (hv17599)
            have x18323 := rX.e hI17582 (b := 2) (hv18201)
            have x18324 := rX.e hI17582 (b := 4) (hv17602)
            have x18325 := rX.e hI18191 (b := 2) (hv18206)
            have x18326 := rX.e hI18191 (b := 4) (hv18208)
            have x18327 := rX.e hI18191 (b := 6) (hv18318)
            exact ⟨_, rfl, hI18314, hF18315, rfl, ⟨(TKX.c o18197 (((gA_sI).trans (hF18212.2.1 175 (by decide)))) (((gI_sI_ne (by decide)).trans (hF18212.1 174 1 (by decide)))) (((gI_sI_ne (by decide)).trans (hF18212.1 176 3 (by decide)))) (((gI_sI_ne (by decide)).trans (hF18212.1 176 4 (by decide)))) (((gI_sI_ne (by decide)).trans (hF18212.1 176 5 (by decide))))), ((PRG0.tr ((PRG0.tr (q17595) (o18198))) (PRG0.fail 1 (rX.c (b := 4) (((gI_sI_ne (by decide)).trans (hF18212.1 176 4 (by decide))))) (fun _ => by omega) (fun _ => by omega) (by omega)))).le (by omega), PLO.cmpF q17594 (TKX.someC q17593 ((hF17583.2.1 175 (by decide))) ((hF17583.1 174 1 (by decide)))).choose_spec (by omega) o18205 (TKX.someC o18197 (((hF18192.2.1 175 (by decide)).trans ((hF18181.2.1 175 (by decide)).trans ((hF18172.2.1 175 (by decide)).trans (hF17583.2.1 175 (by decide)))))) (((hF18192.1 174 1 (by decide)).trans ((hF18181.1 174 1 (by decide)).trans ((hF18172.1 174 1 (by decide)).trans (hF17583.1 174 1 (by decide))))))).choose_spec o18200 (by omega) (fun _ => by omega) (fun _ => by omega) (by omega)⟩⟩
      · have c18187_ : v18182.toInt ≠ 0 := en_k_eq_f c18187
        have i18328 := BL.yes hb18186 (by omega)
        refine At.enter rfl ?_
        refine r_aload_n e17587 ?_
        refine r_iload_n e17588 ?_
        refine q_inlV 54 rfl [.ref 176, .int a1] [] (Nat.le_of_ble_eq_true rfl) rfl ?_
        refine Ev.mk rfl rfl ⟨Nat.le_of_ble_eq_true rfl, Or.inr (q_rc hI18180.1 kx_176 rfl)⟩ ?_
        show At _ none _ _ (0, [(0, .ref 176), (1, .int a1)], [], (_, _)) _
        refine At.enter rfl ?_
        refine r_iload_n rfl ?_
        refine r_bipush 8 rfl ?_
        refine r_ics 6 rfl (fun c18329 => ?_) (fun c18329 => ?_)
        · have c18329_ : a1.toInt < 8 := en_i_lt_t c18329
          refine At.enter rfl ?_
          refine r_aload_n rfl ?_
          refine r_callV 17 rfl [.ref 176] [] (Nat.le_of_ble_eq_true rfl) rfl (zT_X5_step_176 _ hI18180 (TKX.c q17593 (((hF18181.2.1 175 (by decide)).trans (hF18172.2.1 175 (by decide)))) (((hF18181.1 174 1 (by decide)).trans (hF18172.1 174 1 (by decide)))) (((hF18181.1 176 3 (by decide)).trans (hF18172.1 176 3 (by decide)))) (((hF18181.1 176 4 (by decide)).trans (hF18172.1 176 4 (by decide)))) (((hF18181.1 176 5 (by decide)).trans (hF18172.1 176 5 (by decide))))).1 (TKX.c q17593 (((hF18181.2.1 175 (by decide)).trans (hF18172.2.1 175 (by decide)))) (((hF18181.1 174 1 (by decide)).trans (hF18172.1 174 1 (by decide)))) (((hF18181.1 176 3 (by decide)).trans (hF18172.1 176 3 (by decide)))) (((hF18181.1 176 4 (by decide)).trans (hF18172.1 176 4 (by decide)))) (((hF18181.1 176 5 (by decide)).trans (hF18172.1 176 5 (by decide))))).2.1.le.2.1) ?_
          rintro _ _ ⟨g18330, rfl, hI18331, hF18332, rfl, hr18334⟩
          refine At.stn ?_
          have hF18335 := Fr.tr hF18184 hF18332 rfl rfl
          have tok18336_ := hr18334.2
          rw [TX.c (((hF18181.2.1 175 (by decide)).trans (hF18172.2.1 175 (by decide)))), nX.c (((hF18181.1 174 1 (by decide)).trans (hF18172.1 174 1 (by decide)))), rX.c (b := 5) (((hF18181.1 176 5 (by decide)).trans (hF18172.1 176 5 (by decide))))] at tok18336_
          have tok18336 := TKX.tok q17593 tok18336_
          rw [TX.c ((hF17583.2.1 175 (by decide))), nX.c ((hF17583.1 174 1 (by decide)))] at tok18336
          have hT18337 := hr18334.1
          have x18338 := rX.e hI18180 (b := 4) ((((hF18181.1 176 4 (by decide)).trans (hF18172.1 176 4 (by decide))).trans hv17602))
          obtain ⟨v18339, hv18339⟩ : ∃ v, gI g18330 176 4 = v := ⟨_, rfl⟩
          have rv18339 := RgF.at hI18331.2.1 (p := 176) (b := 4) rfl
          rw [hv18339] at rv18339
          dsimp only at rv18339
          have tv18339 := congrArg Int32.toInt hv18339
          have x18340 := rX.e hI18331 (b := 4) (hv18339)
          refine At.enter rfl ?_
          refine q_vret ?_
          refine At.enter rfl ?_
          refine r_aload_n e17587 ?_
          obtain ⟨v18341, hv18341⟩ : ∃ v, gI g17581 176 2 = v := ⟨_, rfl⟩
          refine q_getI (Sh.int hI18331.1 kx_176 rfl) v18341 (((hF18332.1 176 2 (by decide)).trans ((hF18181.1 176 2 (by decide)).trans (hF18172.1 176 2 (by decide)))).trans hv18341) ?_
          refine r_iconst (-1) rfl ?_
          refine r_ics 62 rfl (fun c18342 => ?_) (fun c18342 => ?_)
          · have c18342_ : v18341.toInt ≠ (-1) := en_i_ne_t c18342
            refine At.enter rfl ?_
            refine r_iload_n e17589 ?_
            refine r_ifs 124 rfl (fun c18343 => ?_) (fun c18343 => ?_)
            · have c18343_ : x17579.toInt = 0 := en_k_eq_t c18343
              refine At.enter rfl ?_
              refine r_vret ?_
              have x18344 := rX.e hI18331 (b := 2) ((((hF18332.1 176 2 (by decide)).trans ((hF18181.1 176 2 (by decide)).trans (hF18172.1 176 2 (by decide)))).trans hv18341))
              have x18345 := rX.e hI18331 (b := 4) (hv18339)
              obtain ⟨v18346, hv18346⟩ : ∃ v, gI g17581 176 6 = v := ⟨_, rfl⟩
              have tv18346 := congrArg Int32.toInt hv18346
              have x18347 := rX.e hI18331 (b := 6) ((((hF18332.1 176 6 (by decide)).trans ((hF18181.1 176 6 (by decide)).trans (hF18172.1 176 6 (by decide)))).trans hv18346))
              obtain ⟨v18348, hv18348⟩ : ∃ v, gI g0 176 2 = v := ⟨_, rfl⟩
              have tv18348 := congrArg Int32.toInt hv18348
              have x18349 := rX.e hI0 (b := 2) (hv18348)
              have x18350 := rX.e hI0 (b := 4) (hv17599)
              have x18351 := rX.e hI17582 (b := 2) (hv18341)
              have x18352 := rX.e hI17582 (b := 4) (hv17602)
              have x18353 := rX.e hI18331 (b := 2) ((((hF18332.1 176 2 (by decide)).trans ((hF18181.1 176 2 (by decide)).trans (hF18172.1 176 2 (by decide)))).trans hv18341))
              have x18354 := rX.e hI18331 (b := 4) (hv18339)
              have x18355 := rX.e hI18331 (b := 6) ((((hF18332.1 176 6 (by decide)).trans ((hF18181.1 176 6 (by decide)).trans (hF18172.1 176 6 (by decide)))).trans hv18346))
              exact ⟨_, rfl, hI18331, hF18335, rfl, ⟨hT18337, ((PRG0.tr ((PRG0.tr (q17595) (PRG0.step q17593 tok18336_ (rX.c (b := 2) (((hF18332.1 176 2 (by decide)).trans ((hF18181.1 176 2 (by decide)).trans (hF18172.1 176 2 (by decide)))))) (by omega)))) (PRG0.eq rfl rfl))).le (by omega), PLO.bad (g1 := g17581) q17594 (by omega) (rX.c (b := 2) (((hF18332.1 176 2 (by decide)).trans ((hF18181.1 176 2 (by decide)).trans (hF18172.1 176 2 (by decide))))))⟩⟩
            · have c18343_ : x17579.toInt ≠ 0 := en_k_eq_f c18343
              refine At.enter rfl ?_
              refine r_aload_n e17587 ?_
              refine q_getR (Sh.ref hI18331.1 kx_176 rfl) ?_
              refine r_bipush 9 rfl ?_
              refine r_iconst 0 rfl ?_
              refine r_callV 134 rfl [.ref 177, .int 9, .int 0] [] (Nat.le_of_ble_eq_true rfl) rfl (zT_X4_add_177 _ hI18331 9 0) ?_
              rintro _ _ ⟨g18356, rfl, hI18357, hF18358, v18359, rfl, hr18360⟩
              refine At.sti ?_
              have hF18361 := Fr.tr hF18335 hF18358 rfl rfl
              refine At.enter rfl ?_
              refine r_pop rfl ?_
              refine Ar.fall 135 rfl ?_
              refine At.enter rfl ?_
              refine r_vret ?_
              have x18362 := rX.e hI18357 (b := 2) ((((hF18358.1 176 2 (by decide)).trans ((hF18332.1 176 2 (by decide)).trans ((hF18181.1 176 2 (by decide)).trans (hF18172.1 176 2 (by decide))))).trans hv18341))
              have x18363 := rX.e hI18357 (b := 4) (((hF18358.1 176 4 (by decide)).trans hv18339))
              obtain ⟨v18364, hv18364⟩ : ∃ v, gI g17581 176 6 = v := ⟨_, rfl⟩
              have tv18364 := congrArg Int32.toInt hv18364
              have x18365 := rX.e hI18357 (b := 6) ((((hF18358.1 176 6 (by decide)).trans ((hF18332.1 176 6 (by decide)).trans ((hF18181.1 176 6 (by decide)).trans (hF18172.1 176 6 (by decide))))).trans hv18364))
              obtain ⟨v18366, hv18366⟩ : ∃ v, gI g0 176 2 = v := ⟨_, rfl⟩
              have tv18366 := congrArg Int32.toInt hv18366
              have x18367 := rX.e hI0 (b := 2) (hv18366)
              have x18368 := rX.e hI0 (b := 4) (hv17599)
              have x18369 := rX.e hI17582 (b := 2) (hv18341)
              have x18370 := rX.e hI17582 (b := 4) (hv17602)
              have x18371 := rX.e hI18331 (b := 2) ((((hF18332.1 176 2 (by decide)).trans ((hF18181.1 176 2 (by decide)).trans (hF18172.1 176 2 (by decide)))).trans hv18341))
              have x18372 := rX.e hI18331 (b := 4) (hv18339)
              have x18373 := rX.e hI18331 (b := 6) ((((hF18332.1 176 6 (by decide)).trans ((hF18181.1 176 6 (by decide)).trans (hF18172.1 176 6 (by decide)))).trans hv18364))
              exact ⟨_, rfl, hI18357, hF18361, rfl, ⟨(TKX.c hT18337 ((hF18358.2.1 175 (by decide))) ((hF18358.1 174 1 (by decide))) ((hF18358.1 176 3 (by decide))) ((hF18358.1 176 4 (by decide))) ((hF18358.1 176 5 (by decide)))), ((PRG0.tr ((PRG0.tr (q17595) (PRG0.step q17593 tok18336_ (rX.c (b := 2) (((hF18332.1 176 2 (by decide)).trans ((hF18181.1 176 2 (by decide)).trans (hF18172.1 176 2 (by decide)))))) (by omega)))) (PRG0.eq (rX.c (b := 4) ((hF18358.1 176 4 (by decide)))) (rX.c (b := 2) ((hF18358.1 176 2 (by decide))))))).le (by omega), PLO.bad (g1 := g17581) q17594 (by omega) (rX.c (b := 2) (((hF18358.1 176 2 (by decide)).trans ((hF18332.1 176 2 (by decide)).trans ((hF18181.1 176 2 (by decide)).trans (hF18172.1 176 2 (by decide)))))))⟩⟩
          · have c18342_ : v18341.toInt = (-1) := en_i_ne_f c18342
            refine At.enter rfl ?_
            refine r_aload_n e17587 ?_
            refine r_iconst 0 rfl ?_
            refine r_iload_n e17588 ?_
            refine r_iconst 1 rfl ?_
            refine q_iadd (a1.toInt + 1) rfl (by omega) (fun v18374 hv18374 => ?_)
            have zv18375 : (0 : Int32).toInt = 0 := rfl
            refine r_callV 70 rfl [.ref 176, .int 0, .int v18374] [] (Nat.le_of_ble_eq_true rfl) rfl (IHJ _ (by omega) hI18331 0 (by decide) v18374 (by omega) (by omega) hT18337) ?_
            rintro _ _ ⟨g18376, rfl, hI18377, hF18378, rfl, hr18380⟩
            refine At.stn ?_
            have hF18381 := Fr.tr hF18335 hF18378 rfl rfl
            have zv18382 : (0 : Int32).toInt = 0 := rfl
            have x18387 := rX.e hI18331 (b := 2) ((((hF18332.1 176 2 (by decide)).trans ((hF18181.1 176 2 (by decide)).trans (hF18172.1 176 2 (by decide)))).trans hv18341))
            have x18388 := rX.e hI18331 (b := 4) (hv18339)
            obtain ⟨o18383, o18384, o18385, o18386⟩ := hr18380
            have o18389 := OPD.tc o18385 (((hF18332.2.1 175 (by decide)).trans ((hF18181.2.1 175 (by decide)).trans ((hF18172.2.1 175 (by decide)).trans (hF17583.2.1 175 (by decide)))))) (((hF18332.1 174 1 (by decide)).trans ((hF18181.1 174 1 (by decide)).trans ((hF18172.1 174 1 (by decide)).trans (hF17583.1 174 1 (by decide))))))
            obtain ⟨v18390, hv18390⟩ : ∃ v, gI g18376 176 2 = v := ⟨_, rfl⟩
            have tv18390 := congrArg Int32.toInt hv18390
            have x18391 := rX.e hI18377 (b := 2) (hv18390)
            obtain ⟨v18392, hv18392⟩ : ∃ v, gI g18376 176 4 = v := ⟨_, rfl⟩
            have rv18392 := RgF.at hI18377.2.1 (p := 176) (b := 4) rfl
            rw [hv18392] at rv18392
            dsimp only at rv18392
            have tv18392 := congrArg Int32.toInt hv18392
            have x18393 := rX.e hI18377 (b := 4) (hv18392)
            refine At.enter rfl ?_
            refine r_aload_n e17587 ?_
            refine r_bipush 41 rfl ?_
            refine q_inlV 76 rfl [.ref 176, .int 41] [] (Nat.le_of_ble_eq_true rfl) rfl ?_
            refine Ev.mk rfl rfl ⟨Nat.le_of_ble_eq_true rfl, Or.inr (q_rc hI18377.1 kx_176 rfl)⟩ ?_
            show At _ none _ _ (0, [(0, .ref 176), (1, .int 41)], [], (_, _)) _
            refine At.enter rfl ?_
            refine r_aload_n rfl ?_
            refine r_iload_n rfl ?_
            refine r_callV 5 rfl [.ref 176, .int 41] [] (Nat.le_of_ble_eq_true rfl) rfl (zT_X5_isSingle_176 _ hI18377 41 (by decide)) ?_
            rintro _ _ ⟨g18394, rfl, hI18395, hF18396, v18397, rfl, hr18398⟩
            refine At.sti ?_
            have hF18399 := Fr.tr hF18381 hF18396 rfl rfl
            have zv18400 : (41 : Int32).toInt = 41 := rfl
            have hb18401 : BL (CDX g18376 = 9) v18397.toInt := ISX.code (c := 9) hr18398.2 o18383 (isSC_d (by omega)) (by decide)
            refine At.enter rfl ?_
            refine r_ifs 8 rfl (fun c18402 => ?_) (fun c18402 => ?_)
            · have c18402_ : v18397.toInt = 0 := en_k_eq_t c18402
              have i18403 := BL.no hb18401 (by omega)
              refine At.enter rfl ?_
              refine r_aload_n rfl ?_
              refine q_inlV 19 rfl [.ref 176] [] (Nat.le_of_ble_eq_true rfl) rfl ?_
              refine Ev.mk rfl rfl ⟨Nat.le_of_ble_eq_true rfl, Or.inr (q_rc hI18395.1 kx_176 rfl)⟩ ?_
              show At _ none _ _ (0, [(0, .ref 176)], [], (_, _)) _
              refine At.enter rfl ?_
              refine r_aload_n rfl ?_
              refine q_getI (Sh.int hI18395.1 kx_176 rfl) v18390 ((hF18396.1 176 2 (by decide)).trans hv18390) ?_
              refine r_iconst (-1) rfl ?_
              refine r_ics 8 rfl (fun c18404 => ?_) (fun c18404 => ?_)
              · have c18404_ : v18390.toInt ≠ (-1) := en_i_ne_t c18404
                refine At.enter rfl ?_
                refine q_vret ?_
                refine At.enter rfl ?_
                refine q_vret ?_
                refine At.enter rfl ?_
                refine r_goto ?_
                refine At.enter rfl ?_
                refine r_iload_n e17589 ?_
                refine r_ifs 124 rfl (fun c18405 => ?_) (fun c18405 => ?_)
                · have c18405_ : x17579.toInt = 0 := en_k_eq_t c18405
                  refine At.enter rfl ?_
                  refine r_vret ?_
                  have x18406 := rX.e hI18395 (b := 2) (((hF18396.1 176 2 (by decide)).trans hv18390))
                  have x18407 := rX.e hI18395 (b := 4) (((hF18396.1 176 4 (by decide)).trans hv18392))
                  obtain ⟨v18408, hv18408⟩ : ∃ v, gI g18376 176 6 = v := ⟨_, rfl⟩
                  have tv18408 := congrArg Int32.toInt hv18408
                  have x18409 := rX.e hI18395 (b := 6) (((hF18396.1 176 6 (by decide)).trans hv18408))
                  obtain ⟨v18410, hv18410⟩ : ∃ v, gI g0 176 2 = v := ⟨_, rfl⟩
                  have tv18410 := congrArg Int32.toInt hv18410
                  have x18411 := rX.e hI0 (b := 2) (hv18410)
                  have x18412 := rX.e hI0 (b := 4) (hv17599)
                  have x18413 := rX.e hI17582 (b := 2) (hv18341)
                  have x18414 := rX.e hI17582 (b := 4) (hv17602)
                  have x18415 := rX.e hI18331 (b := 2) ((((hF18332.1 176 2 (by decide)).trans ((hF18181.1 176 2 (by decide)).trans (hF18172.1 176 2 (by decide)))).trans hv18341))
                  have x18416 := rX.e hI18331 (b := 4) (hv18339)
                  obtain ⟨v18417, hv18417⟩ : ∃ v, gI g17581 176 6 = v := ⟨_, rfl⟩
                  have tv18417 := congrArg Int32.toInt hv18417
                  have x18418 := rX.e hI18331 (b := 6) ((((hF18332.1 176 6 (by decide)).trans ((hF18181.1 176 6 (by decide)).trans (hF18172.1 176 6 (by decide)))).trans hv18417))
                  have x18419 := rX.e hI18377 (b := 2) (hv18390)
                  have x18420 := rX.e hI18377 (b := 4) (hv18392)
                  have x18421 := rX.e hI18377 (b := 6) (hv18408)
                  exact ⟨_, rfl, hI18395, hF18399, rfl, ⟨(TKX.c o18383 ((hF18396.2.1 175 (by decide))) ((hF18396.1 174 1 (by decide))) ((hF18396.1 176 3 (by decide))) ((hF18396.1 176 4 (by decide))) ((hF18396.1 176 5 (by decide)))), ((PRG0.tr ((PRG0.tr ((PRG0.tr (q17595) (PRG0.step q17593 tok18336_ (rX.c (b := 2) (((hF18332.1 176 2 (by decide)).trans ((hF18181.1 176 2 (by decide)).trans (hF18172.1 176 2 (by decide)))))) (by omega)))) (o18384))) (PRG0.fail 1 (rX.c (b := 4) ((hF18396.1 176 4 (by decide)))) (fun _ => by omega) (fun _ => by omega) (by omega)))).le (by omega), PLO.rndF q17594 tok18336 (by omega) (by omega) (rX.c (b := 2) (((hF18332.1 176 2 (by decide)).trans ((hF18181.1 176 2 (by decide)).trans (hF18172.1 176 2 (by decide)))))) (rX.c (b := 6) (((hF18332.1 176 6 (by decide)).trans ((hF18181.1 176 6 (by decide)).trans (hF18172.1 176 6 (by decide)))))) (OPD.cast o18389 rfl (by omega)) (TKX.someC o18383 (((hF18378.2.1 175 (by decide)).trans ((hF18332.2.1 175 (by decide)).trans ((hF18181.2.1 175 (by decide)).trans ((hF18172.2.1 175 (by decide)).trans (hF17583.2.1 175 (by decide))))))) (((hF18378.1 174 1 (by decide)).trans ((hF18332.1 174 1 (by decide)).trans ((hF18181.1 174 1 (by decide)).trans ((hF18172.1 174 1 (by decide)).trans (hF17583.1 174 1 (by decide)))))))).choose_spec o18386 (by omega) (fun _ => by omega) (fun _ => by omega) (by omega)⟩⟩
                · have c18405_ : x17579.toInt ≠ 0 := en_k_eq_f c18405
                  refine At.enter rfl ?_
                  refine r_aload_n e17587 ?_
                  refine q_getR (Sh.ref hI18395.1 kx_176 rfl) ?_
                  refine r_bipush 9 rfl ?_
                  refine r_iconst 0 rfl ?_
                  refine r_callV 134 rfl [.ref 177, .int 9, .int 0] [] (Nat.le_of_ble_eq_true rfl) rfl (zT_X4_add_177 _ hI18395 9 0) ?_
                  rintro _ _ ⟨g18422, rfl, hI18423, hF18424, v18425, rfl, hr18426⟩
                  refine At.sti ?_
                  have hF18427 := Fr.tr hF18399 hF18424 rfl rfl
                  refine At.enter rfl ?_
                  refine r_pop rfl ?_
                  refine Ar.fall 135 rfl ?_
                  refine At.enter rfl ?_
                  refine r_vret ?_
                  have x18428 := rX.e hI18423 (b := 2) ((((hF18424.1 176 2 (by decide)).trans (hF18396.1 176 2 (by decide))).trans hv18390))
                  have x18429 := rX.e hI18423 (b := 4) ((((hF18424.1 176 4 (by decide)).trans (hF18396.1 176 4 (by decide))).trans hv18392))
                  obtain ⟨v18430, hv18430⟩ : ∃ v, gI g18376 176 6 = v := ⟨_, rfl⟩
                  have tv18430 := congrArg Int32.toInt hv18430
                  have x18431 := rX.e hI18423 (b := 6) ((((hF18424.1 176 6 (by decide)).trans (hF18396.1 176 6 (by decide))).trans hv18430))
                  obtain ⟨v18432, hv18432⟩ : ∃ v, gI g0 176 2 = v := ⟨_, rfl⟩
                  have tv18432 := congrArg Int32.toInt hv18432
                  have x18433 := rX.e hI0 (b := 2) (hv18432)
                  have x18434 := rX.e hI0 (b := 4) (hv17599)
                  have x18435 := rX.e hI17582 (b := 2) (hv18341)
                  have x18436 := rX.e hI17582 (b := 4) (hv17602)
                  have x18437 := rX.e hI18331 (b := 2) ((((hF18332.1 176 2 (by decide)).trans ((hF18181.1 176 2 (by decide)).trans (hF18172.1 176 2 (by decide)))).trans hv18341))
                  have x18438 := rX.e hI18331 (b := 4) (hv18339)
                  obtain ⟨v18439, hv18439⟩ : ∃ v, gI g17581 176 6 = v := ⟨_, rfl⟩
                  have tv18439 := congrArg Int32.toInt hv18439
                  have x18440 := rX.e hI18331 (b := 6) ((((hF18332.1 176 6 (by decide)).trans ((hF18181.1 176 6 (by decide)).trans (hF18172.1 176 6 (by decide)))).trans hv18439))
                  have x18441 := rX.e hI18377 (b := 2) (hv18390)
                  have x18442 := rX.e hI18377 (b := 4) (hv18392)
                  have x18443 := rX.e hI18377 (b := 6) (hv18430)
                  exact ⟨_, rfl, hI18423, hF18427, rfl, ⟨(TKX.c o18383 (((hF18424.2.1 175 (by decide)).trans (hF18396.2.1 175 (by decide)))) (((hF18424.1 174 1 (by decide)).trans (hF18396.1 174 1 (by decide)))) (((hF18424.1 176 3 (by decide)).trans (hF18396.1 176 3 (by decide)))) (((hF18424.1 176 4 (by decide)).trans (hF18396.1 176 4 (by decide)))) (((hF18424.1 176 5 (by decide)).trans (hF18396.1 176 5 (by decide))))), ((PRG0.tr ((PRG0.tr ((PRG0.tr (q17595) (PRG0.step q17593 tok18336_ (rX.c (b := 2) (((hF18332.1 176 2 (by decide)).trans ((hF18181.1 176 2 (by decide)).trans (hF18172.1 176 2 (by decide)))))) (by omega)))) (o18384))) (PRG0.fail 1 (rX.c (b := 4) (((hF18424.1 176 4 (by decide)).trans (hF18396.1 176 4 (by decide))))) (fun _ => by omega) (fun _ => by omega) (by omega)))).le (by omega), PLO.rndF q17594 tok18336 (by omega) (by omega) (rX.c (b := 2) (((hF18332.1 176 2 (by decide)).trans ((hF18181.1 176 2 (by decide)).trans (hF18172.1 176 2 (by decide)))))) (rX.c (b := 6) (((hF18332.1 176 6 (by decide)).trans ((hF18181.1 176 6 (by decide)).trans (hF18172.1 176 6 (by decide)))))) (OPD.cast o18389 rfl (by omega)) (TKX.someC o18383 (((hF18378.2.1 175 (by decide)).trans ((hF18332.2.1 175 (by decide)).trans ((hF18181.2.1 175 (by decide)).trans ((hF18172.2.1 175 (by decide)).trans (hF17583.2.1 175 (by decide))))))) (((hF18378.1 174 1 (by decide)).trans ((hF18332.1 174 1 (by decide)).trans ((hF18181.1 174 1 (by decide)).trans ((hF18172.1 174 1 (by decide)).trans (hF17583.1 174 1 (by decide)))))))).choose_spec o18386 (by omega) (fun _ => by omega) (fun _ => by omega) (by omega)⟩⟩
              · have c18404_ : v18390.toInt = (-1) := en_i_ne_f c18404
                refine At.enter rfl ?_
                refine r_aload_n rfl ?_
                refine r_aload_n rfl ?_
                refine q_getI (Sh.int hI18395.1 kx_176 rfl) v18392 ((hF18396.1 176 4 (by decide)).trans hv18392) ?_
                refine q_putI (Sh.int hI18395.1 kx_176 rfl) rfl ?_
                have hI18444 := HI.wI0 hI18395 kx_176 rfl (p := 176) (b := 2) (v := v18392) rfl
                have hF18445 := Fr.wI (p := 176) (b := 2) (v := v18392) hF18399 rfl
                refine Ar.fall 16 rfl ?_
                refine At.enter rfl ?_
                refine q_vret ?_
                refine At.enter rfl ?_
                refine q_vret ?_
                refine At.enter rfl ?_
                refine r_goto ?_
                refine At.enter rfl ?_
                refine r_iload_n e17589 ?_
                refine r_ifs 124 rfl (fun c18446 => ?_) (fun c18446 => ?_)
                · have c18446_ : x17579.toInt = 0 := en_k_eq_t c18446
                  refine At.enter rfl ?_
                  refine r_vret ?_
                  have x18447 := rX.e hI18444 (b := 2) ((gI_sI_eq hI18395.1 kx_176 rfl _))
                  have x18448 := rX.e hI18444 (b := 4) ((((gI_sI_ne (by decide)).trans (hF18396.1 176 4 (by decide))).trans hv18392))
                  obtain ⟨v18449, hv18449⟩ : ∃ v, gI g18376 176 6 = v := ⟨_, rfl⟩
                  have tv18449 := congrArg Int32.toInt hv18449
                  have x18450 := rX.e hI18444 (b := 6) ((((gI_sI_ne (by decide)).trans (hF18396.1 176 6 (by decide))).trans hv18449))
                  obtain ⟨v18451, hv18451⟩ : ∃ v, gI g0 176 2 = v := ⟨_, rfl⟩
                  have tv18451 := congrArg Int32.toInt hv18451
                  have x18452 := rX.e hI0 (b := 2) (hv18451)
                  have x18453 := rX.e hI0 (b := 4) (hv17599)
                  have x18454 := rX.e hI17582 (b := 2) (hv18341)
                  have x18455 := rX.e hI17582 (b := 4) (hv17602)
                  have x18456 := rX.e hI18331 (b := 2) ((((hF18332.1 176 2 (by decide)).trans ((hF18181.1 176 2 (by decide)).trans (hF18172.1 176 2 (by decide)))).trans hv18341))
                  have x18457 := rX.e hI18331 (b := 4) (hv18339)
                  obtain ⟨v18458, hv18458⟩ : ∃ v, gI g17581 176 6 = v := ⟨_, rfl⟩
                  have tv18458 := congrArg Int32.toInt hv18458
                  have x18459 := rX.e hI18331 (b := 6) ((((hF18332.1 176 6 (by decide)).trans ((hF18181.1 176 6 (by decide)).trans (hF18172.1 176 6 (by decide)))).trans hv18458))
                  have x18460 := rX.e hI18377 (b := 2) (hv18390)
                  have x18461 := rX.e hI18377 (b := 4) (hv18392)
                  have x18462 := rX.e hI18377 (b := 6) (hv18449)
                  exact ⟨_, rfl, hI18444, hF18445, rfl, ⟨(TKX.c o18383 (((gA_sI).trans (hF18396.2.1 175 (by decide)))) (((gI_sI_ne (by decide)).trans (hF18396.1 174 1 (by decide)))) (((gI_sI_ne (by decide)).trans (hF18396.1 176 3 (by decide)))) (((gI_sI_ne (by decide)).trans (hF18396.1 176 4 (by decide)))) (((gI_sI_ne (by decide)).trans (hF18396.1 176 5 (by decide))))), ((PRG0.tr ((PRG0.tr ((PRG0.tr (q17595) (PRG0.step q17593 tok18336_ (rX.c (b := 2) (((hF18332.1 176 2 (by decide)).trans ((hF18181.1 176 2 (by decide)).trans (hF18172.1 176 2 (by decide)))))) (by omega)))) (o18384))) (PRG0.fail 1 (rX.c (b := 4) (((gI_sI_ne (by decide)).trans (hF18396.1 176 4 (by decide))))) (fun _ => by omega) (fun _ => by omega) (by omega)))).le (by omega), PLO.rndF q17594 tok18336 (by omega) (by omega) (rX.c (b := 2) (((hF18332.1 176 2 (by decide)).trans ((hF18181.1 176 2 (by decide)).trans (hF18172.1 176 2 (by decide)))))) (rX.c (b := 6) (((hF18332.1 176 6 (by decide)).trans ((hF18181.1 176 6 (by decide)).trans (hF18172.1 176 6 (by decide)))))) (OPD.cast o18389 rfl (by omega)) (TKX.someC o18383 (((hF18378.2.1 175 (by decide)).trans ((hF18332.2.1 175 (by decide)).trans ((hF18181.2.1 175 (by decide)).trans ((hF18172.2.1 175 (by decide)).trans (hF17583.2.1 175 (by decide))))))) (((hF18378.1 174 1 (by decide)).trans ((hF18332.1 174 1 (by decide)).trans ((hF18181.1 174 1 (by decide)).trans ((hF18172.1 174 1 (by decide)).trans (hF17583.1 174 1 (by decide)))))))).choose_spec o18386 (by omega) (fun _ => by omega) (fun _ => by omega) (by omega)⟩⟩
                · have c18446_ : x17579.toInt ≠ 0 := en_k_eq_f c18446
                  refine At.enter rfl ?_
                  refine r_aload_n e17587 ?_
                  refine q_getR (Sh.ref hI18444.1 kx_176 rfl) ?_
                  refine r_bipush 9 rfl ?_
                  refine r_iconst 0 rfl ?_
                  refine r_callV 134 rfl [.ref 177, .int 9, .int 0] [] (Nat.le_of_ble_eq_true rfl) rfl (zT_X4_add_177 _ hI18444 9 0) ?_
                  rintro _ _ ⟨g18463, rfl, hI18464, hF18465, v18466, rfl, hr18467⟩
                  refine At.sti ?_
                  have hF18468 := Fr.tr hF18445 hF18465 rfl rfl
                  refine At.enter rfl ?_
                  refine r_pop rfl ?_
                  refine Ar.fall 135 rfl ?_
                  refine At.enter rfl ?_
                  refine r_vret ?_
                  have x18469 := rX.e hI18464 (b := 2) (((hF18465.1 176 2 (by decide)).trans (gI_sI_eq hI18395.1 kx_176 rfl _)))
                  have x18470 := rX.e hI18464 (b := 4) ((((hF18465.1 176 4 (by decide)).trans ((gI_sI_ne (by decide)).trans (hF18396.1 176 4 (by decide)))).trans hv18392))
                  obtain ⟨v18471, hv18471⟩ : ∃ v, gI g18376 176 6 = v := ⟨_, rfl⟩
                  have tv18471 := congrArg Int32.toInt hv18471
                  have x18472 := rX.e hI18464 (b := 6) ((((hF18465.1 176 6 (by decide)).trans ((gI_sI_ne (by decide)).trans (hF18396.1 176 6 (by decide)))).trans hv18471))
                  obtain ⟨v18473, hv18473⟩ : ∃ v, gI g0 176 2 = v := ⟨_, rfl⟩
                  have tv18473 := congrArg Int32.toInt hv18473
                  have x18474 := rX.e hI0 (b := 2) (hv18473)
                  have x18475 := rX.e hI0 (b := 4) (hv17599)
                  have x18476 := rX.e hI17582 (b := 2) (hv18341)
                  have x18477 := rX.e hI17582 (b := 4) (hv17602)
                  have x18478 := rX.e hI18331 (b := 2) ((((hF18332.1 176 2 (by decide)).trans ((hF18181.1 176 2 (by decide)).trans (hF18172.1 176 2 (by decide)))).trans hv18341))
                  have x18479 := rX.e hI18331 (b := 4) (hv18339)
                  obtain ⟨v18480, hv18480⟩ : ∃ v, gI g17581 176 6 = v := ⟨_, rfl⟩
                  have tv18480 := congrArg Int32.toInt hv18480
                  have x18481 := rX.e hI18331 (b := 6) ((((hF18332.1 176 6 (by decide)).trans ((hF18181.1 176 6 (by decide)).trans (hF18172.1 176 6 (by decide)))).trans hv18480))
                  have x18482 := rX.e hI18377 (b := 2) (hv18390)
                  have x18483 := rX.e hI18377 (b := 4) (hv18392)
                  have x18484 := rX.e hI18377 (b := 6) (hv18471)
                  exact ⟨_, rfl, hI18464, hF18468, rfl, ⟨(TKX.c o18383 (((hF18465.2.1 175 (by decide)).trans ((gA_sI).trans (hF18396.2.1 175 (by decide))))) (((hF18465.1 174 1 (by decide)).trans ((gI_sI_ne (by decide)).trans (hF18396.1 174 1 (by decide))))) (((hF18465.1 176 3 (by decide)).trans ((gI_sI_ne (by decide)).trans (hF18396.1 176 3 (by decide))))) (((hF18465.1 176 4 (by decide)).trans ((gI_sI_ne (by decide)).trans (hF18396.1 176 4 (by decide))))) (((hF18465.1 176 5 (by decide)).trans ((gI_sI_ne (by decide)).trans (hF18396.1 176 5 (by decide)))))), ((PRG0.tr ((PRG0.tr ((PRG0.tr (q17595) (PRG0.step q17593 tok18336_ (rX.c (b := 2) (((hF18332.1 176 2 (by decide)).trans ((hF18181.1 176 2 (by decide)).trans (hF18172.1 176 2 (by decide)))))) (by omega)))) (o18384))) (PRG0.fail 1 (rX.c (b := 4) (((hF18465.1 176 4 (by decide)).trans ((gI_sI_ne (by decide)).trans (hF18396.1 176 4 (by decide)))))) (fun _ => by omega) (fun _ => by omega) (by omega)))).le (by omega), PLO.rndF q17594 tok18336 (by omega) (by omega) (rX.c (b := 2) (((hF18332.1 176 2 (by decide)).trans ((hF18181.1 176 2 (by decide)).trans (hF18172.1 176 2 (by decide)))))) (rX.c (b := 6) (((hF18332.1 176 6 (by decide)).trans ((hF18181.1 176 6 (by decide)).trans (hF18172.1 176 6 (by decide)))))) (OPD.cast o18389 rfl (by omega)) (TKX.someC o18383 (((hF18378.2.1 175 (by decide)).trans ((hF18332.2.1 175 (by decide)).trans ((hF18181.2.1 175 (by decide)).trans ((hF18172.2.1 175 (by decide)).trans (hF17583.2.1 175 (by decide))))))) (((hF18378.1 174 1 (by decide)).trans ((hF18332.1 174 1 (by decide)).trans ((hF18181.1 174 1 (by decide)).trans ((hF18172.1 174 1 (by decide)).trans (hF17583.1 174 1 (by decide)))))))).choose_spec o18386 (by omega) (fun _ => by omega) (fun _ => by omega) (by omega)⟩⟩
            · have c18402_ : v18397.toInt ≠ 0 := en_k_eq_f c18402
              have i18485 := BL.yes hb18401 (by omega)
              refine At.enter rfl ?_
              refine r_aload_n rfl ?_
              refine r_callV 12 rfl [.ref 176] [] (Nat.le_of_ble_eq_true rfl) rfl (zT_X5_step_176 _ hI18395 (TKX.c o18383 ((hF18396.2.1 175 (by decide))) ((hF18396.1 174 1 (by decide))) ((hF18396.1 176 3 (by decide))) ((hF18396.1 176 4 (by decide))) ((hF18396.1 176 5 (by decide)))).1 (TKX.c o18383 ((hF18396.2.1 175 (by decide))) ((hF18396.1 174 1 (by decide))) ((hF18396.1 176 3 (by decide))) ((hF18396.1 176 4 (by decide))) ((hF18396.1 176 5 (by decide)))).2.1.le.2.1) ?_
              rintro _ _ ⟨g18486, rfl, hI18487, hF18488, rfl, hr18490⟩
              refine At.stn ?_
              have hF18491 := Fr.tr hF18399 hF18488 rfl rfl
              have tok18492_ := hr18490.2
              rw [TX.c ((hF18396.2.1 175 (by decide))), nX.c ((hF18396.1 174 1 (by decide))), rX.c (b := 5) ((hF18396.1 176 5 (by decide)))] at tok18492_
              have tok18492 := TKX.tok o18383 tok18492_
              rw [TX.c (((hF18378.2.1 175 (by decide)).trans ((hF18332.2.1 175 (by decide)).trans ((hF18181.2.1 175 (by decide)).trans ((hF18172.2.1 175 (by decide)).trans (hF17583.2.1 175 (by decide))))))), nX.c (((hF18378.1 174 1 (by decide)).trans ((hF18332.1 174 1 (by decide)).trans ((hF18181.1 174 1 (by decide)).trans ((hF18172.1 174 1 (by decide)).trans (hF17583.1 174 1 (by decide)))))))] at tok18492
              have hT18493 := hr18490.1
              have x18494 := rX.e hI18395 (b := 4) (((hF18396.1 176 4 (by decide)).trans hv18392))
              obtain ⟨v18495, hv18495⟩ : ∃ v, gI g18486 176 4 = v := ⟨_, rfl⟩
              have rv18495 := RgF.at hI18487.2.1 (p := 176) (b := 4) rfl
              rw [hv18495] at rv18495
              dsimp only at rv18495
              have tv18495 := congrArg Int32.toInt hv18495
              have x18496 := rX.e hI18487 (b := 4) (hv18495)
              refine At.enter rfl ?_
              refine r_goto ?_
              refine At.enter rfl ?_
              refine q_vret ?_
              refine At.enter rfl ?_
              refine r_goto ?_
              refine At.enter rfl ?_
              refine r_iload_n e17589 ?_
              refine r_ifs 124 rfl (fun c18497 => ?_) (fun c18497 => ?_)
              · have c18497_ : x17579.toInt = 0 := en_k_eq_t c18497
                refine At.enter rfl ?_
                refine r_vret ?_
                have x18498 := rX.e hI18487 (b := 2) ((((hF18488.1 176 2 (by decide)).trans (hF18396.1 176 2 (by decide))).trans hv18390))
                have x18499 := rX.e hI18487 (b := 4) (hv18495)
                obtain ⟨v18500, hv18500⟩ : ∃ v, gI g18376 176 6 = v := ⟨_, rfl⟩
                have tv18500 := congrArg Int32.toInt hv18500
                have x18501 := rX.e hI18487 (b := 6) ((((hF18488.1 176 6 (by decide)).trans (hF18396.1 176 6 (by decide))).trans hv18500))
                obtain ⟨v18502, hv18502⟩ : ∃ v, gI g0 176 2 = v := ⟨_, rfl⟩
                have tv18502 := congrArg Int32.toInt hv18502
                have x18503 := rX.e hI0 (b := 2) (hv18502)
                have x18504 := rX.e hI0 (b := 4) (hv17599)
                have x18505 := rX.e hI17582 (b := 2) (hv18341)
                have x18506 := rX.e hI17582 (b := 4) (hv17602)
                have x18507 := rX.e hI18331 (b := 2) ((((hF18332.1 176 2 (by decide)).trans ((hF18181.1 176 2 (by decide)).trans (hF18172.1 176 2 (by decide)))).trans hv18341))
                have x18508 := rX.e hI18331 (b := 4) (hv18339)
                obtain ⟨v18509, hv18509⟩ : ∃ v, gI g17581 176 6 = v := ⟨_, rfl⟩
                have tv18509 := congrArg Int32.toInt hv18509
                have x18510 := rX.e hI18331 (b := 6) ((((hF18332.1 176 6 (by decide)).trans ((hF18181.1 176 6 (by decide)).trans (hF18172.1 176 6 (by decide)))).trans hv18509))
                have x18511 := rX.e hI18377 (b := 2) (hv18390)
                have x18512 := rX.e hI18377 (b := 4) (hv18392)
                have x18513 := rX.e hI18377 (b := 6) (hv18500)
                have x18514 := rX.e hI18487 (b := 2) ((((hF18488.1 176 2 (by decide)).trans (hF18396.1 176 2 (by decide))).trans hv18390))
                have x18515 := rX.e hI18487 (b := 4) (hv18495)
                have x18516 := rX.e hI18487 (b := 6) ((((hF18488.1 176 6 (by decide)).trans (hF18396.1 176 6 (by decide))).trans hv18500))
                exact ⟨_, rfl, hI18487, hF18491, rfl, ⟨hT18493, ((PRG0.tr ((PRG0.tr ((PRG0.tr ((PRG0.tr (q17595) (PRG0.step q17593 tok18336_ (rX.c (b := 2) (((hF18332.1 176 2 (by decide)).trans ((hF18181.1 176 2 (by decide)).trans (hF18172.1 176 2 (by decide)))))) (by omega)))) (o18384))) (PRG0.step o18383 tok18492_ (rX.c (b := 2) (((hF18488.1 176 2 (by decide)).trans (hF18396.1 176 2 (by decide))))) (by omega)))) (PRG0.eq rfl rfl))).le (by omega), PLO.rnd q17594 tok18336 (by omega) (by omega) (rX.c (b := 2) (((hF18332.1 176 2 (by decide)).trans ((hF18181.1 176 2 (by decide)).trans (hF18172.1 176 2 (by decide)))))) (rX.c (b := 6) (((hF18332.1 176 6 (by decide)).trans ((hF18181.1 176 6 (by decide)).trans (hF18172.1 176 6 (by decide)))))) (OPD.cast o18389 rfl (by omega)) tok18492 (by omega) (rX.c (b := 2) (((hF18488.1 176 2 (by decide)).trans (hF18396.1 176 2 (by decide))))) (rX.c (b := 6) (((hF18488.1 176 6 (by decide)).trans (hF18396.1 176 6 (by decide))))) rfl rfl rfl⟩⟩
              · have c18497_ : x17579.toInt ≠ 0 := en_k_eq_f c18497
                refine At.enter rfl ?_
                refine r_aload_n e17587 ?_
                refine q_getR (Sh.ref hI18487.1 kx_176 rfl) ?_
                refine r_bipush 9 rfl ?_
                refine r_iconst 0 rfl ?_
                refine r_callV 134 rfl [.ref 177, .int 9, .int 0] [] (Nat.le_of_ble_eq_true rfl) rfl (zT_X4_add_177 _ hI18487 9 0) ?_
                rintro _ _ ⟨g18517, rfl, hI18518, hF18519, v18520, rfl, hr18521⟩
                refine At.sti ?_
                have hF18522 := Fr.tr hF18491 hF18519 rfl rfl
                refine At.enter rfl ?_
                refine r_pop rfl ?_
                refine Ar.fall 135 rfl ?_
                refine At.enter rfl ?_
                refine r_vret ?_
                have x18523 := rX.e hI18518 (b := 2) ((((hF18519.1 176 2 (by decide)).trans ((hF18488.1 176 2 (by decide)).trans (hF18396.1 176 2 (by decide)))).trans hv18390))
                have x18524 := rX.e hI18518 (b := 4) (((hF18519.1 176 4 (by decide)).trans hv18495))
                obtain ⟨v18525, hv18525⟩ : ∃ v, gI g18376 176 6 = v := ⟨_, rfl⟩
                have tv18525 := congrArg Int32.toInt hv18525
                have x18526 := rX.e hI18518 (b := 6) ((((hF18519.1 176 6 (by decide)).trans ((hF18488.1 176 6 (by decide)).trans (hF18396.1 176 6 (by decide)))).trans hv18525))
                obtain ⟨v18527, hv18527⟩ : ∃ v, gI g0 176 2 = v := ⟨_, rfl⟩
                have tv18527 := congrArg Int32.toInt hv18527
                have x18528 := rX.e hI0 (b := 2) (hv18527)
                have x18529 := rX.e hI0 (b := 4) (hv17599)
                have x18530 := rX.e hI17582 (b := 2) (hv18341)
                have x18531 := rX.e hI17582 (b := 4) (hv17602)
                have x18532 := rX.e hI18331 (b := 2) ((((hF18332.1 176 2 (by decide)).trans ((hF18181.1 176 2 (by decide)).trans (hF18172.1 176 2 (by decide)))).trans hv18341))
                have x18533 := rX.e hI18331 (b := 4) (hv18339)
                obtain ⟨v18534, hv18534⟩ : ∃ v, gI g17581 176 6 = v := ⟨_, rfl⟩
                have tv18534 := congrArg Int32.toInt hv18534
                have x18535 := rX.e hI18331 (b := 6) ((((hF18332.1 176 6 (by decide)).trans ((hF18181.1 176 6 (by decide)).trans (hF18172.1 176 6 (by decide)))).trans hv18534))
                have x18536 := rX.e hI18377 (b := 2) (hv18390)
                have x18537 := rX.e hI18377 (b := 4) (hv18392)
                have x18538 := rX.e hI18377 (b := 6) (hv18525)
                have x18539 := rX.e hI18487 (b := 2) ((((hF18488.1 176 2 (by decide)).trans (hF18396.1 176 2 (by decide))).trans hv18390))
                have x18540 := rX.e hI18487 (b := 4) (hv18495)
                have x18541 := rX.e hI18487 (b := 6) ((((hF18488.1 176 6 (by decide)).trans (hF18396.1 176 6 (by decide))).trans hv18525))
                exact ⟨_, rfl, hI18518, hF18522, rfl, ⟨(TKX.c hT18493 ((hF18519.2.1 175 (by decide))) ((hF18519.1 174 1 (by decide))) ((hF18519.1 176 3 (by decide))) ((hF18519.1 176 4 (by decide))) ((hF18519.1 176 5 (by decide)))), ((PRG0.tr ((PRG0.tr ((PRG0.tr ((PRG0.tr (q17595) (PRG0.step q17593 tok18336_ (rX.c (b := 2) (((hF18332.1 176 2 (by decide)).trans ((hF18181.1 176 2 (by decide)).trans (hF18172.1 176 2 (by decide)))))) (by omega)))) (o18384))) (PRG0.step o18383 tok18492_ (rX.c (b := 2) (((hF18488.1 176 2 (by decide)).trans (hF18396.1 176 2 (by decide))))) (by omega)))) (PRG0.eq (rX.c (b := 4) ((hF18519.1 176 4 (by decide)))) (rX.c (b := 2) ((hF18519.1 176 2 (by decide))))))).le (by omega), PLO.rnd q17594 tok18336 (by omega) (by omega) (rX.c (b := 2) (((hF18332.1 176 2 (by decide)).trans ((hF18181.1 176 2 (by decide)).trans (hF18172.1 176 2 (by decide)))))) (rX.c (b := 6) (((hF18332.1 176 6 (by decide)).trans ((hF18181.1 176 6 (by decide)).trans (hF18172.1 176 6 (by decide)))))) (OPD.cast o18389 rfl (by omega)) tok18492 (by omega) (rX.c (b := 2) (((hF18488.1 176 2 (by decide)).trans (hF18396.1 176 2 (by decide))))) (rX.c (b := 6) (((hF18488.1 176 6 (by decide)).trans (hF18396.1 176 6 (by decide))))) (rX.c (b := 2) ((hF18519.1 176 2 (by decide)))) (rX.c (b := 4) ((hF18519.1 176 4 (by decide)))) (rX.c (b := 6) ((hF18519.1 176 6 (by decide))))⟩⟩
        · have c18329_ : a1.toInt ≥ 8 := en_i_lt_f c18329
          refine At.enter rfl ?_
          refine r_aload_n rfl ?_
          refine q_inlV 10 rfl [.ref 176] [] (Nat.le_of_ble_eq_true rfl) rfl ?_
          refine Ev.mk rfl rfl ⟨Nat.le_of_ble_eq_true rfl, Or.inr (q_rc hI18180.1 kx_176 rfl)⟩ ?_
          show At _ none _ _ (0, [(0, .ref 176)], [], (_, _)) _
          refine At.enter rfl ?_
          refine r_aload_n rfl ?_
          obtain ⟨v18542, hv18542⟩ : ∃ v, gI g17581 176 2 = v := ⟨_, rfl⟩
          refine q_getI (Sh.int hI18180.1 kx_176 rfl) v18542 (((hF18181.1 176 2 (by decide)).trans (hF18172.1 176 2 (by decide))).trans hv18542) ?_
          refine r_iconst (-1) rfl ?_
          refine r_ics 8 rfl (fun c18543 => ?_) (fun c18543 => ?_)
          · have c18543_ : v18542.toInt ≠ (-1) := en_i_ne_t c18543
            refine At.enter rfl ?_
            refine q_vret ?_
            refine At.enter rfl ?_
            refine r_goto ?_
            refine At.enter rfl ?_
            refine q_vret ?_
            refine At.enter rfl ?_
            refine r_aload_n e17587 ?_
            refine q_getI (Sh.int hI18180.1 kx_176 rfl) v18542 (((hF18181.1 176 2 (by decide)).trans (hF18172.1 176 2 (by decide))).trans hv18542) ?_
            refine r_iconst (-1) rfl ?_
            refine r_ics 62 rfl (fun c18544 => ?_) (fun c18544 => ?_)
            · have c18544_ : v18542.toInt ≠ (-1) := en_i_ne_t c18544
              refine At.enter rfl ?_
              refine r_iload_n e17589 ?_
              refine r_ifs 124 rfl (fun c18545 => ?_) (fun c18545 => ?_)
              · have c18545_ : x17579.toInt = 0 := en_k_eq_t c18545
                refine At.enter rfl ?_
                refine r_vret ?_
                have x18546 := rX.e hI18180 (b := 2) ((((hF18181.1 176 2 (by decide)).trans (hF18172.1 176 2 (by decide))).trans hv18542))
                have x18547 := rX.e hI18180 (b := 4) ((((hF18181.1 176 4 (by decide)).trans (hF18172.1 176 4 (by decide))).trans hv17602))
                obtain ⟨v18548, hv18548⟩ : ∃ v, gI g17581 176 6 = v := ⟨_, rfl⟩
                have tv18548 := congrArg Int32.toInt hv18548
                have x18549 := rX.e hI18180 (b := 6) ((((hF18181.1 176 6 (by decide)).trans (hF18172.1 176 6 (by decide))).trans hv18548))
                obtain ⟨v18550, hv18550⟩ : ∃ v, gI g0 176 2 = v := ⟨_, rfl⟩
                have tv18550 := congrArg Int32.toInt hv18550
                have x18551 := rX.e hI0 (b := 2) (hv18550)
                have x18552 := rX.e hI0 (b := 4) (hv17599)
                have x18553 := rX.e hI17582 (b := 2) (hv18542)
                have x18554 := rX.e hI17582 (b := 4) (hv17602)
                exact ⟨_, rfl, hI18180, hF18184, rfl, ⟨(TKX.c q17593 (((hF18181.2.1 175 (by decide)).trans (hF18172.2.1 175 (by decide)))) (((hF18181.1 174 1 (by decide)).trans (hF18172.1 174 1 (by decide)))) (((hF18181.1 176 3 (by decide)).trans (hF18172.1 176 3 (by decide)))) (((hF18181.1 176 4 (by decide)).trans (hF18172.1 176 4 (by decide)))) (((hF18181.1 176 5 (by decide)).trans (hF18172.1 176 5 (by decide))))), ((PRG0.tr (q17595) (PRG0.fail 1 (rX.c (b := 4) (((hF18181.1 176 4 (by decide)).trans (hF18172.1 176 4 (by decide))))) (fun _ => by omega) (fun _ => by omega) (by omega)))).le (by omega), PLO.deep q17594 (TKX.someC q17593 ((hF17583.2.1 175 (by decide))) ((hF17583.1 174 1 (by decide)))).choose_spec (by omega) (by omega) (fun _ => by omega) (fun _ => by omega) (by omega)⟩⟩
              · have c18545_ : x17579.toInt ≠ 0 := en_k_eq_f c18545
                refine At.enter rfl ?_
                refine r_aload_n e17587 ?_
                refine q_getR (Sh.ref hI18180.1 kx_176 rfl) ?_
                refine r_bipush 9 rfl ?_
                refine r_iconst 0 rfl ?_
                refine r_callV 134 rfl [.ref 177, .int 9, .int 0] [] (Nat.le_of_ble_eq_true rfl) rfl (zT_X4_add_177 _ hI18180 9 0) ?_
                rintro _ _ ⟨g18555, rfl, hI18556, hF18557, v18558, rfl, hr18559⟩
                refine At.sti ?_
                have hF18560 := Fr.tr hF18184 hF18557 rfl rfl
                refine At.enter rfl ?_
                refine r_pop rfl ?_
                refine Ar.fall 135 rfl ?_
                refine At.enter rfl ?_
                refine r_vret ?_
                have x18561 := rX.e hI18556 (b := 2) ((((hF18557.1 176 2 (by decide)).trans ((hF18181.1 176 2 (by decide)).trans (hF18172.1 176 2 (by decide)))).trans hv18542))
                have x18562 := rX.e hI18556 (b := 4) ((((hF18557.1 176 4 (by decide)).trans ((hF18181.1 176 4 (by decide)).trans (hF18172.1 176 4 (by decide)))).trans hv17602))
                obtain ⟨v18563, hv18563⟩ : ∃ v, gI g17581 176 6 = v := ⟨_, rfl⟩
                have tv18563 := congrArg Int32.toInt hv18563
                have x18564 := rX.e hI18556 (b := 6) ((((hF18557.1 176 6 (by decide)).trans ((hF18181.1 176 6 (by decide)).trans (hF18172.1 176 6 (by decide)))).trans hv18563))
                obtain ⟨v18565, hv18565⟩ : ∃ v, gI g0 176 2 = v := ⟨_, rfl⟩
                have tv18565 := congrArg Int32.toInt hv18565
                have x18566 := rX.e hI0 (b := 2) (hv18565)
                have x18567 := rX.e hI0 (b := 4) (hv17599)
                have x18568 := rX.e hI17582 (b := 2) (hv18542)
                have x18569 := rX.e hI17582 (b := 4) (hv17602)
                exact ⟨_, rfl, hI18556, hF18560, rfl, ⟨(TKX.c q17593 (((hF18557.2.1 175 (by decide)).trans ((hF18181.2.1 175 (by decide)).trans (hF18172.2.1 175 (by decide))))) (((hF18557.1 174 1 (by decide)).trans ((hF18181.1 174 1 (by decide)).trans (hF18172.1 174 1 (by decide))))) (((hF18557.1 176 3 (by decide)).trans ((hF18181.1 176 3 (by decide)).trans (hF18172.1 176 3 (by decide))))) (((hF18557.1 176 4 (by decide)).trans ((hF18181.1 176 4 (by decide)).trans (hF18172.1 176 4 (by decide))))) (((hF18557.1 176 5 (by decide)).trans ((hF18181.1 176 5 (by decide)).trans (hF18172.1 176 5 (by decide)))))), ((PRG0.tr (q17595) (PRG0.fail 1 (rX.c (b := 4) (((hF18557.1 176 4 (by decide)).trans ((hF18181.1 176 4 (by decide)).trans (hF18172.1 176 4 (by decide)))))) (fun _ => by omega) (fun _ => by omega) (by omega)))).le (by omega), PLO.deep q17594 (TKX.someC q17593 ((hF17583.2.1 175 (by decide))) ((hF17583.1 174 1 (by decide)))).choose_spec (by omega) (by omega) (fun _ => by omega) (fun _ => by omega) (by omega)⟩⟩
            · have c18544_ : v18542.toInt = (-1) := en_i_ne_f c18544
              refine At.enter rfl ?_
              refine r_aload_n e17587 ?_
              refine r_iconst 0 rfl ?_
              refine r_iload_n e17588 ?_
              refine r_iconst 1 rfl ?_
              refine q_iadd (a1.toInt + 1) rfl (by omega) (fun v18570 hv18570 => ?_)
              have zv18571 : (0 : Int32).toInt = 0 := rfl
              refine r_callV 70 rfl [.ref 176, .int 0, .int v18570] [] (Nat.le_of_ble_eq_true rfl) rfl (IHJ _ (by omega) hI18180 0 (by decide) v18570 (by omega) (by omega) (TKX.c q17593 (((hF18181.2.1 175 (by decide)).trans (hF18172.2.1 175 (by decide)))) (((hF18181.1 174 1 (by decide)).trans (hF18172.1 174 1 (by decide)))) (((hF18181.1 176 3 (by decide)).trans (hF18172.1 176 3 (by decide)))) (((hF18181.1 176 4 (by decide)).trans (hF18172.1 176 4 (by decide)))) (((hF18181.1 176 5 (by decide)).trans (hF18172.1 176 5 (by decide)))))) ?_
              rintro _ _ ⟨g18572, rfl, hI18573, hF18574, rfl, hr18576⟩
              refine At.stn ?_
              have hF18577 := Fr.tr hF18184 hF18574 rfl rfl
              have zv18578 : (0 : Int32).toInt = 0 := rfl
              have x18583 := rX.e hI18180 (b := 2) ((((hF18181.1 176 2 (by decide)).trans (hF18172.1 176 2 (by decide))).trans hv18542))
              have x18584 := rX.e hI18180 (b := 4) ((((hF18181.1 176 4 (by decide)).trans (hF18172.1 176 4 (by decide))).trans hv17602))
              obtain ⟨o18579, o18580, o18581, o18582⟩ := hr18576
              have o18585 := OPD.tc o18581 (((hF18181.2.1 175 (by decide)).trans ((hF18172.2.1 175 (by decide)).trans (hF17583.2.1 175 (by decide))))) (((hF18181.1 174 1 (by decide)).trans ((hF18172.1 174 1 (by decide)).trans (hF17583.1 174 1 (by decide)))))
              rw [rX.c (b := 2) (((hF18181.1 176 2 (by decide)).trans (hF18172.1 176 2 (by decide)))), rX.c (b := 4) (((hF18181.1 176 4 (by decide)).trans (hF18172.1 176 4 (by decide))))] at o18580
              have o18586 := OPD.fr o18585 (rX.c (b := 2) (((hF18181.1 176 2 (by decide)).trans (hF18172.1 176 2 (by decide))))) (rX.c (b := 4) (((hF18181.1 176 4 (by decide)).trans (hF18172.1 176 4 (by decide))))) (rX.c (b := 6) (((hF18181.1 176 6 (by decide)).trans (hF18172.1 176 6 (by decide)))))
              obtain ⟨v18587, hv18587⟩ : ∃ v, gI g18572 176 2 = v := ⟨_, rfl⟩
              have tv18587 := congrArg Int32.toInt hv18587
              have x18588 := rX.e hI18573 (b := 2) (hv18587)
              obtain ⟨v18589, hv18589⟩ : ∃ v, gI g18572 176 4 = v := ⟨_, rfl⟩
              have rv18589 := RgF.at hI18573.2.1 (p := 176) (b := 4) rfl
              rw [hv18589] at rv18589
              dsimp only at rv18589
              have tv18589 := congrArg Int32.toInt hv18589
              have x18590 := rX.e hI18573 (b := 4) (hv18589)
              refine At.enter rfl ?_
              refine r_aload_n e17587 ?_
              refine r_bipush 41 rfl ?_
              refine q_inlV 76 rfl [.ref 176, .int 41] [] (Nat.le_of_ble_eq_true rfl) rfl ?_
              refine Ev.mk rfl rfl ⟨Nat.le_of_ble_eq_true rfl, Or.inr (q_rc hI18573.1 kx_176 rfl)⟩ ?_
              show At _ none _ _ (0, [(0, .ref 176), (1, .int 41)], [], (_, _)) _
              refine At.enter rfl ?_
              refine r_aload_n rfl ?_
              refine r_iload_n rfl ?_
              refine r_callV 5 rfl [.ref 176, .int 41] [] (Nat.le_of_ble_eq_true rfl) rfl (zT_X5_isSingle_176 _ hI18573 41 (by decide)) ?_
              rintro _ _ ⟨g18591, rfl, hI18592, hF18593, v18594, rfl, hr18595⟩
              refine At.sti ?_
              have hF18596 := Fr.tr hF18577 hF18593 rfl rfl
              have zv18597 : (41 : Int32).toInt = 41 := rfl
              have hb18598 : BL (CDX g18572 = 9) v18594.toInt := ISX.code (c := 9) hr18595.2 o18579 (isSC_d (by omega)) (by decide)
              refine At.enter rfl ?_
              refine r_ifs 8 rfl (fun c18599 => ?_) (fun c18599 => ?_)
              · have c18599_ : v18594.toInt = 0 := en_k_eq_t c18599
                have i18600 := BL.no hb18598 (by omega)
                refine At.enter rfl ?_
                refine r_aload_n rfl ?_
                refine q_inlV 19 rfl [.ref 176] [] (Nat.le_of_ble_eq_true rfl) rfl ?_
                refine Ev.mk rfl rfl ⟨Nat.le_of_ble_eq_true rfl, Or.inr (q_rc hI18592.1 kx_176 rfl)⟩ ?_
                show At _ none _ _ (0, [(0, .ref 176)], [], (_, _)) _
                refine At.enter rfl ?_
                refine r_aload_n rfl ?_
                refine q_getI (Sh.int hI18592.1 kx_176 rfl) v18587 ((hF18593.1 176 2 (by decide)).trans hv18587) ?_
                refine r_iconst (-1) rfl ?_
                refine r_ics 8 rfl (fun c18601 => ?_) (fun c18601 => ?_)
                · have c18601_ : v18587.toInt ≠ (-1) := en_i_ne_t c18601
                  refine At.enter rfl ?_
                  refine q_vret ?_
                  refine At.enter rfl ?_
                  refine q_vret ?_
                  refine At.enter rfl ?_
                  refine r_goto ?_
                  refine At.enter rfl ?_
                  refine r_iload_n e17589 ?_
                  refine r_ifs 124 rfl (fun c18602 => ?_) (fun c18602 => ?_)
                  · have c18602_ : x17579.toInt = 0 := en_k_eq_t c18602
                    refine At.enter rfl ?_
                    refine r_vret ?_
                    have x18603 := rX.e hI18592 (b := 2) (((hF18593.1 176 2 (by decide)).trans hv18587))
                    have x18604 := rX.e hI18592 (b := 4) (((hF18593.1 176 4 (by decide)).trans hv18589))
                    obtain ⟨v18605, hv18605⟩ : ∃ v, gI g18572 176 6 = v := ⟨_, rfl⟩
                    have tv18605 := congrArg Int32.toInt hv18605
                    have x18606 := rX.e hI18592 (b := 6) (((hF18593.1 176 6 (by decide)).trans hv18605))
                    obtain ⟨v18607, hv18607⟩ : ∃ v, gI g0 176 2 = v := ⟨_, rfl⟩
                    have tv18607 := congrArg Int32.toInt hv18607
                    have x18608 := rX.e hI0 (b := 2) (hv18607)
                    have x18609 := rX.e hI0 (b := 4) (hv17599)
                    have x18610 := rX.e hI17582 (b := 2) (hv18542)
                    have x18611 := rX.e hI17582 (b := 4) (hv17602)
                    have x18612 := rX.e hI18573 (b := 2) (hv18587)
                    have x18613 := rX.e hI18573 (b := 4) (hv18589)
                    have x18614 := rX.e hI18573 (b := 6) (hv18605)
                    exact ⟨_, rfl, hI18592, hF18596, rfl, (False.elim (by omega))⟩
                  · have c18602_ : x17579.toInt ≠ 0 := en_k_eq_f c18602
                    refine At.enter rfl ?_
                    refine r_aload_n e17587 ?_
                    refine q_getR (Sh.ref hI18592.1 kx_176 rfl) ?_
                    refine r_bipush 9 rfl ?_
                    refine r_iconst 0 rfl ?_
                    refine r_callV 134 rfl [.ref 177, .int 9, .int 0] [] (Nat.le_of_ble_eq_true rfl) rfl (zT_X4_add_177 _ hI18592 9 0) ?_
                    rintro _ _ ⟨g18615, rfl, hI18616, hF18617, v18618, rfl, hr18619⟩
                    refine At.sti ?_
                    have hF18620 := Fr.tr hF18596 hF18617 rfl rfl
                    refine At.enter rfl ?_
                    refine r_pop rfl ?_
                    refine Ar.fall 135 rfl ?_
                    refine At.enter rfl ?_
                    refine r_vret ?_
                    have x18621 := rX.e hI18616 (b := 2) ((((hF18617.1 176 2 (by decide)).trans (hF18593.1 176 2 (by decide))).trans hv18587))
                    have x18622 := rX.e hI18616 (b := 4) ((((hF18617.1 176 4 (by decide)).trans (hF18593.1 176 4 (by decide))).trans hv18589))
                    obtain ⟨v18623, hv18623⟩ : ∃ v, gI g18572 176 6 = v := ⟨_, rfl⟩
                    have tv18623 := congrArg Int32.toInt hv18623
                    have x18624 := rX.e hI18616 (b := 6) ((((hF18617.1 176 6 (by decide)).trans (hF18593.1 176 6 (by decide))).trans hv18623))
                    obtain ⟨v18625, hv18625⟩ : ∃ v, gI g0 176 2 = v := ⟨_, rfl⟩
                    have tv18625 := congrArg Int32.toInt hv18625
                    have x18626 := rX.e hI0 (b := 2) (hv18625)
                    have x18627 := rX.e hI0 (b := 4) (hv17599)
                    have x18628 := rX.e hI17582 (b := 2) (hv18542)
                    have x18629 := rX.e hI17582 (b := 4) (hv17602)
                    have x18630 := rX.e hI18573 (b := 2) (hv18587)
                    have x18631 := rX.e hI18573 (b := 4) (hv18589)
                    have x18632 := rX.e hI18573 (b := 6) (hv18623)
                    exact ⟨_, rfl, hI18616, hF18620, rfl, (False.elim (by omega))⟩
                · have c18601_ : v18587.toInt = (-1) := en_i_ne_f c18601
                  refine At.enter rfl ?_
                  refine r_aload_n rfl ?_
                  refine r_aload_n rfl ?_
                  refine q_getI (Sh.int hI18592.1 kx_176 rfl) v18589 ((hF18593.1 176 4 (by decide)).trans hv18589) ?_
                  refine q_putI (Sh.int hI18592.1 kx_176 rfl) rfl ?_
                  have hI18633 := HI.wI0 hI18592 kx_176 rfl (p := 176) (b := 2) (v := v18589) rfl
                  have hF18634 := Fr.wI (p := 176) (b := 2) (v := v18589) hF18596 rfl
                  refine Ar.fall 16 rfl ?_
                  refine At.enter rfl ?_
                  refine q_vret ?_
                  refine At.enter rfl ?_
                  refine q_vret ?_
                  refine At.enter rfl ?_
                  refine r_goto ?_
                  refine At.enter rfl ?_
                  refine r_iload_n e17589 ?_
                  refine r_ifs 124 rfl (fun c18635 => ?_) (fun c18635 => ?_)
                  · have c18635_ : x17579.toInt = 0 := en_k_eq_t c18635
                    refine At.enter rfl ?_
                    refine r_vret ?_
                    have x18636 := rX.e hI18633 (b := 2) ((gI_sI_eq hI18592.1 kx_176 rfl _))
                    have x18637 := rX.e hI18633 (b := 4) ((((gI_sI_ne (by decide)).trans (hF18593.1 176 4 (by decide))).trans hv18589))
                    obtain ⟨v18638, hv18638⟩ : ∃ v, gI g18572 176 6 = v := ⟨_, rfl⟩
                    have tv18638 := congrArg Int32.toInt hv18638
                    have x18639 := rX.e hI18633 (b := 6) ((((gI_sI_ne (by decide)).trans (hF18593.1 176 6 (by decide))).trans hv18638))
                    obtain ⟨v18640, hv18640⟩ : ∃ v, gI g0 176 2 = v := ⟨_, rfl⟩
                    have tv18640 := congrArg Int32.toInt hv18640
                    have x18641 := rX.e hI0 (b := 2) (hv18640)
                    have x18642 := rX.e hI0 (b := 4) (hv17599)
                    have x18643 := rX.e hI17582 (b := 2) (hv18542)
                    have x18644 := rX.e hI17582 (b := 4) (hv17602)
                    have x18645 := rX.e hI18573 (b := 2) (hv18587)
                    have x18646 := rX.e hI18573 (b := 4) (hv18589)
                    have x18647 := rX.e hI18573 (b := 6) (hv18638)
                    exact ⟨_, rfl, hI18633, hF18634, rfl, (False.elim (by omega))⟩
                  · have c18635_ : x17579.toInt ≠ 0 := en_k_eq_f c18635
                    refine At.enter rfl ?_
                    refine r_aload_n e17587 ?_
                    refine q_getR (Sh.ref hI18633.1 kx_176 rfl) ?_
                    refine r_bipush 9 rfl ?_
                    refine r_iconst 0 rfl ?_
                    refine r_callV 134 rfl [.ref 177, .int 9, .int 0] [] (Nat.le_of_ble_eq_true rfl) rfl (zT_X4_add_177 _ hI18633 9 0) ?_
                    rintro _ _ ⟨g18648, rfl, hI18649, hF18650, v18651, rfl, hr18652⟩
                    refine At.sti ?_
                    have hF18653 := Fr.tr hF18634 hF18650 rfl rfl
                    refine At.enter rfl ?_
                    refine r_pop rfl ?_
                    refine Ar.fall 135 rfl ?_
                    refine At.enter rfl ?_
                    refine r_vret ?_
                    have x18654 := rX.e hI18649 (b := 2) (((hF18650.1 176 2 (by decide)).trans (gI_sI_eq hI18592.1 kx_176 rfl _)))
                    have x18655 := rX.e hI18649 (b := 4) ((((hF18650.1 176 4 (by decide)).trans ((gI_sI_ne (by decide)).trans (hF18593.1 176 4 (by decide)))).trans hv18589))
                    obtain ⟨v18656, hv18656⟩ : ∃ v, gI g18572 176 6 = v := ⟨_, rfl⟩
                    have tv18656 := congrArg Int32.toInt hv18656
                    have x18657 := rX.e hI18649 (b := 6) ((((hF18650.1 176 6 (by decide)).trans ((gI_sI_ne (by decide)).trans (hF18593.1 176 6 (by decide)))).trans hv18656))
                    obtain ⟨v18658, hv18658⟩ : ∃ v, gI g0 176 2 = v := ⟨_, rfl⟩
                    have tv18658 := congrArg Int32.toInt hv18658
                    have x18659 := rX.e hI0 (b := 2) (hv18658)
                    have x18660 := rX.e hI0 (b := 4) (hv17599)
                    have x18661 := rX.e hI17582 (b := 2) (hv18542)
                    have x18662 := rX.e hI17582 (b := 4) (hv17602)
                    have x18663 := rX.e hI18573 (b := 2) (hv18587)
                    have x18664 := rX.e hI18573 (b := 4) (hv18589)
                    have x18665 := rX.e hI18573 (b := 6) (hv18656)
                    exact ⟨_, rfl, hI18649, hF18653, rfl, (False.elim (by omega))⟩
              · have c18599_ : v18594.toInt ≠ 0 := en_k_eq_f c18599
                have i18666 := BL.yes hb18598 (by omega)
                refine At.enter rfl ?_
                refine r_aload_n rfl ?_
                refine r_callV 12 rfl [.ref 176] [] (Nat.le_of_ble_eq_true rfl) rfl (zT_X5_step_176 _ hI18592 (TKX.c o18579 ((hF18593.2.1 175 (by decide))) ((hF18593.1 174 1 (by decide))) ((hF18593.1 176 3 (by decide))) ((hF18593.1 176 4 (by decide))) ((hF18593.1 176 5 (by decide)))).1 (TKX.c o18579 ((hF18593.2.1 175 (by decide))) ((hF18593.1 174 1 (by decide))) ((hF18593.1 176 3 (by decide))) ((hF18593.1 176 4 (by decide))) ((hF18593.1 176 5 (by decide)))).2.1.le.2.1) ?_
                rintro _ _ ⟨g18667, rfl, hI18668, hF18669, rfl, hr18671⟩
                refine At.stn ?_
                have hF18672 := Fr.tr hF18596 hF18669 rfl rfl
                have tok18673_ := hr18671.2
                rw [TX.c ((hF18593.2.1 175 (by decide))), nX.c ((hF18593.1 174 1 (by decide))), rX.c (b := 5) ((hF18593.1 176 5 (by decide)))] at tok18673_
                have tok18673 := TKX.tok o18579 tok18673_
                rw [TX.c (((hF18574.2.1 175 (by decide)).trans ((hF18181.2.1 175 (by decide)).trans ((hF18172.2.1 175 (by decide)).trans (hF17583.2.1 175 (by decide)))))), nX.c (((hF18574.1 174 1 (by decide)).trans ((hF18181.1 174 1 (by decide)).trans ((hF18172.1 174 1 (by decide)).trans (hF17583.1 174 1 (by decide))))))] at tok18673
                have hT18674 := hr18671.1
                have x18675 := rX.e hI18592 (b := 4) (((hF18593.1 176 4 (by decide)).trans hv18589))
                obtain ⟨v18676, hv18676⟩ : ∃ v, gI g18667 176 4 = v := ⟨_, rfl⟩
                have rv18676 := RgF.at hI18668.2.1 (p := 176) (b := 4) rfl
                rw [hv18676] at rv18676
                dsimp only at rv18676
                have tv18676 := congrArg Int32.toInt hv18676
                have x18677 := rX.e hI18668 (b := 4) (hv18676)
                refine At.enter rfl ?_
                refine r_goto ?_
                refine At.enter rfl ?_
                refine q_vret ?_
                refine At.enter rfl ?_
                refine r_goto ?_
                refine At.enter rfl ?_
                refine r_iload_n e17589 ?_
                refine r_ifs 124 rfl (fun c18678 => ?_) (fun c18678 => ?_)
                · have c18678_ : x17579.toInt = 0 := en_k_eq_t c18678
                  refine At.enter rfl ?_
                  refine r_vret ?_
                  have x18679 := rX.e hI18668 (b := 2) ((((hF18669.1 176 2 (by decide)).trans (hF18593.1 176 2 (by decide))).trans hv18587))
                  have x18680 := rX.e hI18668 (b := 4) (hv18676)
                  obtain ⟨v18681, hv18681⟩ : ∃ v, gI g18572 176 6 = v := ⟨_, rfl⟩
                  have tv18681 := congrArg Int32.toInt hv18681
                  have x18682 := rX.e hI18668 (b := 6) ((((hF18669.1 176 6 (by decide)).trans (hF18593.1 176 6 (by decide))).trans hv18681))
                  obtain ⟨v18683, hv18683⟩ : ∃ v, gI g0 176 2 = v := ⟨_, rfl⟩
                  have tv18683 := congrArg Int32.toInt hv18683
                  have x18684 := rX.e hI0 (b := 2) (hv18683)
                  have x18685 := rX.e hI0 (b := 4) (hv17599)
                  have x18686 := rX.e hI17582 (b := 2) (hv18542)
                  have x18687 := rX.e hI17582 (b := 4) (hv17602)
                  have x18688 := rX.e hI18573 (b := 2) (hv18587)
                  have x18689 := rX.e hI18573 (b := 4) (hv18589)
                  have x18690 := rX.e hI18573 (b := 6) (hv18681)
                  have x18691 := rX.e hI18668 (b := 2) ((((hF18669.1 176 2 (by decide)).trans (hF18593.1 176 2 (by decide))).trans hv18587))
                  have x18692 := rX.e hI18668 (b := 4) (hv18676)
                  have x18693 := rX.e hI18668 (b := 6) ((((hF18669.1 176 6 (by decide)).trans (hF18593.1 176 6 (by decide))).trans hv18681))
                  exact ⟨_, rfl, hI18668, hF18672, rfl, (False.elim (by omega))⟩
                · have c18678_ : x17579.toInt ≠ 0 := en_k_eq_f c18678
                  refine At.enter rfl ?_
                  refine r_aload_n e17587 ?_
                  refine q_getR (Sh.ref hI18668.1 kx_176 rfl) ?_
                  refine r_bipush 9 rfl ?_
                  refine r_iconst 0 rfl ?_
                  refine r_callV 134 rfl [.ref 177, .int 9, .int 0] [] (Nat.le_of_ble_eq_true rfl) rfl (zT_X4_add_177 _ hI18668 9 0) ?_
                  rintro _ _ ⟨g18694, rfl, hI18695, hF18696, v18697, rfl, hr18698⟩
                  refine At.sti ?_
                  have hF18699 := Fr.tr hF18672 hF18696 rfl rfl
                  refine At.enter rfl ?_
                  refine r_pop rfl ?_
                  refine Ar.fall 135 rfl ?_
                  refine At.enter rfl ?_
                  refine r_vret ?_
                  have x18700 := rX.e hI18695 (b := 2) ((((hF18696.1 176 2 (by decide)).trans ((hF18669.1 176 2 (by decide)).trans (hF18593.1 176 2 (by decide)))).trans hv18587))
                  have x18701 := rX.e hI18695 (b := 4) (((hF18696.1 176 4 (by decide)).trans hv18676))
                  obtain ⟨v18702, hv18702⟩ : ∃ v, gI g18572 176 6 = v := ⟨_, rfl⟩
                  have tv18702 := congrArg Int32.toInt hv18702
                  have x18703 := rX.e hI18695 (b := 6) ((((hF18696.1 176 6 (by decide)).trans ((hF18669.1 176 6 (by decide)).trans (hF18593.1 176 6 (by decide)))).trans hv18702))
                  obtain ⟨v18704, hv18704⟩ : ∃ v, gI g0 176 2 = v := ⟨_, rfl⟩
                  have tv18704 := congrArg Int32.toInt hv18704
                  have x18705 := rX.e hI0 (b := 2) (hv18704)
                  have x18706 := rX.e hI0 (b := 4) (hv17599)
                  have x18707 := rX.e hI17582 (b := 2) (hv18542)
                  have x18708 := rX.e hI17582 (b := 4) (hv17602)
                  have x18709 := rX.e hI18573 (b := 2) (hv18587)
                  have x18710 := rX.e hI18573 (b := 4) (hv18589)
                  have x18711 := rX.e hI18573 (b := 6) (hv18702)
                  have x18712 := rX.e hI18668 (b := 2) ((((hF18669.1 176 2 (by decide)).trans (hF18593.1 176 2 (by decide))).trans hv18587))
                  have x18713 := rX.e hI18668 (b := 4) (hv18676)
                  have x18714 := rX.e hI18668 (b := 6) ((((hF18669.1 176 6 (by decide)).trans (hF18593.1 176 6 (by decide))).trans hv18702))
                  exact ⟨_, rfl, hI18695, hF18699, rfl, (False.elim (by omega))⟩
          · have c18543_ : v18542.toInt = (-1) := en_i_ne_f c18543
            refine At.enter rfl ?_
            refine r_aload_n rfl ?_
            refine r_aload_n rfl ?_
            refine q_getI (Sh.int hI18180.1 kx_176 rfl) v17602 (((hF18181.1 176 4 (by decide)).trans (hF18172.1 176 4 (by decide))).trans hv17602) ?_
            refine q_putI (Sh.int hI18180.1 kx_176 rfl) rfl ?_
            have hI18715 := HI.wI0 hI18180 kx_176 rfl (p := 176) (b := 2) (v := v17602) rfl
            have hF18716 := Fr.wI (p := 176) (b := 2) (v := v17602) hF18184 rfl
            refine Ar.fall 16 rfl ?_
            refine At.enter rfl ?_
            refine q_vret ?_
            refine At.enter rfl ?_
            refine r_goto ?_
            refine At.enter rfl ?_
            refine q_vret ?_
            refine At.enter rfl ?_
            refine r_aload_n e17587 ?_
            refine q_getI (Sh.int hI18715.1 kx_176 rfl) v17602 (gI_sI_eq hI18180.1 kx_176 rfl _) ?_
            refine r_iconst (-1) rfl ?_
            refine r_ics 62 rfl (fun c18717 => ?_) (fun c18717 => ?_)
            · have c18717_ : v17602.toInt ≠ (-1) := en_i_ne_t c18717
              refine At.enter rfl ?_
              refine r_iload_n e17589 ?_
              refine r_ifs 124 rfl (fun c18718 => ?_) (fun c18718 => ?_)
              · have c18718_ : x17579.toInt = 0 := en_k_eq_t c18718
                refine At.enter rfl ?_
                refine r_vret ?_
                have x18719 := rX.e hI18715 (b := 2) ((gI_sI_eq hI18180.1 kx_176 rfl _))
                have x18720 := rX.e hI18715 (b := 4) ((((gI_sI_ne (by decide)).trans ((hF18181.1 176 4 (by decide)).trans (hF18172.1 176 4 (by decide)))).trans hv17602))
                obtain ⟨v18721, hv18721⟩ : ∃ v, gI g17581 176 6 = v := ⟨_, rfl⟩
                have tv18721 := congrArg Int32.toInt hv18721
                have x18722 := rX.e hI18715 (b := 6) ((((gI_sI_ne (by decide)).trans ((hF18181.1 176 6 (by decide)).trans (hF18172.1 176 6 (by decide)))).trans hv18721))
                obtain ⟨v18723, hv18723⟩ : ∃ v, gI g0 176 2 = v := ⟨_, rfl⟩
                have tv18723 := congrArg Int32.toInt hv18723
                have x18724 := rX.e hI0 (b := 2) (hv18723)
                have x18725 := rX.e hI0 (b := 4) (hv17599)
                have x18726 := rX.e hI17582 (b := 2) (hv18542)
                have x18727 := rX.e hI17582 (b := 4) (hv17602)
                exact ⟨_, rfl, hI18715, hF18716, rfl, ⟨(TKX.c q17593 (((gA_sI).trans ((hF18181.2.1 175 (by decide)).trans (hF18172.2.1 175 (by decide))))) (((gI_sI_ne (by decide)).trans ((hF18181.1 174 1 (by decide)).trans (hF18172.1 174 1 (by decide))))) (((gI_sI_ne (by decide)).trans ((hF18181.1 176 3 (by decide)).trans (hF18172.1 176 3 (by decide))))) (((gI_sI_ne (by decide)).trans ((hF18181.1 176 4 (by decide)).trans (hF18172.1 176 4 (by decide))))) (((gI_sI_ne (by decide)).trans ((hF18181.1 176 5 (by decide)).trans (hF18172.1 176 5 (by decide)))))), ((PRG0.tr (q17595) (PRG0.fail 1 (rX.c (b := 4) (((gI_sI_ne (by decide)).trans ((hF18181.1 176 4 (by decide)).trans (hF18172.1 176 4 (by decide)))))) (fun _ => by omega) (fun _ => by omega) (by omega)))).le (by omega), PLO.deep q17594 (TKX.someC q17593 ((hF17583.2.1 175 (by decide))) ((hF17583.1 174 1 (by decide)))).choose_spec (by omega) (by omega) (fun _ => by omega) (fun _ => by omega) (by omega)⟩⟩
              · have c18718_ : x17579.toInt ≠ 0 := en_k_eq_f c18718
                refine At.enter rfl ?_
                refine r_aload_n e17587 ?_
                refine q_getR (Sh.ref hI18715.1 kx_176 rfl) ?_
                refine r_bipush 9 rfl ?_
                refine r_iconst 0 rfl ?_
                refine r_callV 134 rfl [.ref 177, .int 9, .int 0] [] (Nat.le_of_ble_eq_true rfl) rfl (zT_X4_add_177 _ hI18715 9 0) ?_
                rintro _ _ ⟨g18728, rfl, hI18729, hF18730, v18731, rfl, hr18732⟩
                refine At.sti ?_
                have hF18733 := Fr.tr hF18716 hF18730 rfl rfl
                refine At.enter rfl ?_
                refine r_pop rfl ?_
                refine Ar.fall 135 rfl ?_
                refine At.enter rfl ?_
                refine r_vret ?_
                have x18734 := rX.e hI18729 (b := 2) (((hF18730.1 176 2 (by decide)).trans (gI_sI_eq hI18180.1 kx_176 rfl _)))
                have x18735 := rX.e hI18729 (b := 4) ((((hF18730.1 176 4 (by decide)).trans ((gI_sI_ne (by decide)).trans ((hF18181.1 176 4 (by decide)).trans (hF18172.1 176 4 (by decide))))).trans hv17602))
                obtain ⟨v18736, hv18736⟩ : ∃ v, gI g17581 176 6 = v := ⟨_, rfl⟩
                have tv18736 := congrArg Int32.toInt hv18736
                have x18737 := rX.e hI18729 (b := 6) ((((hF18730.1 176 6 (by decide)).trans ((gI_sI_ne (by decide)).trans ((hF18181.1 176 6 (by decide)).trans (hF18172.1 176 6 (by decide))))).trans hv18736))
                obtain ⟨v18738, hv18738⟩ : ∃ v, gI g0 176 2 = v := ⟨_, rfl⟩
                have tv18738 := congrArg Int32.toInt hv18738
                have x18739 := rX.e hI0 (b := 2) (hv18738)
                have x18740 := rX.e hI0 (b := 4) (hv17599)
                have x18741 := rX.e hI17582 (b := 2) (hv18542)
                have x18742 := rX.e hI17582 (b := 4) (hv17602)
                exact ⟨_, rfl, hI18729, hF18733, rfl, ⟨(TKX.c q17593 (((hF18730.2.1 175 (by decide)).trans ((gA_sI).trans ((hF18181.2.1 175 (by decide)).trans (hF18172.2.1 175 (by decide)))))) (((hF18730.1 174 1 (by decide)).trans ((gI_sI_ne (by decide)).trans ((hF18181.1 174 1 (by decide)).trans (hF18172.1 174 1 (by decide)))))) (((hF18730.1 176 3 (by decide)).trans ((gI_sI_ne (by decide)).trans ((hF18181.1 176 3 (by decide)).trans (hF18172.1 176 3 (by decide)))))) (((hF18730.1 176 4 (by decide)).trans ((gI_sI_ne (by decide)).trans ((hF18181.1 176 4 (by decide)).trans (hF18172.1 176 4 (by decide)))))) (((hF18730.1 176 5 (by decide)).trans ((gI_sI_ne (by decide)).trans ((hF18181.1 176 5 (by decide)).trans (hF18172.1 176 5 (by decide))))))), ((PRG0.tr (q17595) (PRG0.fail 1 (rX.c (b := 4) (((hF18730.1 176 4 (by decide)).trans ((gI_sI_ne (by decide)).trans ((hF18181.1 176 4 (by decide)).trans (hF18172.1 176 4 (by decide))))))) (fun _ => by omega) (fun _ => by omega) (by omega)))).le (by omega), PLO.deep q17594 (TKX.someC q17593 ((hF17583.2.1 175 (by decide))) ((hF17583.1 174 1 (by decide)))).choose_spec (by omega) (by omega) (fun _ => by omega) (fun _ => by omega) (by omega)⟩⟩
            · have c18717_ : v17602.toInt = (-1) := en_i_ne_f c18717
              exfalso; omega
    · have c18177_ : v18173.toInt ≠ 0 := en_k_eq_f c18177
      have i18743 := BL.yes hb18176 (by omega)
      refine At.enter rfl ?_
      refine r_aload_n e17587 ?_
      refine r_callV 24 rfl [.ref 176] [] (Nat.le_of_ble_eq_true rfl) rfl (zT_X5_step_176 _ hI18171 (TKX.c q17593 ((hF18172.2.1 175 (by decide))) ((hF18172.1 174 1 (by decide))) ((hF18172.1 176 3 (by decide))) ((hF18172.1 176 4 (by decide))) ((hF18172.1 176 5 (by decide)))).1 (TKX.c q17593 ((hF18172.2.1 175 (by decide))) ((hF18172.1 174 1 (by decide))) ((hF18172.1 176 3 (by decide))) ((hF18172.1 176 4 (by decide))) ((hF18172.1 176 5 (by decide)))).2.1.le.2.1) ?_
      rintro _ _ ⟨g18744, rfl, hI18745, hF18746, rfl, hr18748⟩
      refine At.stn ?_
      have hF18749 := Fr.tr hF18175 hF18746 rfl rfl
      have tok18750_ := hr18748.2
      rw [TX.c ((hF18172.2.1 175 (by decide))), nX.c ((hF18172.1 174 1 (by decide))), rX.c (b := 5) ((hF18172.1 176 5 (by decide)))] at tok18750_
      have tok18750 := TKX.tok q17593 tok18750_
      rw [TX.c ((hF17583.2.1 175 (by decide))), nX.c ((hF17583.1 174 1 (by decide)))] at tok18750
      have hT18751 := hr18748.1
      have x18752 := rX.e hI18171 (b := 4) (((hF18172.1 176 4 (by decide)).trans hv17602))
      obtain ⟨v18753, hv18753⟩ : ∃ v, gI g18744 176 4 = v := ⟨_, rfl⟩
      have rv18753 := RgF.at hI18745.2.1 (p := 176) (b := 4) rfl
      rw [hv18753] at rv18753
      dsimp only at rv18753
      have tv18753 := congrArg Int32.toInt hv18753
      have x18754 := rX.e hI18745 (b := 4) (hv18753)
      refine At.enter rfl ?_
      refine r_iload_n e17589 ?_
      refine r_ifs 28 rfl (fun c18755 => ?_) (fun c18755 => ?_)
      · have c18755_ : x17579.toInt ≠ 0 := en_k_ne_t c18755
        refine At.enter rfl ?_
        refine r_iconst 0 rfl ?_
        refine Ar.fall 33 rfl ?_
        refine At.enter rfl ?_
        refine r_istore_n _ rfl ?_
        refine q_iinc (w_p1 (by decide) (Or.inr rfl) e17590) (x17580.toInt + 1) rfl (by omega) (fun v18756 hv18756 => ?_)
        refine r_goto ?_
        have y18757 := q17593.2.1.le
        have y18758 := tok18750_.1
        have y18759 : ksX (rX g17581 3) ≠ 0 := fun hz => absurd ((CDE.e (TKX.num q17593)).mp hz) (show CDX g17581 ≠ 0 from by omega)
        have x18760 := rX.e hI18745 (b := 4) (hv18753)
        have x18761 := rX.e hI17582 (b := 4) (hv17602)
        exact ih17586 (400 - v18756.toInt) _ _ ⟨0, v18756, by first | rfl | omega, hI18745, hF18749, (w_p1 (by decide) (Or.inr rfl) (w_p1 (by decide) (Or.inr rfl) e17587)), (w_p1 (by decide) (Or.inr rfl) (w_p1 (by decide) (Or.inr rfl) e17588)), (w_p1 (by decide) (Or.inr rfl) (w_e1 _ _ _)), (w_e1 _ _ _), by decide, by omega, hT18751, (NLI.next q17594 tok18750 (by omega) (rX.c (b := 2) (((hF18746.1 176 2 (by decide)).trans (hF18172.1 176 2 (by decide))))) (rX.c (b := 6) (((hF18746.1 176 6 (by decide)).trans (hF18172.1 176 6 (by decide)))))), ((PRG0.tr q17595 (PRG0.step q17593 tok18750_ (rX.c (b := 2) (((hF18746.1 176 2 (by decide)).trans (hF18172.1 176 2 (by decide))))) (by omega))).le (by omega)), by omega⟩ ⟨by omega, by omega⟩
      · have c18755_ : x17579.toInt = 0 := en_k_ne_f c18755
        refine At.enter rfl ?_
        refine r_iconst 1 rfl ?_
        refine r_goto ?_
        refine At.enter rfl ?_
        refine r_istore_n _ rfl ?_
        refine q_iinc (w_p1 (by decide) (Or.inr rfl) e17590) (x17580.toInt + 1) rfl (by omega) (fun v18762 hv18762 => ?_)
        refine r_goto ?_
        have y18763 := q17593.2.1.le
        have y18764 := tok18750_.1
        have y18765 : ksX (rX g17581 3) ≠ 0 := fun hz => absurd ((CDE.e (TKX.num q17593)).mp hz) (show CDX g17581 ≠ 0 from by omega)
        have x18766 := rX.e hI18745 (b := 4) (hv18753)
        have x18767 := rX.e hI17582 (b := 4) (hv17602)
        exact ih17586 (400 - v18762.toInt) _ _ ⟨1, v18762, by first | rfl | omega, hI18745, hF18749, (w_p1 (by decide) (Or.inr rfl) (w_p1 (by decide) (Or.inr rfl) e17587)), (w_p1 (by decide) (Or.inr rfl) (w_p1 (by decide) (Or.inr rfl) e17588)), (w_p1 (by decide) (Or.inr rfl) (w_e1 _ _ _)), (w_e1 _ _ _), by decide, by omega, hT18751, (NLI.next q17594 tok18750 (by omega) (rX.c (b := 2) (((hF18746.1 176 2 (by decide)).trans (hF18172.1 176 2 (by decide))))) (rX.c (b := 6) (((hF18746.1 176 6 (by decide)).trans (hF18172.1 176 6 (by decide)))))), ((PRG0.tr q17595 (PRG0.step q17593 tok18750_ (rX.c (b := 2) (((hF18746.1 176 2 (by decide)).trans (hF18172.1 176 2 (by decide))))) (by omega))).le (by omega)), by omega⟩ ⟨by omega, by omega⟩

set_option maxRecDepth 100000 in
set_option maxHeartbeats 4000000 in
theorem zS_X5_readPart_176 (n : Nat) (IHJ : zQJ n) (IHP : zQP n) (IHT : zQT n) : zQT (n + 1) := by
  intro e he N g0 hI0 a1 h_a1 hm hT
  obtain ⟨d, rfl⟩ : ∃ d, e = d + 4 := ⟨e - 4, by omega⟩
  have hF0 : Fr F_rd A_rd g0 g0 := Fr.rf
  refine Ev.mk rfl rfl ⟨Nat.le_of_ble_eq_true rfl, Or.inr (q_rc hI0.1 kx_176 rfl)⟩ ?_
  show At _ none _ _ (0, [(0, .ref 176), (1, .int a1)], [], (_, _)) _
  refine At.enter rfl ?_
  refine r_aload_n rfl ?_
  refine r_bipush 91 rfl ?_
  refine r_callV 6 rfl [.ref 176, .int 91] [] (Nat.le_of_ble_eq_true rfl) rfl (zT_X5_isSingle_176 _ hI0 91 (by decide)) ?_
  rintro _ _ ⟨g537, rfl, hI538, hF539, v540, rfl, hr541⟩
  refine At.sti ?_
  have hF542 := Fr.tr hF0 hF539 rfl rfl
  have zv543 : (91 : Int32).toInt = 91 := rfl
  have hb544 : BL (CDX g0 = 3) v540.toInt := ISX.code (c := 3) hr541.2 hT (isSC_d (by omega)) (by decide)
  refine At.enter rfl ?_
  refine r_ifs 9 rfl (fun c545 => ?_) (fun c545 => ?_)
  · have c545_ : v540.toInt = 0 := en_k_eq_t c545
    have i546 := BL.no hb544 (by omega)
    refine At.enter rfl ?_
    refine r_aload_n rfl ?_
    obtain ⟨v547, hv547⟩ : ∃ v, gI g0 176 3 = v := ⟨_, rfl⟩
    refine q_getI (Sh.int hI538.1 kx_176 rfl) v547 ((hF539.1 176 3 (by decide)).trans hv547) ?_
    refine r_iconst 1 rfl ?_
    refine r_ics 45 rfl (fun c548 => ?_) (fun c548 => ?_)
    · have c548_ : v547.toInt ≠ 1 := en_i_ne_t c548
      refine At.enter rfl ?_
      refine r_iconst 1 rfl ?_
      refine Ar.fall 50 rfl ?_
      refine At.enter rfl ?_
      refine r_istore_n ([(2, .int 1), (0, .ref 176), (1, .int a1)]) rfl ?_
      refine r_aload_n rfl ?_
      refine q_getI (Sh.int hI538.1 kx_176 rfl) v547 ((hF539.1 176 3 (by decide)).trans hv547) ?_
      refine r_iconst 1 rfl ?_
      refine r_ics 59 rfl (fun c549 => ?_) (fun c549 => ?_)
      · have c549_ : v547.toInt ≠ 1 := en_i_ne_t c549
        refine At.enter rfl ?_
        refine r_aload_n rfl ?_
        refine r_callV 70 rfl [.ref 176] [] (Nat.le_of_ble_eq_true rfl) rfl (zT_X5_wordHere_176 _ hI538 (TKX.c hT ((hF539.2.1 175 (by decide))) ((hF539.1 174 1 (by decide))) ((hF539.1 176 3 (by decide))) ((hF539.1 176 4 (by decide))) ((hF539.1 176 5 (by decide))))) ?_
        rintro _ _ ⟨g550, rfl, hI551, hF552, v553, rfl, hr554⟩
        refine At.sti ?_
        have hF555 := Fr.tr hF542 hF552 rfl rfl
        have ln556 : WHX (CDX g0) v553.toInt := by have z := hr554.2; rw [CDX.c ((hF539.2.1 175 (by decide))) ((hF539.1 176 3 (by decide))) ((hF539.1 176 4 (by decide))) ((hF539.1 176 5 (by decide)))] at z; exact z
        refine At.enter rfl ?_
        refine r_istore_n ([(3, .int v553), (2, .int 1), (0, .ref 176), (1, .int a1)]) rfl ?_
        refine r_iload_n rfl ?_
        refine r_iconst (-1) rfl ?_
        refine r_ics 76 rfl (fun c557 => ?_) (fun c557 => ?_)
        · have c557_ : v553.toInt = (-1) := en_i_eq_t c557
          refine At.enter rfl ?_
          refine r_aload_n rfl ?_
          refine q_inlV 96 rfl [.ref 176] [] (Nat.le_of_ble_eq_true rfl) rfl ?_
          refine Ev.mk rfl rfl ⟨Nat.le_of_ble_eq_true rfl, Or.inr (q_rc hI551.1 kx_176 rfl)⟩ ?_
          show At _ none _ _ (0, [(0, .ref 176)], [], (_, _)) _
          refine At.enter rfl ?_
          refine r_aload_n rfl ?_
          obtain ⟨v558, hv558⟩ : ∃ v, gI g0 176 2 = v := ⟨_, rfl⟩
          refine q_getI (Sh.int hI551.1 kx_176 rfl) v558 (((hF552.1 176 2 (by decide)).trans (hF539.1 176 2 (by decide))).trans hv558) ?_
          refine r_iconst (-1) rfl ?_
          refine r_ics 8 rfl (fun c559 => ?_) (fun c559 => ?_)
          · have c559_ : v558.toInt ≠ (-1) := en_i_ne_t c559
            refine At.enter rfl ?_
            refine q_vret ?_
            refine At.enter rfl ?_
            refine r_vret ?_
            have x560 := rX.e hI551 (b := 2) ((((hF552.1 176 2 (by decide)).trans (hF539.1 176 2 (by decide))).trans hv558))
            have x561 := rX.e hI0 (b := 2) (hv558)
            obtain ⟨v562, hv562⟩ : ∃ v, gI g0 176 4 = v := ⟨_, rfl⟩
            have rv562 := RgF.at hI0.2.1 (p := 176) (b := 4) rfl
            rw [hv562] at rv562
            dsimp only at rv562
            have tv562 := congrArg Int32.toInt hv562
            have x563 := rX.e hI551 (b := 4) ((((hF552.1 176 4 (by decide)).trans (hF539.1 176 4 (by decide))).trans hv562))
            have x564 := rX.e hI0 (b := 4) (hv562)
            obtain ⟨v565, hv565⟩ : ∃ v, gI g0 176 6 = v := ⟨_, rfl⟩
            have tv565 := congrArg Int32.toInt hv565
            have x566 := rX.e hI551 (b := 6) ((((hF552.1 176 6 (by decide)).trans (hF539.1 176 6 (by decide))).trans hv565))
            have x567 := rX.e hI0 (b := 6) (hv565)
            have x568 := rX.e hI0 (b := 3) (hv547)
            have lf := ln556
            unfold WHX at lf
            have lg := CDX.lt hT (by omega)
            exact ⟨_, rfl, hI551, hF555, rfl, ⟨(TKX.c hT (((hF552.2.1 175 (by decide)).trans (hF539.2.1 175 (by decide)))) (((hF552.1 174 1 (by decide)).trans (hF539.1 174 1 (by decide)))) (((hF552.1 176 3 (by decide)).trans (hF539.1 176 3 (by decide)))) (((hF552.1 176 4 (by decide)).trans (hF539.1 176 4 (by decide)))) (((hF552.1 176 5 (by decide)).trans (hF539.1 176 5 (by decide))))), (PRG0.fail 1 (rX.c (b := 4) (((hF552.1 176 4 (by decide)).trans (hF539.1 176 4 (by decide))))) (fun _ => by omega) (fun _ => by omega) (by omega)).le (by omega), PAO.leafF (TKX.some hT).choose_spec (by omega) (by omega) (fun _ => by omega) (fun _ => by omega) (by omega)⟩⟩
          · have c559_ : v558.toInt = (-1) := en_i_ne_f c559
            refine At.enter rfl ?_
            refine r_aload_n rfl ?_
            refine r_aload_n rfl ?_
            obtain ⟨v569, hv569⟩ : ∃ v, gI g0 176 4 = v := ⟨_, rfl⟩
            have rv569 := RgF.at hI0.2.1 (p := 176) (b := 4) rfl
            rw [hv569] at rv569
            dsimp only at rv569
            refine q_getI (Sh.int hI551.1 kx_176 rfl) v569 (((hF552.1 176 4 (by decide)).trans (hF539.1 176 4 (by decide))).trans hv569) ?_
            refine q_putI (Sh.int hI551.1 kx_176 rfl) rfl ?_
            have hI570 := HI.wI0 hI551 kx_176 rfl (p := 176) (b := 2) (v := v569) rfl
            have hF571 := Fr.wI (p := 176) (b := 2) (v := v569) hF555 rfl
            refine Ar.fall 16 rfl ?_
            refine At.enter rfl ?_
            refine q_vret ?_
            refine At.enter rfl ?_
            refine r_vret ?_
            have x572 := rX.e hI570 (b := 2) ((gI_sI_eq hI551.1 kx_176 rfl _))
            have x573 := rX.e hI0 (b := 2) (hv558)
            have x574 := rX.e hI570 (b := 4) ((((gI_sI_ne (by decide)).trans ((hF552.1 176 4 (by decide)).trans (hF539.1 176 4 (by decide)))).trans hv569))
            have x575 := rX.e hI0 (b := 4) (hv569)
            obtain ⟨v576, hv576⟩ : ∃ v, gI g0 176 6 = v := ⟨_, rfl⟩
            have tv576 := congrArg Int32.toInt hv576
            have x577 := rX.e hI570 (b := 6) ((((gI_sI_ne (by decide)).trans ((hF552.1 176 6 (by decide)).trans (hF539.1 176 6 (by decide)))).trans hv576))
            have x578 := rX.e hI0 (b := 6) (hv576)
            have x579 := rX.e hI0 (b := 3) (hv547)
            have lf := ln556
            unfold WHX at lf
            have lg := CDX.lt hT (by omega)
            exact ⟨_, rfl, hI570, hF571, rfl, ⟨(TKX.c hT (((gA_sI).trans ((hF552.2.1 175 (by decide)).trans (hF539.2.1 175 (by decide))))) (((gI_sI_ne (by decide)).trans ((hF552.1 174 1 (by decide)).trans (hF539.1 174 1 (by decide))))) (((gI_sI_ne (by decide)).trans ((hF552.1 176 3 (by decide)).trans (hF539.1 176 3 (by decide))))) (((gI_sI_ne (by decide)).trans ((hF552.1 176 4 (by decide)).trans (hF539.1 176 4 (by decide))))) (((gI_sI_ne (by decide)).trans ((hF552.1 176 5 (by decide)).trans (hF539.1 176 5 (by decide)))))), (PRG0.fail 1 (rX.c (b := 4) (((gI_sI_ne (by decide)).trans ((hF552.1 176 4 (by decide)).trans (hF539.1 176 4 (by decide)))))) (fun _ => by omega) (fun _ => by omega) (by omega)).le (by omega), PAO.leafF (TKX.some hT).choose_spec (by omega) (by omega) (fun _ => by omega) (fun _ => by omega) (by omega)⟩⟩
        · have c557_ : v553.toInt ≠ (-1) := en_i_eq_f c557
          refine At.enter rfl ?_
          refine r_iload_n rfl ?_
          refine r_sipush 1000 rfl ?_
          refine r_ics 83 rfl (fun c580 => ?_) (fun c580 => ?_)
          · have c580_ : v553.toInt > 1000 := en_i_gt_t c580
            exfalso; omega
          · have c580_ : v553.toInt ≤ 1000 := en_i_gt_f c580
            refine At.enter rfl ?_
            refine r_aload_n rfl ?_
            obtain ⟨v581, hv581⟩ : ∃ v, gI g0 176 6 = v := ⟨_, rfl⟩
            refine q_getI (Sh.int hI551.1 kx_176 rfl) v581 (((hF552.1 176 6 (by decide)).trans (hF539.1 176 6 (by decide))).trans hv581) ?_
            refine r_bipush 50 rfl ?_
            refine r_ics 92 rfl (fun c582 => ?_) (fun c582 => ?_)
            · have c582_ : v581.toInt < 50 := en_i_lt_t c582
              refine At.enter rfl ?_
              refine r_aload_n rfl ?_
              refine r_dup rfl ?_
              refine q_getI (Sh.int hI551.1 kx_176 rfl) v581 (((hF552.1 176 6 (by decide)).trans (hF539.1 176 6 (by decide))).trans hv581) ?_
              refine r_iconst 1 rfl ?_
              have bv583 := q_bnd v581
              refine q_iadd (v581.toInt + 1) rfl (by omega) (fun v584 hv584 => ?_)
              refine q_putI (Sh.int hI551.1 kx_176 rfl) rfl ?_
              have hI585 := HI.wI0 hI551 kx_176 rfl (p := 176) (b := 6) (v := v584) rfl
              have hF586 := Fr.wI (p := 176) (b := 6) (v := v584) hF555 rfl
              refine r_aload_n rfl ?_
              refine q_getR (Sh.ref hI585.1 kx_176 rfl) ?_
              refine r_iload_n rfl ?_
              refine r_iload_n rfl ?_
              refine r_callV 116 rfl [.ref 177, .int 1, .int v553] [] (Nat.le_of_ble_eq_true rfl) rfl (zT_X4_add_177 _ hI585 1 v553) ?_
              rintro _ _ ⟨g587, rfl, hI588, hF589, v590, rfl, hr591⟩
              refine At.sti ?_
              have hF592 := Fr.tr hF586 hF589 rfl rfl
              refine At.enter rfl ?_
              refine r_pop rfl ?_
              refine r_aload_n rfl ?_
              refine r_callV 121 rfl [.ref 176] [] (Nat.le_of_ble_eq_true rfl) rfl (zT_X5_step_176 _ hI588 (TKX.c hT (((hF589.2.1 175 (by decide)).trans ((gA_sI).trans ((hF552.2.1 175 (by decide)).trans (hF539.2.1 175 (by decide)))))) (((hF589.1 174 1 (by decide)).trans ((gI_sI_ne (by decide)).trans ((hF552.1 174 1 (by decide)).trans (hF539.1 174 1 (by decide)))))) (((hF589.1 176 3 (by decide)).trans ((gI_sI_ne (by decide)).trans ((hF552.1 176 3 (by decide)).trans (hF539.1 176 3 (by decide)))))) (((hF589.1 176 4 (by decide)).trans ((gI_sI_ne (by decide)).trans ((hF552.1 176 4 (by decide)).trans (hF539.1 176 4 (by decide)))))) (((hF589.1 176 5 (by decide)).trans ((gI_sI_ne (by decide)).trans ((hF552.1 176 5 (by decide)).trans (hF539.1 176 5 (by decide))))))).1 (TKX.c hT (((hF589.2.1 175 (by decide)).trans ((gA_sI).trans ((hF552.2.1 175 (by decide)).trans (hF539.2.1 175 (by decide)))))) (((hF589.1 174 1 (by decide)).trans ((gI_sI_ne (by decide)).trans ((hF552.1 174 1 (by decide)).trans (hF539.1 174 1 (by decide)))))) (((hF589.1 176 3 (by decide)).trans ((gI_sI_ne (by decide)).trans ((hF552.1 176 3 (by decide)).trans (hF539.1 176 3 (by decide)))))) (((hF589.1 176 4 (by decide)).trans ((gI_sI_ne (by decide)).trans ((hF552.1 176 4 (by decide)).trans (hF539.1 176 4 (by decide)))))) (((hF589.1 176 5 (by decide)).trans ((gI_sI_ne (by decide)).trans ((hF552.1 176 5 (by decide)).trans (hF539.1 176 5 (by decide))))))).2.1.le.2.1) ?_
              rintro _ _ ⟨g593, rfl, hI594, hF595, rfl, hr597⟩
              refine At.stn ?_
              have hF598 := Fr.tr hF592 hF595 rfl rfl
              have tok599_ := hr597.2
              rw [TX.c (((hF589.2.1 175 (by decide)).trans ((gA_sI).trans ((hF552.2.1 175 (by decide)).trans (hF539.2.1 175 (by decide)))))), nX.c (((hF589.1 174 1 (by decide)).trans ((gI_sI_ne (by decide)).trans ((hF552.1 174 1 (by decide)).trans (hF539.1 174 1 (by decide)))))), rX.c (b := 5) (((hF589.1 176 5 (by decide)).trans ((gI_sI_ne (by decide)).trans ((hF552.1 176 5 (by decide)).trans (hF539.1 176 5 (by decide))))))] at tok599_
              have tok599 := TKX.tok hT tok599_
              have hT600 := hr597.1
              obtain ⟨v601, hv601⟩ : ∃ v, gI g0 176 4 = v := ⟨_, rfl⟩
              have rv601 := RgF.at hI0.2.1 (p := 176) (b := 4) rfl
              rw [hv601] at rv601
              dsimp only at rv601
              have tv601 := congrArg Int32.toInt hv601
              have x602 := rX.e hI588 (b := 4) ((((hF589.1 176 4 (by decide)).trans ((gI_sI_ne (by decide)).trans ((hF552.1 176 4 (by decide)).trans (hF539.1 176 4 (by decide))))).trans hv601))
              obtain ⟨v603, hv603⟩ : ∃ v, gI g593 176 4 = v := ⟨_, rfl⟩
              have rv603 := RgF.at hI594.2.1 (p := 176) (b := 4) rfl
              rw [hv603] at rv603
              dsimp only at rv603
              have tv603 := congrArg Int32.toInt hv603
              have x604 := rX.e hI594 (b := 4) (hv603)
              refine At.enter rfl ?_
              refine r_vret ?_
              obtain ⟨v605, hv605⟩ : ∃ v, gI g0 176 2 = v := ⟨_, rfl⟩
              have tv605 := congrArg Int32.toInt hv605
              have x606 := rX.e hI594 (b := 2) ((((hF595.1 176 2 (by decide)).trans ((hF589.1 176 2 (by decide)).trans ((gI_sI_ne (by decide)).trans ((hF552.1 176 2 (by decide)).trans (hF539.1 176 2 (by decide)))))).trans hv605))
              have x607 := rX.e hI0 (b := 2) (hv605)
              have x608 := rX.e hI594 (b := 4) (hv603)
              have x609 := rX.e hI0 (b := 4) (hv601)
              have x610 := rX.e hI594 (b := 6) (((hF595.1 176 6 (by decide)).trans ((hF589.1 176 6 (by decide)).trans (gI_sI_eq hI551.1 kx_176 rfl _))))
              have x611 := rX.e hI0 (b := 6) (hv581)
              have x612 := rX.e hI0 (b := 3) (hv547)
              have x613 := rX.e hI594 (b := 2) ((((hF595.1 176 2 (by decide)).trans ((hF589.1 176 2 (by decide)).trans ((gI_sI_ne (by decide)).trans ((hF552.1 176 2 (by decide)).trans (hF539.1 176 2 (by decide)))))).trans hv605))
              have x614 := rX.e hI594 (b := 4) (hv603)
              have x615 := rX.e hI594 (b := 6) (((hF595.1 176 6 (by decide)).trans ((hF589.1 176 6 (by decide)).trans (gI_sI_eq hI551.1 kx_176 rfl _))))
              have lf := ln556
              unfold WHX at lf
              have lg := CDX.lt hT (by omega)
              exact ⟨_, rfl, hI594, hF598, rfl, ⟨hT600, (PRG0.step hT tok599_ (rX.c (b := 2) (((hF595.1 176 2 (by decide)).trans ((hF589.1 176 2 (by decide)).trans ((gI_sI_ne (by decide)).trans ((hF552.1 176 2 (by decide)).trans (hF539.1 176 2 (by decide)))))))) (by omega)).le (by omega), PAO.leaf tok599 (by omega) (by omega) (by omega) (by omega)⟩⟩
            · have c582_ : v581.toInt ≥ 50 := en_i_lt_f c582
              refine At.enter rfl ?_
              refine r_aload_n rfl ?_
              refine q_inlV 96 rfl [.ref 176] [] (Nat.le_of_ble_eq_true rfl) rfl ?_
              refine Ev.mk rfl rfl ⟨Nat.le_of_ble_eq_true rfl, Or.inr (q_rc hI551.1 kx_176 rfl)⟩ ?_
              show At _ none _ _ (0, [(0, .ref 176)], [], (_, _)) _
              refine At.enter rfl ?_
              refine r_aload_n rfl ?_
              obtain ⟨v616, hv616⟩ : ∃ v, gI g0 176 2 = v := ⟨_, rfl⟩
              refine q_getI (Sh.int hI551.1 kx_176 rfl) v616 (((hF552.1 176 2 (by decide)).trans (hF539.1 176 2 (by decide))).trans hv616) ?_
              refine r_iconst (-1) rfl ?_
              refine r_ics 8 rfl (fun c617 => ?_) (fun c617 => ?_)
              · have c617_ : v616.toInt ≠ (-1) := en_i_ne_t c617
                refine At.enter rfl ?_
                refine q_vret ?_
                refine At.enter rfl ?_
                refine r_vret ?_
                have x618 := rX.e hI551 (b := 2) ((((hF552.1 176 2 (by decide)).trans (hF539.1 176 2 (by decide))).trans hv616))
                have x619 := rX.e hI0 (b := 2) (hv616)
                obtain ⟨v620, hv620⟩ : ∃ v, gI g0 176 4 = v := ⟨_, rfl⟩
                have rv620 := RgF.at hI0.2.1 (p := 176) (b := 4) rfl
                rw [hv620] at rv620
                dsimp only at rv620
                have tv620 := congrArg Int32.toInt hv620
                have x621 := rX.e hI551 (b := 4) ((((hF552.1 176 4 (by decide)).trans (hF539.1 176 4 (by decide))).trans hv620))
                have x622 := rX.e hI0 (b := 4) (hv620)
                have x623 := rX.e hI551 (b := 6) ((((hF552.1 176 6 (by decide)).trans (hF539.1 176 6 (by decide))).trans hv581))
                have x624 := rX.e hI0 (b := 6) (hv581)
                have x625 := rX.e hI0 (b := 3) (hv547)
                have lf := ln556
                unfold WHX at lf
                have lg := CDX.lt hT (by omega)
                exact ⟨_, rfl, hI551, hF555, rfl, ⟨(TKX.c hT (((hF552.2.1 175 (by decide)).trans (hF539.2.1 175 (by decide)))) (((hF552.1 174 1 (by decide)).trans (hF539.1 174 1 (by decide)))) (((hF552.1 176 3 (by decide)).trans (hF539.1 176 3 (by decide)))) (((hF552.1 176 4 (by decide)).trans (hF539.1 176 4 (by decide)))) (((hF552.1 176 5 (by decide)).trans (hF539.1 176 5 (by decide))))), (PRG0.fail 1 (rX.c (b := 4) (((hF552.1 176 4 (by decide)).trans (hF539.1 176 4 (by decide))))) (fun _ => by omega) (fun _ => by omega) (by omega)).le (by omega), PAO.leafF (TKX.some hT).choose_spec (by omega) (by omega) (fun _ => by omega) (fun _ => by omega) (by omega)⟩⟩
              · have c617_ : v616.toInt = (-1) := en_i_ne_f c617
                refine At.enter rfl ?_
                refine r_aload_n rfl ?_
                refine r_aload_n rfl ?_
                obtain ⟨v626, hv626⟩ : ∃ v, gI g0 176 4 = v := ⟨_, rfl⟩
                have rv626 := RgF.at hI0.2.1 (p := 176) (b := 4) rfl
                rw [hv626] at rv626
                dsimp only at rv626
                refine q_getI (Sh.int hI551.1 kx_176 rfl) v626 (((hF552.1 176 4 (by decide)).trans (hF539.1 176 4 (by decide))).trans hv626) ?_
                refine q_putI (Sh.int hI551.1 kx_176 rfl) rfl ?_
                have hI627 := HI.wI0 hI551 kx_176 rfl (p := 176) (b := 2) (v := v626) rfl
                have hF628 := Fr.wI (p := 176) (b := 2) (v := v626) hF555 rfl
                refine Ar.fall 16 rfl ?_
                refine At.enter rfl ?_
                refine q_vret ?_
                refine At.enter rfl ?_
                refine r_vret ?_
                have x629 := rX.e hI627 (b := 2) ((gI_sI_eq hI551.1 kx_176 rfl _))
                have x630 := rX.e hI0 (b := 2) (hv616)
                have x631 := rX.e hI627 (b := 4) ((((gI_sI_ne (by decide)).trans ((hF552.1 176 4 (by decide)).trans (hF539.1 176 4 (by decide)))).trans hv626))
                have x632 := rX.e hI0 (b := 4) (hv626)
                have x633 := rX.e hI627 (b := 6) ((((gI_sI_ne (by decide)).trans ((hF552.1 176 6 (by decide)).trans (hF539.1 176 6 (by decide)))).trans hv581))
                have x634 := rX.e hI0 (b := 6) (hv581)
                have x635 := rX.e hI0 (b := 3) (hv547)
                have lf := ln556
                unfold WHX at lf
                have lg := CDX.lt hT (by omega)
                exact ⟨_, rfl, hI627, hF628, rfl, ⟨(TKX.c hT (((gA_sI).trans ((hF552.2.1 175 (by decide)).trans (hF539.2.1 175 (by decide))))) (((gI_sI_ne (by decide)).trans ((hF552.1 174 1 (by decide)).trans (hF539.1 174 1 (by decide))))) (((gI_sI_ne (by decide)).trans ((hF552.1 176 3 (by decide)).trans (hF539.1 176 3 (by decide))))) (((gI_sI_ne (by decide)).trans ((hF552.1 176 4 (by decide)).trans (hF539.1 176 4 (by decide))))) (((gI_sI_ne (by decide)).trans ((hF552.1 176 5 (by decide)).trans (hF539.1 176 5 (by decide)))))), (PRG0.fail 1 (rX.c (b := 4) (((gI_sI_ne (by decide)).trans ((hF552.1 176 4 (by decide)).trans (hF539.1 176 4 (by decide)))))) (fun _ => by omega) (fun _ => by omega) (by omega)).le (by omega), PAO.leafF (TKX.some hT).choose_spec (by omega) (by omega) (fun _ => by omega) (fun _ => by omega) (by omega)⟩⟩
      · have c549_ : v547.toInt = 1 := en_i_ne_f c549
        refine At.enter rfl ?_
        refine r_aload_n rfl ?_
        refine r_callV 63 rfl [.ref 176] [] (Nat.le_of_ble_eq_true rfl) rfl (zT_X5_numberHere_176 _ hI538 (TKX.c hT ((hF539.2.1 175 (by decide))) ((hF539.1 174 1 (by decide))) ((hF539.1 176 3 (by decide))) ((hF539.1 176 4 (by decide))) ((hF539.1 176 5 (by decide))))) ?_
        rintro _ _ ⟨g636, rfl, hI637, hF638, v639, rfl, hr640⟩
        refine At.sti ?_
        have hF641 := Fr.tr hF542 hF638 rfl rfl
        have ln642 : NHX g0 v639.toInt := (hr640.2).c (rX.c (b := 3) ((hF539.1 176 3 (by decide)))) (CDX.c ((hF539.2.1 175 (by decide))) ((hF539.1 176 3 (by decide))) ((hF539.1 176 4 (by decide))) ((hF539.1 176 5 (by decide))))
        refine At.enter rfl ?_
        refine r_goto ?_
        refine At.enter rfl ?_
        refine r_istore_n ([(3, .int v639), (2, .int 1), (0, .ref 176), (1, .int a1)]) rfl ?_
        refine r_iload_n rfl ?_
        refine r_iconst (-1) rfl ?_
        refine r_ics 76 rfl (fun c643 => ?_) (fun c643 => ?_)
        · have c643_ : v639.toInt = (-1) := en_i_eq_t c643
          refine At.enter rfl ?_
          refine r_aload_n rfl ?_
          refine q_inlV 96 rfl [.ref 176] [] (Nat.le_of_ble_eq_true rfl) rfl ?_
          refine Ev.mk rfl rfl ⟨Nat.le_of_ble_eq_true rfl, Or.inr (q_rc hI637.1 kx_176 rfl)⟩ ?_
          show At _ none _ _ (0, [(0, .ref 176)], [], (_, _)) _
          refine At.enter rfl ?_
          refine r_aload_n rfl ?_
          obtain ⟨v644, hv644⟩ : ∃ v, gI g0 176 2 = v := ⟨_, rfl⟩
          refine q_getI (Sh.int hI637.1 kx_176 rfl) v644 (((hF638.1 176 2 (by decide)).trans (hF539.1 176 2 (by decide))).trans hv644) ?_
          refine r_iconst (-1) rfl ?_
          refine r_ics 8 rfl (fun c645 => ?_) (fun c645 => ?_)
          · have c645_ : v644.toInt ≠ (-1) := en_i_ne_t c645
            refine At.enter rfl ?_
            refine q_vret ?_
            refine At.enter rfl ?_
            refine r_vret ?_
            have x646 := rX.e hI637 (b := 2) ((((hF638.1 176 2 (by decide)).trans (hF539.1 176 2 (by decide))).trans hv644))
            have x647 := rX.e hI0 (b := 2) (hv644)
            obtain ⟨v648, hv648⟩ : ∃ v, gI g0 176 4 = v := ⟨_, rfl⟩
            have rv648 := RgF.at hI0.2.1 (p := 176) (b := 4) rfl
            rw [hv648] at rv648
            dsimp only at rv648
            have tv648 := congrArg Int32.toInt hv648
            have x649 := rX.e hI637 (b := 4) ((((hF638.1 176 4 (by decide)).trans (hF539.1 176 4 (by decide))).trans hv648))
            have x650 := rX.e hI0 (b := 4) (hv648)
            obtain ⟨v651, hv651⟩ : ∃ v, gI g0 176 6 = v := ⟨_, rfl⟩
            have tv651 := congrArg Int32.toInt hv651
            have x652 := rX.e hI637 (b := 6) ((((hF638.1 176 6 (by decide)).trans (hF539.1 176 6 (by decide))).trans hv651))
            have x653 := rX.e hI0 (b := 6) (hv651)
            have x654 := rX.e hI0 (b := 3) (hv547)
            have lf := ln642 (by omega)
            exact ⟨_, rfl, hI637, hF641, rfl, ⟨(TKX.c hT (((hF638.2.1 175 (by decide)).trans (hF539.2.1 175 (by decide)))) (((hF638.1 174 1 (by decide)).trans (hF539.1 174 1 (by decide)))) (((hF638.1 176 3 (by decide)).trans (hF539.1 176 3 (by decide)))) (((hF638.1 176 4 (by decide)).trans (hF539.1 176 4 (by decide)))) (((hF638.1 176 5 (by decide)).trans (hF539.1 176 5 (by decide))))), (PRG0.fail 1 (rX.c (b := 4) (((hF638.1 176 4 (by decide)).trans (hF539.1 176 4 (by decide))))) (fun _ => by omega) (fun _ => by omega) (by omega)).le (by omega), PAO.leafF (TKX.some hT).choose_spec (by omega) (by omega) (fun _ => by omega) (fun _ => by omega) (by omega)⟩⟩
          · have c645_ : v644.toInt = (-1) := en_i_ne_f c645
            refine At.enter rfl ?_
            refine r_aload_n rfl ?_
            refine r_aload_n rfl ?_
            obtain ⟨v655, hv655⟩ : ∃ v, gI g0 176 4 = v := ⟨_, rfl⟩
            have rv655 := RgF.at hI0.2.1 (p := 176) (b := 4) rfl
            rw [hv655] at rv655
            dsimp only at rv655
            refine q_getI (Sh.int hI637.1 kx_176 rfl) v655 (((hF638.1 176 4 (by decide)).trans (hF539.1 176 4 (by decide))).trans hv655) ?_
            refine q_putI (Sh.int hI637.1 kx_176 rfl) rfl ?_
            have hI656 := HI.wI0 hI637 kx_176 rfl (p := 176) (b := 2) (v := v655) rfl
            have hF657 := Fr.wI (p := 176) (b := 2) (v := v655) hF641 rfl
            refine Ar.fall 16 rfl ?_
            refine At.enter rfl ?_
            refine q_vret ?_
            refine At.enter rfl ?_
            refine r_vret ?_
            have x658 := rX.e hI656 (b := 2) ((gI_sI_eq hI637.1 kx_176 rfl _))
            have x659 := rX.e hI0 (b := 2) (hv644)
            have x660 := rX.e hI656 (b := 4) ((((gI_sI_ne (by decide)).trans ((hF638.1 176 4 (by decide)).trans (hF539.1 176 4 (by decide)))).trans hv655))
            have x661 := rX.e hI0 (b := 4) (hv655)
            obtain ⟨v662, hv662⟩ : ∃ v, gI g0 176 6 = v := ⟨_, rfl⟩
            have tv662 := congrArg Int32.toInt hv662
            have x663 := rX.e hI656 (b := 6) ((((gI_sI_ne (by decide)).trans ((hF638.1 176 6 (by decide)).trans (hF539.1 176 6 (by decide)))).trans hv662))
            have x664 := rX.e hI0 (b := 6) (hv662)
            have x665 := rX.e hI0 (b := 3) (hv547)
            have lf := ln642 (by omega)
            exact ⟨_, rfl, hI656, hF657, rfl, ⟨(TKX.c hT (((gA_sI).trans ((hF638.2.1 175 (by decide)).trans (hF539.2.1 175 (by decide))))) (((gI_sI_ne (by decide)).trans ((hF638.1 174 1 (by decide)).trans (hF539.1 174 1 (by decide))))) (((gI_sI_ne (by decide)).trans ((hF638.1 176 3 (by decide)).trans (hF539.1 176 3 (by decide))))) (((gI_sI_ne (by decide)).trans ((hF638.1 176 4 (by decide)).trans (hF539.1 176 4 (by decide))))) (((gI_sI_ne (by decide)).trans ((hF638.1 176 5 (by decide)).trans (hF539.1 176 5 (by decide)))))), (PRG0.fail 1 (rX.c (b := 4) (((gI_sI_ne (by decide)).trans ((hF638.1 176 4 (by decide)).trans (hF539.1 176 4 (by decide)))))) (fun _ => by omega) (fun _ => by omega) (by omega)).le (by omega), PAO.leafF (TKX.some hT).choose_spec (by omega) (by omega) (fun _ => by omega) (fun _ => by omega) (by omega)⟩⟩
        · have c643_ : v639.toInt ≠ (-1) := en_i_eq_f c643
          refine At.enter rfl ?_
          refine r_iload_n rfl ?_
          refine r_sipush 1000 rfl ?_
          refine r_ics 83 rfl (fun c666 => ?_) (fun c666 => ?_)
          · have c666_ : v639.toInt > 1000 := en_i_gt_t c666
            refine At.enter rfl ?_
            refine r_aload_n rfl ?_
            refine q_inlV 96 rfl [.ref 176] [] (Nat.le_of_ble_eq_true rfl) rfl ?_
            refine Ev.mk rfl rfl ⟨Nat.le_of_ble_eq_true rfl, Or.inr (q_rc hI637.1 kx_176 rfl)⟩ ?_
            show At _ none _ _ (0, [(0, .ref 176)], [], (_, _)) _
            refine At.enter rfl ?_
            refine r_aload_n rfl ?_
            obtain ⟨v667, hv667⟩ : ∃ v, gI g0 176 2 = v := ⟨_, rfl⟩
            refine q_getI (Sh.int hI637.1 kx_176 rfl) v667 (((hF638.1 176 2 (by decide)).trans (hF539.1 176 2 (by decide))).trans hv667) ?_
            refine r_iconst (-1) rfl ?_
            refine r_ics 8 rfl (fun c668 => ?_) (fun c668 => ?_)
            · have c668_ : v667.toInt ≠ (-1) := en_i_ne_t c668
              refine At.enter rfl ?_
              refine q_vret ?_
              refine At.enter rfl ?_
              refine r_vret ?_
              have x669 := rX.e hI637 (b := 2) ((((hF638.1 176 2 (by decide)).trans (hF539.1 176 2 (by decide))).trans hv667))
              have x670 := rX.e hI0 (b := 2) (hv667)
              obtain ⟨v671, hv671⟩ : ∃ v, gI g0 176 4 = v := ⟨_, rfl⟩
              have rv671 := RgF.at hI0.2.1 (p := 176) (b := 4) rfl
              rw [hv671] at rv671
              dsimp only at rv671
              have tv671 := congrArg Int32.toInt hv671
              have x672 := rX.e hI637 (b := 4) ((((hF638.1 176 4 (by decide)).trans (hF539.1 176 4 (by decide))).trans hv671))
              have x673 := rX.e hI0 (b := 4) (hv671)
              obtain ⟨v674, hv674⟩ : ∃ v, gI g0 176 6 = v := ⟨_, rfl⟩
              have tv674 := congrArg Int32.toInt hv674
              have x675 := rX.e hI637 (b := 6) ((((hF638.1 176 6 (by decide)).trans (hF539.1 176 6 (by decide))).trans hv674))
              have x676 := rX.e hI0 (b := 6) (hv674)
              have x677 := rX.e hI0 (b := 3) (hv547)
              have lf := ln642 (by omega)
              exact ⟨_, rfl, hI637, hF641, rfl, ⟨(TKX.c hT (((hF638.2.1 175 (by decide)).trans (hF539.2.1 175 (by decide)))) (((hF638.1 174 1 (by decide)).trans (hF539.1 174 1 (by decide)))) (((hF638.1 176 3 (by decide)).trans (hF539.1 176 3 (by decide)))) (((hF638.1 176 4 (by decide)).trans (hF539.1 176 4 (by decide)))) (((hF638.1 176 5 (by decide)).trans (hF539.1 176 5 (by decide))))), (PRG0.fail 1 (rX.c (b := 4) (((hF638.1 176 4 (by decide)).trans (hF539.1 176 4 (by decide))))) (fun _ => by omega) (fun _ => by omega) (by omega)).le (by omega), PAO.leafF (TKX.some hT).choose_spec (by omega) (by omega) (fun _ => by omega) (fun _ => by omega) (by omega)⟩⟩
            · have c668_ : v667.toInt = (-1) := en_i_ne_f c668
              refine At.enter rfl ?_
              refine r_aload_n rfl ?_
              refine r_aload_n rfl ?_
              obtain ⟨v678, hv678⟩ : ∃ v, gI g0 176 4 = v := ⟨_, rfl⟩
              have rv678 := RgF.at hI0.2.1 (p := 176) (b := 4) rfl
              rw [hv678] at rv678
              dsimp only at rv678
              refine q_getI (Sh.int hI637.1 kx_176 rfl) v678 (((hF638.1 176 4 (by decide)).trans (hF539.1 176 4 (by decide))).trans hv678) ?_
              refine q_putI (Sh.int hI637.1 kx_176 rfl) rfl ?_
              have hI679 := HI.wI0 hI637 kx_176 rfl (p := 176) (b := 2) (v := v678) rfl
              have hF680 := Fr.wI (p := 176) (b := 2) (v := v678) hF641 rfl
              refine Ar.fall 16 rfl ?_
              refine At.enter rfl ?_
              refine q_vret ?_
              refine At.enter rfl ?_
              refine r_vret ?_
              have x681 := rX.e hI679 (b := 2) ((gI_sI_eq hI637.1 kx_176 rfl _))
              have x682 := rX.e hI0 (b := 2) (hv667)
              have x683 := rX.e hI679 (b := 4) ((((gI_sI_ne (by decide)).trans ((hF638.1 176 4 (by decide)).trans (hF539.1 176 4 (by decide)))).trans hv678))
              have x684 := rX.e hI0 (b := 4) (hv678)
              obtain ⟨v685, hv685⟩ : ∃ v, gI g0 176 6 = v := ⟨_, rfl⟩
              have tv685 := congrArg Int32.toInt hv685
              have x686 := rX.e hI679 (b := 6) ((((gI_sI_ne (by decide)).trans ((hF638.1 176 6 (by decide)).trans (hF539.1 176 6 (by decide)))).trans hv685))
              have x687 := rX.e hI0 (b := 6) (hv685)
              have x688 := rX.e hI0 (b := 3) (hv547)
              have lf := ln642 (by omega)
              exact ⟨_, rfl, hI679, hF680, rfl, ⟨(TKX.c hT (((gA_sI).trans ((hF638.2.1 175 (by decide)).trans (hF539.2.1 175 (by decide))))) (((gI_sI_ne (by decide)).trans ((hF638.1 174 1 (by decide)).trans (hF539.1 174 1 (by decide))))) (((gI_sI_ne (by decide)).trans ((hF638.1 176 3 (by decide)).trans (hF539.1 176 3 (by decide))))) (((gI_sI_ne (by decide)).trans ((hF638.1 176 4 (by decide)).trans (hF539.1 176 4 (by decide))))) (((gI_sI_ne (by decide)).trans ((hF638.1 176 5 (by decide)).trans (hF539.1 176 5 (by decide)))))), (PRG0.fail 1 (rX.c (b := 4) (((gI_sI_ne (by decide)).trans ((hF638.1 176 4 (by decide)).trans (hF539.1 176 4 (by decide)))))) (fun _ => by omega) (fun _ => by omega) (by omega)).le (by omega), PAO.leafF (TKX.some hT).choose_spec (by omega) (by omega) (fun _ => by omega) (fun _ => by omega) (by omega)⟩⟩
          · have c666_ : v639.toInt ≤ 1000 := en_i_gt_f c666
            refine At.enter rfl ?_
            refine r_aload_n rfl ?_
            obtain ⟨v689, hv689⟩ : ∃ v, gI g0 176 6 = v := ⟨_, rfl⟩
            refine q_getI (Sh.int hI637.1 kx_176 rfl) v689 (((hF638.1 176 6 (by decide)).trans (hF539.1 176 6 (by decide))).trans hv689) ?_
            refine r_bipush 50 rfl ?_
            refine r_ics 92 rfl (fun c690 => ?_) (fun c690 => ?_)
            · have c690_ : v689.toInt < 50 := en_i_lt_t c690
              refine At.enter rfl ?_
              refine r_aload_n rfl ?_
              refine r_dup rfl ?_
              refine q_getI (Sh.int hI637.1 kx_176 rfl) v689 (((hF638.1 176 6 (by decide)).trans (hF539.1 176 6 (by decide))).trans hv689) ?_
              refine r_iconst 1 rfl ?_
              have bv691 := q_bnd v689
              refine q_iadd (v689.toInt + 1) rfl (by omega) (fun v692 hv692 => ?_)
              refine q_putI (Sh.int hI637.1 kx_176 rfl) rfl ?_
              have hI693 := HI.wI0 hI637 kx_176 rfl (p := 176) (b := 6) (v := v692) rfl
              have hF694 := Fr.wI (p := 176) (b := 6) (v := v692) hF641 rfl
              refine r_aload_n rfl ?_
              refine q_getR (Sh.ref hI693.1 kx_176 rfl) ?_
              refine r_iload_n rfl ?_
              refine r_iload_n rfl ?_
              refine r_callV 116 rfl [.ref 177, .int 1, .int v639] [] (Nat.le_of_ble_eq_true rfl) rfl (zT_X4_add_177 _ hI693 1 v639) ?_
              rintro _ _ ⟨g695, rfl, hI696, hF697, v698, rfl, hr699⟩
              refine At.sti ?_
              have hF700 := Fr.tr hF694 hF697 rfl rfl
              refine At.enter rfl ?_
              refine r_pop rfl ?_
              refine r_aload_n rfl ?_
              refine r_callV 121 rfl [.ref 176] [] (Nat.le_of_ble_eq_true rfl) rfl (zT_X5_step_176 _ hI696 (TKX.c hT (((hF697.2.1 175 (by decide)).trans ((gA_sI).trans ((hF638.2.1 175 (by decide)).trans (hF539.2.1 175 (by decide)))))) (((hF697.1 174 1 (by decide)).trans ((gI_sI_ne (by decide)).trans ((hF638.1 174 1 (by decide)).trans (hF539.1 174 1 (by decide)))))) (((hF697.1 176 3 (by decide)).trans ((gI_sI_ne (by decide)).trans ((hF638.1 176 3 (by decide)).trans (hF539.1 176 3 (by decide)))))) (((hF697.1 176 4 (by decide)).trans ((gI_sI_ne (by decide)).trans ((hF638.1 176 4 (by decide)).trans (hF539.1 176 4 (by decide)))))) (((hF697.1 176 5 (by decide)).trans ((gI_sI_ne (by decide)).trans ((hF638.1 176 5 (by decide)).trans (hF539.1 176 5 (by decide))))))).1 (TKX.c hT (((hF697.2.1 175 (by decide)).trans ((gA_sI).trans ((hF638.2.1 175 (by decide)).trans (hF539.2.1 175 (by decide)))))) (((hF697.1 174 1 (by decide)).trans ((gI_sI_ne (by decide)).trans ((hF638.1 174 1 (by decide)).trans (hF539.1 174 1 (by decide)))))) (((hF697.1 176 3 (by decide)).trans ((gI_sI_ne (by decide)).trans ((hF638.1 176 3 (by decide)).trans (hF539.1 176 3 (by decide)))))) (((hF697.1 176 4 (by decide)).trans ((gI_sI_ne (by decide)).trans ((hF638.1 176 4 (by decide)).trans (hF539.1 176 4 (by decide)))))) (((hF697.1 176 5 (by decide)).trans ((gI_sI_ne (by decide)).trans ((hF638.1 176 5 (by decide)).trans (hF539.1 176 5 (by decide))))))).2.1.le.2.1) ?_
              rintro _ _ ⟨g701, rfl, hI702, hF703, rfl, hr705⟩
              refine At.stn ?_
              have hF706 := Fr.tr hF700 hF703 rfl rfl
              have tok707_ := hr705.2
              rw [TX.c (((hF697.2.1 175 (by decide)).trans ((gA_sI).trans ((hF638.2.1 175 (by decide)).trans (hF539.2.1 175 (by decide)))))), nX.c (((hF697.1 174 1 (by decide)).trans ((gI_sI_ne (by decide)).trans ((hF638.1 174 1 (by decide)).trans (hF539.1 174 1 (by decide)))))), rX.c (b := 5) (((hF697.1 176 5 (by decide)).trans ((gI_sI_ne (by decide)).trans ((hF638.1 176 5 (by decide)).trans (hF539.1 176 5 (by decide))))))] at tok707_
              have tok707 := TKX.tok hT tok707_
              have hT708 := hr705.1
              obtain ⟨v709, hv709⟩ : ∃ v, gI g0 176 4 = v := ⟨_, rfl⟩
              have rv709 := RgF.at hI0.2.1 (p := 176) (b := 4) rfl
              rw [hv709] at rv709
              dsimp only at rv709
              have tv709 := congrArg Int32.toInt hv709
              have x710 := rX.e hI696 (b := 4) ((((hF697.1 176 4 (by decide)).trans ((gI_sI_ne (by decide)).trans ((hF638.1 176 4 (by decide)).trans (hF539.1 176 4 (by decide))))).trans hv709))
              obtain ⟨v711, hv711⟩ : ∃ v, gI g701 176 4 = v := ⟨_, rfl⟩
              have rv711 := RgF.at hI702.2.1 (p := 176) (b := 4) rfl
              rw [hv711] at rv711
              dsimp only at rv711
              have tv711 := congrArg Int32.toInt hv711
              have x712 := rX.e hI702 (b := 4) (hv711)
              refine At.enter rfl ?_
              refine r_vret ?_
              obtain ⟨v713, hv713⟩ : ∃ v, gI g0 176 2 = v := ⟨_, rfl⟩
              have tv713 := congrArg Int32.toInt hv713
              have x714 := rX.e hI702 (b := 2) ((((hF703.1 176 2 (by decide)).trans ((hF697.1 176 2 (by decide)).trans ((gI_sI_ne (by decide)).trans ((hF638.1 176 2 (by decide)).trans (hF539.1 176 2 (by decide)))))).trans hv713))
              have x715 := rX.e hI0 (b := 2) (hv713)
              have x716 := rX.e hI702 (b := 4) (hv711)
              have x717 := rX.e hI0 (b := 4) (hv709)
              have x718 := rX.e hI702 (b := 6) (((hF703.1 176 6 (by decide)).trans ((hF697.1 176 6 (by decide)).trans (gI_sI_eq hI637.1 kx_176 rfl _))))
              have x719 := rX.e hI0 (b := 6) (hv689)
              have x720 := rX.e hI0 (b := 3) (hv547)
              have x721 := rX.e hI702 (b := 2) ((((hF703.1 176 2 (by decide)).trans ((hF697.1 176 2 (by decide)).trans ((gI_sI_ne (by decide)).trans ((hF638.1 176 2 (by decide)).trans (hF539.1 176 2 (by decide)))))).trans hv713))
              have x722 := rX.e hI702 (b := 4) (hv711)
              have x723 := rX.e hI702 (b := 6) (((hF703.1 176 6 (by decide)).trans ((hF697.1 176 6 (by decide)).trans (gI_sI_eq hI637.1 kx_176 rfl _))))
              have lf := ln642 (by omega)
              exact ⟨_, rfl, hI702, hF706, rfl, ⟨hT708, (PRG0.step hT tok707_ (rX.c (b := 2) (((hF703.1 176 2 (by decide)).trans ((hF697.1 176 2 (by decide)).trans ((gI_sI_ne (by decide)).trans ((hF638.1 176 2 (by decide)).trans (hF539.1 176 2 (by decide)))))))) (by omega)).le (by omega), PAO.leaf tok707 (by omega) (by omega) (by omega) (by omega)⟩⟩
            · have c690_ : v689.toInt ≥ 50 := en_i_lt_f c690
              refine At.enter rfl ?_
              refine r_aload_n rfl ?_
              refine q_inlV 96 rfl [.ref 176] [] (Nat.le_of_ble_eq_true rfl) rfl ?_
              refine Ev.mk rfl rfl ⟨Nat.le_of_ble_eq_true rfl, Or.inr (q_rc hI637.1 kx_176 rfl)⟩ ?_
              show At _ none _ _ (0, [(0, .ref 176)], [], (_, _)) _
              refine At.enter rfl ?_
              refine r_aload_n rfl ?_
              obtain ⟨v724, hv724⟩ : ∃ v, gI g0 176 2 = v := ⟨_, rfl⟩
              refine q_getI (Sh.int hI637.1 kx_176 rfl) v724 (((hF638.1 176 2 (by decide)).trans (hF539.1 176 2 (by decide))).trans hv724) ?_
              refine r_iconst (-1) rfl ?_
              refine r_ics 8 rfl (fun c725 => ?_) (fun c725 => ?_)
              · have c725_ : v724.toInt ≠ (-1) := en_i_ne_t c725
                refine At.enter rfl ?_
                refine q_vret ?_
                refine At.enter rfl ?_
                refine r_vret ?_
                have x726 := rX.e hI637 (b := 2) ((((hF638.1 176 2 (by decide)).trans (hF539.1 176 2 (by decide))).trans hv724))
                have x727 := rX.e hI0 (b := 2) (hv724)
                obtain ⟨v728, hv728⟩ : ∃ v, gI g0 176 4 = v := ⟨_, rfl⟩
                have rv728 := RgF.at hI0.2.1 (p := 176) (b := 4) rfl
                rw [hv728] at rv728
                dsimp only at rv728
                have tv728 := congrArg Int32.toInt hv728
                have x729 := rX.e hI637 (b := 4) ((((hF638.1 176 4 (by decide)).trans (hF539.1 176 4 (by decide))).trans hv728))
                have x730 := rX.e hI0 (b := 4) (hv728)
                have x731 := rX.e hI637 (b := 6) ((((hF638.1 176 6 (by decide)).trans (hF539.1 176 6 (by decide))).trans hv689))
                have x732 := rX.e hI0 (b := 6) (hv689)
                have x733 := rX.e hI0 (b := 3) (hv547)
                have lf := ln642 (by omega)
                exact ⟨_, rfl, hI637, hF641, rfl, ⟨(TKX.c hT (((hF638.2.1 175 (by decide)).trans (hF539.2.1 175 (by decide)))) (((hF638.1 174 1 (by decide)).trans (hF539.1 174 1 (by decide)))) (((hF638.1 176 3 (by decide)).trans (hF539.1 176 3 (by decide)))) (((hF638.1 176 4 (by decide)).trans (hF539.1 176 4 (by decide)))) (((hF638.1 176 5 (by decide)).trans (hF539.1 176 5 (by decide))))), (PRG0.fail 1 (rX.c (b := 4) (((hF638.1 176 4 (by decide)).trans (hF539.1 176 4 (by decide))))) (fun _ => by omega) (fun _ => by omega) (by omega)).le (by omega), PAO.leafF (TKX.some hT).choose_spec (by omega) (by omega) (fun _ => by omega) (fun _ => by omega) (by omega)⟩⟩
              · have c725_ : v724.toInt = (-1) := en_i_ne_f c725
                refine At.enter rfl ?_
                refine r_aload_n rfl ?_
                refine r_aload_n rfl ?_
                obtain ⟨v734, hv734⟩ : ∃ v, gI g0 176 4 = v := ⟨_, rfl⟩
                have rv734 := RgF.at hI0.2.1 (p := 176) (b := 4) rfl
                rw [hv734] at rv734
                dsimp only at rv734
                refine q_getI (Sh.int hI637.1 kx_176 rfl) v734 (((hF638.1 176 4 (by decide)).trans (hF539.1 176 4 (by decide))).trans hv734) ?_
                refine q_putI (Sh.int hI637.1 kx_176 rfl) rfl ?_
                have hI735 := HI.wI0 hI637 kx_176 rfl (p := 176) (b := 2) (v := v734) rfl
                have hF736 := Fr.wI (p := 176) (b := 2) (v := v734) hF641 rfl
                refine Ar.fall 16 rfl ?_
                refine At.enter rfl ?_
                refine q_vret ?_
                refine At.enter rfl ?_
                refine r_vret ?_
                have x737 := rX.e hI735 (b := 2) ((gI_sI_eq hI637.1 kx_176 rfl _))
                have x738 := rX.e hI0 (b := 2) (hv724)
                have x739 := rX.e hI735 (b := 4) ((((gI_sI_ne (by decide)).trans ((hF638.1 176 4 (by decide)).trans (hF539.1 176 4 (by decide)))).trans hv734))
                have x740 := rX.e hI0 (b := 4) (hv734)
                have x741 := rX.e hI735 (b := 6) ((((gI_sI_ne (by decide)).trans ((hF638.1 176 6 (by decide)).trans (hF539.1 176 6 (by decide)))).trans hv689))
                have x742 := rX.e hI0 (b := 6) (hv689)
                have x743 := rX.e hI0 (b := 3) (hv547)
                have lf := ln642 (by omega)
                exact ⟨_, rfl, hI735, hF736, rfl, ⟨(TKX.c hT (((gA_sI).trans ((hF638.2.1 175 (by decide)).trans (hF539.2.1 175 (by decide))))) (((gI_sI_ne (by decide)).trans ((hF638.1 174 1 (by decide)).trans (hF539.1 174 1 (by decide))))) (((gI_sI_ne (by decide)).trans ((hF638.1 176 3 (by decide)).trans (hF539.1 176 3 (by decide))))) (((gI_sI_ne (by decide)).trans ((hF638.1 176 4 (by decide)).trans (hF539.1 176 4 (by decide))))) (((gI_sI_ne (by decide)).trans ((hF638.1 176 5 (by decide)).trans (hF539.1 176 5 (by decide)))))), (PRG0.fail 1 (rX.c (b := 4) (((gI_sI_ne (by decide)).trans ((hF638.1 176 4 (by decide)).trans (hF539.1 176 4 (by decide)))))) (fun _ => by omega) (fun _ => by omega) (by omega)).le (by omega), PAO.leafF (TKX.some hT).choose_spec (by omega) (by omega) (fun _ => by omega) (fun _ => by omega) (by omega)⟩⟩
    · have c548_ : v547.toInt = 1 := en_i_ne_f c548
      refine At.enter rfl ?_
      refine r_iconst 0 rfl ?_
      refine r_goto ?_
      refine At.enter rfl ?_
      refine r_istore_n ([(2, .int 0), (0, .ref 176), (1, .int a1)]) rfl ?_
      refine r_aload_n rfl ?_
      refine q_getI (Sh.int hI538.1 kx_176 rfl) v547 ((hF539.1 176 3 (by decide)).trans hv547) ?_
      refine r_iconst 1 rfl ?_
      refine r_ics 59 rfl (fun c744 => ?_) (fun c744 => ?_)
      · have c744_ : v547.toInt ≠ 1 := en_i_ne_t c744
        exfalso; omega
      · have c744_ : v547.toInt = 1 := en_i_ne_f c744
        refine At.enter rfl ?_
        refine r_aload_n rfl ?_
        refine r_callV 63 rfl [.ref 176] [] (Nat.le_of_ble_eq_true rfl) rfl (zT_X5_numberHere_176 _ hI538 (TKX.c hT ((hF539.2.1 175 (by decide))) ((hF539.1 174 1 (by decide))) ((hF539.1 176 3 (by decide))) ((hF539.1 176 4 (by decide))) ((hF539.1 176 5 (by decide))))) ?_
        rintro _ _ ⟨g745, rfl, hI746, hF747, v748, rfl, hr749⟩
        refine At.sti ?_
        have hF750 := Fr.tr hF542 hF747 rfl rfl
        have ln751 : NHX g0 v748.toInt := (hr749.2).c (rX.c (b := 3) ((hF539.1 176 3 (by decide)))) (CDX.c ((hF539.2.1 175 (by decide))) ((hF539.1 176 3 (by decide))) ((hF539.1 176 4 (by decide))) ((hF539.1 176 5 (by decide))))
        refine At.enter rfl ?_
        refine r_goto ?_
        refine At.enter rfl ?_
        refine r_istore_n ([(3, .int v748), (2, .int 0), (0, .ref 176), (1, .int a1)]) rfl ?_
        refine r_iload_n rfl ?_
        refine r_iconst (-1) rfl ?_
        refine r_ics 76 rfl (fun c752 => ?_) (fun c752 => ?_)
        · have c752_ : v748.toInt = (-1) := en_i_eq_t c752
          refine At.enter rfl ?_
          refine r_aload_n rfl ?_
          refine q_inlV 96 rfl [.ref 176] [] (Nat.le_of_ble_eq_true rfl) rfl ?_
          refine Ev.mk rfl rfl ⟨Nat.le_of_ble_eq_true rfl, Or.inr (q_rc hI746.1 kx_176 rfl)⟩ ?_
          show At _ none _ _ (0, [(0, .ref 176)], [], (_, _)) _
          refine At.enter rfl ?_
          refine r_aload_n rfl ?_
          obtain ⟨v753, hv753⟩ : ∃ v, gI g0 176 2 = v := ⟨_, rfl⟩
          refine q_getI (Sh.int hI746.1 kx_176 rfl) v753 (((hF747.1 176 2 (by decide)).trans (hF539.1 176 2 (by decide))).trans hv753) ?_
          refine r_iconst (-1) rfl ?_
          refine r_ics 8 rfl (fun c754 => ?_) (fun c754 => ?_)
          · have c754_ : v753.toInt ≠ (-1) := en_i_ne_t c754
            refine At.enter rfl ?_
            refine q_vret ?_
            refine At.enter rfl ?_
            refine r_vret ?_
            have x755 := rX.e hI746 (b := 2) ((((hF747.1 176 2 (by decide)).trans (hF539.1 176 2 (by decide))).trans hv753))
            have x756 := rX.e hI0 (b := 2) (hv753)
            obtain ⟨v757, hv757⟩ : ∃ v, gI g0 176 4 = v := ⟨_, rfl⟩
            have rv757 := RgF.at hI0.2.1 (p := 176) (b := 4) rfl
            rw [hv757] at rv757
            dsimp only at rv757
            have tv757 := congrArg Int32.toInt hv757
            have x758 := rX.e hI746 (b := 4) ((((hF747.1 176 4 (by decide)).trans (hF539.1 176 4 (by decide))).trans hv757))
            have x759 := rX.e hI0 (b := 4) (hv757)
            obtain ⟨v760, hv760⟩ : ∃ v, gI g0 176 6 = v := ⟨_, rfl⟩
            have tv760 := congrArg Int32.toInt hv760
            have x761 := rX.e hI746 (b := 6) ((((hF747.1 176 6 (by decide)).trans (hF539.1 176 6 (by decide))).trans hv760))
            have x762 := rX.e hI0 (b := 6) (hv760)
            have x763 := rX.e hI0 (b := 3) (hv547)
            have lf := ln751 (by omega)
            exact ⟨_, rfl, hI746, hF750, rfl, ⟨(TKX.c hT (((hF747.2.1 175 (by decide)).trans (hF539.2.1 175 (by decide)))) (((hF747.1 174 1 (by decide)).trans (hF539.1 174 1 (by decide)))) (((hF747.1 176 3 (by decide)).trans (hF539.1 176 3 (by decide)))) (((hF747.1 176 4 (by decide)).trans (hF539.1 176 4 (by decide)))) (((hF747.1 176 5 (by decide)).trans (hF539.1 176 5 (by decide))))), (PRG0.fail 1 (rX.c (b := 4) (((hF747.1 176 4 (by decide)).trans (hF539.1 176 4 (by decide))))) (fun _ => by omega) (fun _ => by omega) (by omega)).le (by omega), PAO.leafF (TKX.some hT).choose_spec (by omega) (by omega) (fun _ => by omega) (fun _ => by omega) (by omega)⟩⟩
          · have c754_ : v753.toInt = (-1) := en_i_ne_f c754
            refine At.enter rfl ?_
            refine r_aload_n rfl ?_
            refine r_aload_n rfl ?_
            obtain ⟨v764, hv764⟩ : ∃ v, gI g0 176 4 = v := ⟨_, rfl⟩
            have rv764 := RgF.at hI0.2.1 (p := 176) (b := 4) rfl
            rw [hv764] at rv764
            dsimp only at rv764
            refine q_getI (Sh.int hI746.1 kx_176 rfl) v764 (((hF747.1 176 4 (by decide)).trans (hF539.1 176 4 (by decide))).trans hv764) ?_
            refine q_putI (Sh.int hI746.1 kx_176 rfl) rfl ?_
            have hI765 := HI.wI0 hI746 kx_176 rfl (p := 176) (b := 2) (v := v764) rfl
            have hF766 := Fr.wI (p := 176) (b := 2) (v := v764) hF750 rfl
            refine Ar.fall 16 rfl ?_
            refine At.enter rfl ?_
            refine q_vret ?_
            refine At.enter rfl ?_
            refine r_vret ?_
            have x767 := rX.e hI765 (b := 2) ((gI_sI_eq hI746.1 kx_176 rfl _))
            have x768 := rX.e hI0 (b := 2) (hv753)
            have x769 := rX.e hI765 (b := 4) ((((gI_sI_ne (by decide)).trans ((hF747.1 176 4 (by decide)).trans (hF539.1 176 4 (by decide)))).trans hv764))
            have x770 := rX.e hI0 (b := 4) (hv764)
            obtain ⟨v771, hv771⟩ : ∃ v, gI g0 176 6 = v := ⟨_, rfl⟩
            have tv771 := congrArg Int32.toInt hv771
            have x772 := rX.e hI765 (b := 6) ((((gI_sI_ne (by decide)).trans ((hF747.1 176 6 (by decide)).trans (hF539.1 176 6 (by decide)))).trans hv771))
            have x773 := rX.e hI0 (b := 6) (hv771)
            have x774 := rX.e hI0 (b := 3) (hv547)
            have lf := ln751 (by omega)
            exact ⟨_, rfl, hI765, hF766, rfl, ⟨(TKX.c hT (((gA_sI).trans ((hF747.2.1 175 (by decide)).trans (hF539.2.1 175 (by decide))))) (((gI_sI_ne (by decide)).trans ((hF747.1 174 1 (by decide)).trans (hF539.1 174 1 (by decide))))) (((gI_sI_ne (by decide)).trans ((hF747.1 176 3 (by decide)).trans (hF539.1 176 3 (by decide))))) (((gI_sI_ne (by decide)).trans ((hF747.1 176 4 (by decide)).trans (hF539.1 176 4 (by decide))))) (((gI_sI_ne (by decide)).trans ((hF747.1 176 5 (by decide)).trans (hF539.1 176 5 (by decide)))))), (PRG0.fail 1 (rX.c (b := 4) (((gI_sI_ne (by decide)).trans ((hF747.1 176 4 (by decide)).trans (hF539.1 176 4 (by decide)))))) (fun _ => by omega) (fun _ => by omega) (by omega)).le (by omega), PAO.leafF (TKX.some hT).choose_spec (by omega) (by omega) (fun _ => by omega) (fun _ => by omega) (by omega)⟩⟩
        · have c752_ : v748.toInt ≠ (-1) := en_i_eq_f c752
          refine At.enter rfl ?_
          refine r_iload_n rfl ?_
          refine r_sipush 1000 rfl ?_
          refine r_ics 83 rfl (fun c775 => ?_) (fun c775 => ?_)
          · have c775_ : v748.toInt > 1000 := en_i_gt_t c775
            refine At.enter rfl ?_
            refine r_aload_n rfl ?_
            refine q_inlV 96 rfl [.ref 176] [] (Nat.le_of_ble_eq_true rfl) rfl ?_
            refine Ev.mk rfl rfl ⟨Nat.le_of_ble_eq_true rfl, Or.inr (q_rc hI746.1 kx_176 rfl)⟩ ?_
            show At _ none _ _ (0, [(0, .ref 176)], [], (_, _)) _
            refine At.enter rfl ?_
            refine r_aload_n rfl ?_
            obtain ⟨v776, hv776⟩ : ∃ v, gI g0 176 2 = v := ⟨_, rfl⟩
            refine q_getI (Sh.int hI746.1 kx_176 rfl) v776 (((hF747.1 176 2 (by decide)).trans (hF539.1 176 2 (by decide))).trans hv776) ?_
            refine r_iconst (-1) rfl ?_
            refine r_ics 8 rfl (fun c777 => ?_) (fun c777 => ?_)
            · have c777_ : v776.toInt ≠ (-1) := en_i_ne_t c777
              refine At.enter rfl ?_
              refine q_vret ?_
              refine At.enter rfl ?_
              refine r_vret ?_
              have x778 := rX.e hI746 (b := 2) ((((hF747.1 176 2 (by decide)).trans (hF539.1 176 2 (by decide))).trans hv776))
              have x779 := rX.e hI0 (b := 2) (hv776)
              obtain ⟨v780, hv780⟩ : ∃ v, gI g0 176 4 = v := ⟨_, rfl⟩
              have rv780 := RgF.at hI0.2.1 (p := 176) (b := 4) rfl
              rw [hv780] at rv780
              dsimp only at rv780
              have tv780 := congrArg Int32.toInt hv780
              have x781 := rX.e hI746 (b := 4) ((((hF747.1 176 4 (by decide)).trans (hF539.1 176 4 (by decide))).trans hv780))
              have x782 := rX.e hI0 (b := 4) (hv780)
              obtain ⟨v783, hv783⟩ : ∃ v, gI g0 176 6 = v := ⟨_, rfl⟩
              have tv783 := congrArg Int32.toInt hv783
              have x784 := rX.e hI746 (b := 6) ((((hF747.1 176 6 (by decide)).trans (hF539.1 176 6 (by decide))).trans hv783))
              have x785 := rX.e hI0 (b := 6) (hv783)
              have x786 := rX.e hI0 (b := 3) (hv547)
              have lf := ln751 (by omega)
              exact ⟨_, rfl, hI746, hF750, rfl, ⟨(TKX.c hT (((hF747.2.1 175 (by decide)).trans (hF539.2.1 175 (by decide)))) (((hF747.1 174 1 (by decide)).trans (hF539.1 174 1 (by decide)))) (((hF747.1 176 3 (by decide)).trans (hF539.1 176 3 (by decide)))) (((hF747.1 176 4 (by decide)).trans (hF539.1 176 4 (by decide)))) (((hF747.1 176 5 (by decide)).trans (hF539.1 176 5 (by decide))))), (PRG0.fail 1 (rX.c (b := 4) (((hF747.1 176 4 (by decide)).trans (hF539.1 176 4 (by decide))))) (fun _ => by omega) (fun _ => by omega) (by omega)).le (by omega), PAO.leafF (TKX.some hT).choose_spec (by omega) (by omega) (fun _ => by omega) (fun _ => by omega) (by omega)⟩⟩
            · have c777_ : v776.toInt = (-1) := en_i_ne_f c777
              refine At.enter rfl ?_
              refine r_aload_n rfl ?_
              refine r_aload_n rfl ?_
              obtain ⟨v787, hv787⟩ : ∃ v, gI g0 176 4 = v := ⟨_, rfl⟩
              have rv787 := RgF.at hI0.2.1 (p := 176) (b := 4) rfl
              rw [hv787] at rv787
              dsimp only at rv787
              refine q_getI (Sh.int hI746.1 kx_176 rfl) v787 (((hF747.1 176 4 (by decide)).trans (hF539.1 176 4 (by decide))).trans hv787) ?_
              refine q_putI (Sh.int hI746.1 kx_176 rfl) rfl ?_
              have hI788 := HI.wI0 hI746 kx_176 rfl (p := 176) (b := 2) (v := v787) rfl
              have hF789 := Fr.wI (p := 176) (b := 2) (v := v787) hF750 rfl
              refine Ar.fall 16 rfl ?_
              refine At.enter rfl ?_
              refine q_vret ?_
              refine At.enter rfl ?_
              refine r_vret ?_
              have x790 := rX.e hI788 (b := 2) ((gI_sI_eq hI746.1 kx_176 rfl _))
              have x791 := rX.e hI0 (b := 2) (hv776)
              have x792 := rX.e hI788 (b := 4) ((((gI_sI_ne (by decide)).trans ((hF747.1 176 4 (by decide)).trans (hF539.1 176 4 (by decide)))).trans hv787))
              have x793 := rX.e hI0 (b := 4) (hv787)
              obtain ⟨v794, hv794⟩ : ∃ v, gI g0 176 6 = v := ⟨_, rfl⟩
              have tv794 := congrArg Int32.toInt hv794
              have x795 := rX.e hI788 (b := 6) ((((gI_sI_ne (by decide)).trans ((hF747.1 176 6 (by decide)).trans (hF539.1 176 6 (by decide)))).trans hv794))
              have x796 := rX.e hI0 (b := 6) (hv794)
              have x797 := rX.e hI0 (b := 3) (hv547)
              have lf := ln751 (by omega)
              exact ⟨_, rfl, hI788, hF789, rfl, ⟨(TKX.c hT (((gA_sI).trans ((hF747.2.1 175 (by decide)).trans (hF539.2.1 175 (by decide))))) (((gI_sI_ne (by decide)).trans ((hF747.1 174 1 (by decide)).trans (hF539.1 174 1 (by decide))))) (((gI_sI_ne (by decide)).trans ((hF747.1 176 3 (by decide)).trans (hF539.1 176 3 (by decide))))) (((gI_sI_ne (by decide)).trans ((hF747.1 176 4 (by decide)).trans (hF539.1 176 4 (by decide))))) (((gI_sI_ne (by decide)).trans ((hF747.1 176 5 (by decide)).trans (hF539.1 176 5 (by decide)))))), (PRG0.fail 1 (rX.c (b := 4) (((gI_sI_ne (by decide)).trans ((hF747.1 176 4 (by decide)).trans (hF539.1 176 4 (by decide)))))) (fun _ => by omega) (fun _ => by omega) (by omega)).le (by omega), PAO.leafF (TKX.some hT).choose_spec (by omega) (by omega) (fun _ => by omega) (fun _ => by omega) (by omega)⟩⟩
          · have c775_ : v748.toInt ≤ 1000 := en_i_gt_f c775
            refine At.enter rfl ?_
            refine r_aload_n rfl ?_
            obtain ⟨v798, hv798⟩ : ∃ v, gI g0 176 6 = v := ⟨_, rfl⟩
            refine q_getI (Sh.int hI746.1 kx_176 rfl) v798 (((hF747.1 176 6 (by decide)).trans (hF539.1 176 6 (by decide))).trans hv798) ?_
            refine r_bipush 50 rfl ?_
            refine r_ics 92 rfl (fun c799 => ?_) (fun c799 => ?_)
            · have c799_ : v798.toInt < 50 := en_i_lt_t c799
              refine At.enter rfl ?_
              refine r_aload_n rfl ?_
              refine r_dup rfl ?_
              refine q_getI (Sh.int hI746.1 kx_176 rfl) v798 (((hF747.1 176 6 (by decide)).trans (hF539.1 176 6 (by decide))).trans hv798) ?_
              refine r_iconst 1 rfl ?_
              have bv800 := q_bnd v798
              refine q_iadd (v798.toInt + 1) rfl (by omega) (fun v801 hv801 => ?_)
              refine q_putI (Sh.int hI746.1 kx_176 rfl) rfl ?_
              have hI802 := HI.wI0 hI746 kx_176 rfl (p := 176) (b := 6) (v := v801) rfl
              have hF803 := Fr.wI (p := 176) (b := 6) (v := v801) hF750 rfl
              refine r_aload_n rfl ?_
              refine q_getR (Sh.ref hI802.1 kx_176 rfl) ?_
              refine r_iload_n rfl ?_
              refine r_iload_n rfl ?_
              refine r_callV 116 rfl [.ref 177, .int 0, .int v748] [] (Nat.le_of_ble_eq_true rfl) rfl (zT_X4_add_177 _ hI802 0 v748) ?_
              rintro _ _ ⟨g804, rfl, hI805, hF806, v807, rfl, hr808⟩
              refine At.sti ?_
              have hF809 := Fr.tr hF803 hF806 rfl rfl
              refine At.enter rfl ?_
              refine r_pop rfl ?_
              refine r_aload_n rfl ?_
              refine r_callV 121 rfl [.ref 176] [] (Nat.le_of_ble_eq_true rfl) rfl (zT_X5_step_176 _ hI805 (TKX.c hT (((hF806.2.1 175 (by decide)).trans ((gA_sI).trans ((hF747.2.1 175 (by decide)).trans (hF539.2.1 175 (by decide)))))) (((hF806.1 174 1 (by decide)).trans ((gI_sI_ne (by decide)).trans ((hF747.1 174 1 (by decide)).trans (hF539.1 174 1 (by decide)))))) (((hF806.1 176 3 (by decide)).trans ((gI_sI_ne (by decide)).trans ((hF747.1 176 3 (by decide)).trans (hF539.1 176 3 (by decide)))))) (((hF806.1 176 4 (by decide)).trans ((gI_sI_ne (by decide)).trans ((hF747.1 176 4 (by decide)).trans (hF539.1 176 4 (by decide)))))) (((hF806.1 176 5 (by decide)).trans ((gI_sI_ne (by decide)).trans ((hF747.1 176 5 (by decide)).trans (hF539.1 176 5 (by decide))))))).1 (TKX.c hT (((hF806.2.1 175 (by decide)).trans ((gA_sI).trans ((hF747.2.1 175 (by decide)).trans (hF539.2.1 175 (by decide)))))) (((hF806.1 174 1 (by decide)).trans ((gI_sI_ne (by decide)).trans ((hF747.1 174 1 (by decide)).trans (hF539.1 174 1 (by decide)))))) (((hF806.1 176 3 (by decide)).trans ((gI_sI_ne (by decide)).trans ((hF747.1 176 3 (by decide)).trans (hF539.1 176 3 (by decide)))))) (((hF806.1 176 4 (by decide)).trans ((gI_sI_ne (by decide)).trans ((hF747.1 176 4 (by decide)).trans (hF539.1 176 4 (by decide)))))) (((hF806.1 176 5 (by decide)).trans ((gI_sI_ne (by decide)).trans ((hF747.1 176 5 (by decide)).trans (hF539.1 176 5 (by decide))))))).2.1.le.2.1) ?_
              rintro _ _ ⟨g810, rfl, hI811, hF812, rfl, hr814⟩
              refine At.stn ?_
              have hF815 := Fr.tr hF809 hF812 rfl rfl
              have tok816_ := hr814.2
              rw [TX.c (((hF806.2.1 175 (by decide)).trans ((gA_sI).trans ((hF747.2.1 175 (by decide)).trans (hF539.2.1 175 (by decide)))))), nX.c (((hF806.1 174 1 (by decide)).trans ((gI_sI_ne (by decide)).trans ((hF747.1 174 1 (by decide)).trans (hF539.1 174 1 (by decide)))))), rX.c (b := 5) (((hF806.1 176 5 (by decide)).trans ((gI_sI_ne (by decide)).trans ((hF747.1 176 5 (by decide)).trans (hF539.1 176 5 (by decide))))))] at tok816_
              have tok816 := TKX.tok hT tok816_
              have hT817 := hr814.1
              obtain ⟨v818, hv818⟩ : ∃ v, gI g0 176 4 = v := ⟨_, rfl⟩
              have rv818 := RgF.at hI0.2.1 (p := 176) (b := 4) rfl
              rw [hv818] at rv818
              dsimp only at rv818
              have tv818 := congrArg Int32.toInt hv818
              have x819 := rX.e hI805 (b := 4) ((((hF806.1 176 4 (by decide)).trans ((gI_sI_ne (by decide)).trans ((hF747.1 176 4 (by decide)).trans (hF539.1 176 4 (by decide))))).trans hv818))
              obtain ⟨v820, hv820⟩ : ∃ v, gI g810 176 4 = v := ⟨_, rfl⟩
              have rv820 := RgF.at hI811.2.1 (p := 176) (b := 4) rfl
              rw [hv820] at rv820
              dsimp only at rv820
              have tv820 := congrArg Int32.toInt hv820
              have x821 := rX.e hI811 (b := 4) (hv820)
              refine At.enter rfl ?_
              refine r_vret ?_
              obtain ⟨v822, hv822⟩ : ∃ v, gI g0 176 2 = v := ⟨_, rfl⟩
              have tv822 := congrArg Int32.toInt hv822
              have x823 := rX.e hI811 (b := 2) ((((hF812.1 176 2 (by decide)).trans ((hF806.1 176 2 (by decide)).trans ((gI_sI_ne (by decide)).trans ((hF747.1 176 2 (by decide)).trans (hF539.1 176 2 (by decide)))))).trans hv822))
              have x824 := rX.e hI0 (b := 2) (hv822)
              have x825 := rX.e hI811 (b := 4) (hv820)
              have x826 := rX.e hI0 (b := 4) (hv818)
              have x827 := rX.e hI811 (b := 6) (((hF812.1 176 6 (by decide)).trans ((hF806.1 176 6 (by decide)).trans (gI_sI_eq hI746.1 kx_176 rfl _))))
              have x828 := rX.e hI0 (b := 6) (hv798)
              have x829 := rX.e hI0 (b := 3) (hv547)
              have x830 := rX.e hI811 (b := 2) ((((hF812.1 176 2 (by decide)).trans ((hF806.1 176 2 (by decide)).trans ((gI_sI_ne (by decide)).trans ((hF747.1 176 2 (by decide)).trans (hF539.1 176 2 (by decide)))))).trans hv822))
              have x831 := rX.e hI811 (b := 4) (hv820)
              have x832 := rX.e hI811 (b := 6) (((hF812.1 176 6 (by decide)).trans ((hF806.1 176 6 (by decide)).trans (gI_sI_eq hI746.1 kx_176 rfl _))))
              have lf := ln751 (by omega)
              exact ⟨_, rfl, hI811, hF815, rfl, ⟨hT817, (PRG0.step hT tok816_ (rX.c (b := 2) (((hF812.1 176 2 (by decide)).trans ((hF806.1 176 2 (by decide)).trans ((gI_sI_ne (by decide)).trans ((hF747.1 176 2 (by decide)).trans (hF539.1 176 2 (by decide)))))))) (by omega)).le (by omega), PAO.leaf tok816 (by omega) (by omega) (by omega) (by omega)⟩⟩
            · have c799_ : v798.toInt ≥ 50 := en_i_lt_f c799
              refine At.enter rfl ?_
              refine r_aload_n rfl ?_
              refine q_inlV 96 rfl [.ref 176] [] (Nat.le_of_ble_eq_true rfl) rfl ?_
              refine Ev.mk rfl rfl ⟨Nat.le_of_ble_eq_true rfl, Or.inr (q_rc hI746.1 kx_176 rfl)⟩ ?_
              show At _ none _ _ (0, [(0, .ref 176)], [], (_, _)) _
              refine At.enter rfl ?_
              refine r_aload_n rfl ?_
              obtain ⟨v833, hv833⟩ : ∃ v, gI g0 176 2 = v := ⟨_, rfl⟩
              refine q_getI (Sh.int hI746.1 kx_176 rfl) v833 (((hF747.1 176 2 (by decide)).trans (hF539.1 176 2 (by decide))).trans hv833) ?_
              refine r_iconst (-1) rfl ?_
              refine r_ics 8 rfl (fun c834 => ?_) (fun c834 => ?_)
              · have c834_ : v833.toInt ≠ (-1) := en_i_ne_t c834
                refine At.enter rfl ?_
                refine q_vret ?_
                refine At.enter rfl ?_
                refine r_vret ?_
                have x835 := rX.e hI746 (b := 2) ((((hF747.1 176 2 (by decide)).trans (hF539.1 176 2 (by decide))).trans hv833))
                have x836 := rX.e hI0 (b := 2) (hv833)
                obtain ⟨v837, hv837⟩ : ∃ v, gI g0 176 4 = v := ⟨_, rfl⟩
                have rv837 := RgF.at hI0.2.1 (p := 176) (b := 4) rfl
                rw [hv837] at rv837
                dsimp only at rv837
                have tv837 := congrArg Int32.toInt hv837
                have x838 := rX.e hI746 (b := 4) ((((hF747.1 176 4 (by decide)).trans (hF539.1 176 4 (by decide))).trans hv837))
                have x839 := rX.e hI0 (b := 4) (hv837)
                have x840 := rX.e hI746 (b := 6) ((((hF747.1 176 6 (by decide)).trans (hF539.1 176 6 (by decide))).trans hv798))
                have x841 := rX.e hI0 (b := 6) (hv798)
                have x842 := rX.e hI0 (b := 3) (hv547)
                have lf := ln751 (by omega)
                exact ⟨_, rfl, hI746, hF750, rfl, ⟨(TKX.c hT (((hF747.2.1 175 (by decide)).trans (hF539.2.1 175 (by decide)))) (((hF747.1 174 1 (by decide)).trans (hF539.1 174 1 (by decide)))) (((hF747.1 176 3 (by decide)).trans (hF539.1 176 3 (by decide)))) (((hF747.1 176 4 (by decide)).trans (hF539.1 176 4 (by decide)))) (((hF747.1 176 5 (by decide)).trans (hF539.1 176 5 (by decide))))), (PRG0.fail 1 (rX.c (b := 4) (((hF747.1 176 4 (by decide)).trans (hF539.1 176 4 (by decide))))) (fun _ => by omega) (fun _ => by omega) (by omega)).le (by omega), PAO.leafF (TKX.some hT).choose_spec (by omega) (by omega) (fun _ => by omega) (fun _ => by omega) (by omega)⟩⟩
              · have c834_ : v833.toInt = (-1) := en_i_ne_f c834
                refine At.enter rfl ?_
                refine r_aload_n rfl ?_
                refine r_aload_n rfl ?_
                obtain ⟨v843, hv843⟩ : ∃ v, gI g0 176 4 = v := ⟨_, rfl⟩
                have rv843 := RgF.at hI0.2.1 (p := 176) (b := 4) rfl
                rw [hv843] at rv843
                dsimp only at rv843
                refine q_getI (Sh.int hI746.1 kx_176 rfl) v843 (((hF747.1 176 4 (by decide)).trans (hF539.1 176 4 (by decide))).trans hv843) ?_
                refine q_putI (Sh.int hI746.1 kx_176 rfl) rfl ?_
                have hI844 := HI.wI0 hI746 kx_176 rfl (p := 176) (b := 2) (v := v843) rfl
                have hF845 := Fr.wI (p := 176) (b := 2) (v := v843) hF750 rfl
                refine Ar.fall 16 rfl ?_
                refine At.enter rfl ?_
                refine q_vret ?_
                refine At.enter rfl ?_
                refine r_vret ?_
                have x846 := rX.e hI844 (b := 2) ((gI_sI_eq hI746.1 kx_176 rfl _))
                have x847 := rX.e hI0 (b := 2) (hv833)
                have x848 := rX.e hI844 (b := 4) ((((gI_sI_ne (by decide)).trans ((hF747.1 176 4 (by decide)).trans (hF539.1 176 4 (by decide)))).trans hv843))
                have x849 := rX.e hI0 (b := 4) (hv843)
                have x850 := rX.e hI844 (b := 6) ((((gI_sI_ne (by decide)).trans ((hF747.1 176 6 (by decide)).trans (hF539.1 176 6 (by decide)))).trans hv798))
                have x851 := rX.e hI0 (b := 6) (hv798)
                have x852 := rX.e hI0 (b := 3) (hv547)
                have lf := ln751 (by omega)
                exact ⟨_, rfl, hI844, hF845, rfl, ⟨(TKX.c hT (((gA_sI).trans ((hF747.2.1 175 (by decide)).trans (hF539.2.1 175 (by decide))))) (((gI_sI_ne (by decide)).trans ((hF747.1 174 1 (by decide)).trans (hF539.1 174 1 (by decide))))) (((gI_sI_ne (by decide)).trans ((hF747.1 176 3 (by decide)).trans (hF539.1 176 3 (by decide))))) (((gI_sI_ne (by decide)).trans ((hF747.1 176 4 (by decide)).trans (hF539.1 176 4 (by decide))))) (((gI_sI_ne (by decide)).trans ((hF747.1 176 5 (by decide)).trans (hF539.1 176 5 (by decide)))))), (PRG0.fail 1 (rX.c (b := 4) (((gI_sI_ne (by decide)).trans ((hF747.1 176 4 (by decide)).trans (hF539.1 176 4 (by decide)))))) (fun _ => by omega) (fun _ => by omega) (by omega)).le (by omega), PAO.leafF (TKX.some hT).choose_spec (by omega) (by omega) (fun _ => by omega) (fun _ => by omega) (by omega)⟩⟩
  · have c545_ : v540.toInt ≠ 0 := en_k_eq_f c545
    have i853 := BL.yes hb544 (by omega)
    refine At.enter rfl ?_
    refine r_aload_n rfl ?_
    refine r_iload_n rfl ?_
    refine q_inlV 14 rfl [.ref 176, .int a1] [] (Nat.le_of_ble_eq_true rfl) rfl ?_
    refine Ev.mk rfl rfl ⟨Nat.le_of_ble_eq_true rfl, Or.inr (q_rc hI538.1 kx_176 rfl)⟩ ?_
    show At _ none _ _ (0, [(0, .ref 176), (1, .int a1)], [], (_, _)) _
    refine At.enter rfl ?_
    refine r_iload_n rfl ?_
    refine r_bipush 8 rfl ?_
    refine r_ics 6 rfl (fun c854 => ?_) (fun c854 => ?_)
    · have c854_ : a1.toInt < 8 := en_i_lt_t c854
      refine At.enter rfl ?_
      refine r_aload_n rfl ?_
      refine r_callV 17 rfl [.ref 176] [] (Nat.le_of_ble_eq_true rfl) rfl (zT_X5_step_176 _ hI538 (TKX.c hT ((hF539.2.1 175 (by decide))) ((hF539.1 174 1 (by decide))) ((hF539.1 176 3 (by decide))) ((hF539.1 176 4 (by decide))) ((hF539.1 176 5 (by decide)))).1 (TKX.c hT ((hF539.2.1 175 (by decide))) ((hF539.1 174 1 (by decide))) ((hF539.1 176 3 (by decide))) ((hF539.1 176 4 (by decide))) ((hF539.1 176 5 (by decide)))).2.1.le.2.1) ?_
      rintro _ _ ⟨g855, rfl, hI856, hF857, rfl, hr859⟩
      refine At.stn ?_
      have hF860 := Fr.tr hF542 hF857 rfl rfl
      have tok861_ := hr859.2
      rw [TX.c ((hF539.2.1 175 (by decide))), nX.c ((hF539.1 174 1 (by decide))), rX.c (b := 5) ((hF539.1 176 5 (by decide)))] at tok861_
      have tok861 := TKX.tok hT tok861_
      have hT862 := hr859.1
      obtain ⟨v863, hv863⟩ : ∃ v, gI g0 176 4 = v := ⟨_, rfl⟩
      have rv863 := RgF.at hI0.2.1 (p := 176) (b := 4) rfl
      rw [hv863] at rv863
      dsimp only at rv863
      have tv863 := congrArg Int32.toInt hv863
      have x864 := rX.e hI538 (b := 4) (((hF539.1 176 4 (by decide)).trans hv863))
      obtain ⟨v865, hv865⟩ : ∃ v, gI g855 176 4 = v := ⟨_, rfl⟩
      have rv865 := RgF.at hI856.2.1 (p := 176) (b := 4) rfl
      rw [hv865] at rv865
      dsimp only at rv865
      have tv865 := congrArg Int32.toInt hv865
      have x866 := rX.e hI856 (b := 4) (hv865)
      refine At.enter rfl ?_
      refine q_vret ?_
      refine At.enter rfl ?_
      refine r_aload_n rfl ?_
      obtain ⟨v867, hv867⟩ : ∃ v, gI g0 176 2 = v := ⟨_, rfl⟩
      refine q_getI (Sh.int hI856.1 kx_176 rfl) v867 (((hF857.1 176 2 (by decide)).trans (hF539.1 176 2 (by decide))).trans hv867) ?_
      refine r_iconst (-1) rfl ?_
      refine r_ics 22 rfl (fun c868 => ?_) (fun c868 => ?_)
      · have c868_ : v867.toInt ≠ (-1) := en_i_ne_t c868
        refine At.enter rfl ?_
        refine r_vret ?_
        have x869 := rX.e hI856 (b := 2) ((((hF857.1 176 2 (by decide)).trans (hF539.1 176 2 (by decide))).trans hv867))
        have x870 := rX.e hI0 (b := 2) (hv867)
        have x871 := rX.e hI856 (b := 4) (hv865)
        have x872 := rX.e hI0 (b := 4) (hv863)
        obtain ⟨v873, hv873⟩ : ∃ v, gI g0 176 6 = v := ⟨_, rfl⟩
        have tv873 := congrArg Int32.toInt hv873
        have x874 := rX.e hI856 (b := 6) ((((hF857.1 176 6 (by decide)).trans (hF539.1 176 6 (by decide))).trans hv873))
        have x875 := rX.e hI0 (b := 6) (hv873)
        obtain ⟨v876, hv876⟩ : ∃ v, gI g0 176 3 = v := ⟨_, rfl⟩
        have tv876 := congrArg Int32.toInt hv876
        have x877 := rX.e hI0 (b := 3) (hv876)
        have x878 := rX.e hI856 (b := 2) ((((hF857.1 176 2 (by decide)).trans (hF539.1 176 2 (by decide))).trans hv867))
        have x879 := rX.e hI856 (b := 4) (hv865)
        have x880 := rX.e hI856 (b := 6) ((((hF857.1 176 6 (by decide)).trans (hF539.1 176 6 (by decide))).trans hv873))
        exact ⟨_, rfl, hI856, hF860, rfl, ⟨hT862, (PRG0.step hT tok861_ (rX.c (b := 2) (((hF857.1 176 2 (by decide)).trans (hF539.1 176 2 (by decide))))) (by omega)).le (by omega), PAO.bad tok861 (rX.c (b := 2) (((hF857.1 176 2 (by decide)).trans (hF539.1 176 2 (by decide))))) (by omega) rfl⟩⟩
      · have c868_ : v867.toInt = (-1) := en_i_ne_f c868
        refine At.enter rfl ?_
        refine r_aload_n rfl ?_
        refine r_iconst 2 rfl ?_
        refine r_iload_n rfl ?_
        refine r_iconst 1 rfl ?_
        refine q_iadd (a1.toInt + 1) rfl (by omega) (fun v881 hv881 => ?_)
        have zv882 : (2 : Int32).toInt = 2 := rfl
        refine r_callV 30 rfl [.ref 176, .int 2, .int v881] [] (Nat.le_of_ble_eq_true rfl) rfl (IHJ _ (by omega) hI856 2 (by decide) v881 (by omega) (by omega) hT862) ?_
        rintro _ _ ⟨g883, rfl, hI884, hF885, rfl, hr887⟩
        refine At.stn ?_
        have hF888 := Fr.tr hF860 hF885 rfl rfl
        have zv889 : (2 : Int32).toInt = 2 := rfl
        have x894 := rX.e hI856 (b := 2) ((((hF857.1 176 2 (by decide)).trans (hF539.1 176 2 (by decide))).trans hv867))
        have x895 := rX.e hI856 (b := 4) (hv865)
        obtain ⟨o890, o891, o892, o893⟩ := hr887
        have o896 := OPD.tc o892 (((hF857.2.1 175 (by decide)).trans (hF539.2.1 175 (by decide)))) (((hF857.1 174 1 (by decide)).trans (hF539.1 174 1 (by decide))))
        obtain ⟨v897, hv897⟩ : ∃ v, gI g883 176 2 = v := ⟨_, rfl⟩
        have tv897 := congrArg Int32.toInt hv897
        have x898 := rX.e hI884 (b := 2) (hv897)
        obtain ⟨v899, hv899⟩ : ∃ v, gI g883 176 4 = v := ⟨_, rfl⟩
        have rv899 := RgF.at hI884.2.1 (p := 176) (b := 4) rfl
        rw [hv899] at rv899
        dsimp only at rv899
        have tv899 := congrArg Int32.toInt hv899
        have x900 := rX.e hI884 (b := 4) (hv899)
        refine At.enter rfl ?_
        refine r_aload_n rfl ?_
        refine r_bipush 93 rfl ?_
        refine q_inlV 36 rfl [.ref 176, .int 93] [] (Nat.le_of_ble_eq_true rfl) rfl ?_
        refine Ev.mk rfl rfl ⟨Nat.le_of_ble_eq_true rfl, Or.inr (q_rc hI884.1 kx_176 rfl)⟩ ?_
        show At _ none _ _ (0, [(0, .ref 176), (1, .int 93)], [], (_, _)) _
        refine At.enter rfl ?_
        refine r_aload_n rfl ?_
        refine r_iload_n rfl ?_
        refine r_callV 5 rfl [.ref 176, .int 93] [] (Nat.le_of_ble_eq_true rfl) rfl (zT_X5_isSingle_176 _ hI884 93 (by decide)) ?_
        rintro _ _ ⟨g901, rfl, hI902, hF903, v904, rfl, hr905⟩
        refine At.sti ?_
        have hF906 := Fr.tr hF888 hF903 rfl rfl
        have zv907 : (93 : Int32).toInt = 93 := rfl
        have hb908 : BL (CDX g883 = 6) v904.toInt := ISX.code (c := 6) hr905.2 o890 (isSC_d (by omega)) (by decide)
        refine At.enter rfl ?_
        refine r_ifs 8 rfl (fun c909 => ?_) (fun c909 => ?_)
        · have c909_ : v904.toInt = 0 := en_k_eq_t c909
          have i910 := BL.no hb908 (by omega)
          refine At.enter rfl ?_
          refine r_aload_n rfl ?_
          refine q_inlV 19 rfl [.ref 176] [] (Nat.le_of_ble_eq_true rfl) rfl ?_
          refine Ev.mk rfl rfl ⟨Nat.le_of_ble_eq_true rfl, Or.inr (q_rc hI902.1 kx_176 rfl)⟩ ?_
          show At _ none _ _ (0, [(0, .ref 176)], [], (_, _)) _
          refine At.enter rfl ?_
          refine r_aload_n rfl ?_
          refine q_getI (Sh.int hI902.1 kx_176 rfl) v897 ((hF903.1 176 2 (by decide)).trans hv897) ?_
          refine r_iconst (-1) rfl ?_
          refine r_ics 8 rfl (fun c911 => ?_) (fun c911 => ?_)
          · have c911_ : v897.toInt ≠ (-1) := en_i_ne_t c911
            refine At.enter rfl ?_
            refine q_vret ?_
            refine At.enter rfl ?_
            refine q_vret ?_
            refine At.enter rfl ?_
            refine r_vret ?_
            have x912 := rX.e hI902 (b := 2) (((hF903.1 176 2 (by decide)).trans hv897))
            have x913 := rX.e hI0 (b := 2) (hv867)
            have x914 := rX.e hI902 (b := 4) (((hF903.1 176 4 (by decide)).trans hv899))
            have x915 := rX.e hI0 (b := 4) (hv863)
            obtain ⟨v916, hv916⟩ : ∃ v, gI g883 176 6 = v := ⟨_, rfl⟩
            have tv916 := congrArg Int32.toInt hv916
            have x917 := rX.e hI902 (b := 6) (((hF903.1 176 6 (by decide)).trans hv916))
            obtain ⟨v918, hv918⟩ : ∃ v, gI g0 176 6 = v := ⟨_, rfl⟩
            have tv918 := congrArg Int32.toInt hv918
            have x919 := rX.e hI0 (b := 6) (hv918)
            obtain ⟨v920, hv920⟩ : ∃ v, gI g0 176 3 = v := ⟨_, rfl⟩
            have tv920 := congrArg Int32.toInt hv920
            have x921 := rX.e hI0 (b := 3) (hv920)
            have x922 := rX.e hI856 (b := 2) ((((hF857.1 176 2 (by decide)).trans (hF539.1 176 2 (by decide))).trans hv867))
            have x923 := rX.e hI856 (b := 4) (hv865)
            have x924 := rX.e hI856 (b := 6) ((((hF857.1 176 6 (by decide)).trans (hF539.1 176 6 (by decide))).trans hv918))
            have x925 := rX.e hI884 (b := 2) (hv897)
            have x926 := rX.e hI884 (b := 4) (hv899)
            have x927 := rX.e hI884 (b := 6) (hv916)
            exact ⟨_, rfl, hI902, hF906, rfl, ⟨(TKX.c o890 ((hF903.2.1 175 (by decide))) ((hF903.1 174 1 (by decide))) ((hF903.1 176 3 (by decide))) ((hF903.1 176 4 (by decide))) ((hF903.1 176 5 (by decide)))), ((PRG0.tr ((PRG0.tr (PRG0.step hT tok861_ (rX.c (b := 2) (((hF857.1 176 2 (by decide)).trans (hF539.1 176 2 (by decide))))) (by omega)) (o891))) (PRG0.fail 1 (rX.c (b := 4) ((hF903.1 176 4 (by decide)))) (fun _ => by omega) (fun _ => by omega) (by omega)))).le (by omega), PAO.sqF tok861 (by omega) (by omega) (rX.c (b := 2) (((hF857.1 176 2 (by decide)).trans (hF539.1 176 2 (by decide))))) (rX.c (b := 6) (((hF857.1 176 6 (by decide)).trans (hF539.1 176 6 (by decide))))) (OPD.cast o896 rfl (by omega)) (TKX.someC o890 (((hF885.2.1 175 (by decide)).trans ((hF857.2.1 175 (by decide)).trans (hF539.2.1 175 (by decide))))) (((hF885.1 174 1 (by decide)).trans ((hF857.1 174 1 (by decide)).trans (hF539.1 174 1 (by decide)))))).choose_spec o893 (by omega) (fun _ => by omega) (fun _ => by omega) (by omega)⟩⟩
          · have c911_ : v897.toInt = (-1) := en_i_ne_f c911
            refine At.enter rfl ?_
            refine r_aload_n rfl ?_
            refine r_aload_n rfl ?_
            refine q_getI (Sh.int hI902.1 kx_176 rfl) v899 ((hF903.1 176 4 (by decide)).trans hv899) ?_
            refine q_putI (Sh.int hI902.1 kx_176 rfl) rfl ?_
            have hI928 := HI.wI0 hI902 kx_176 rfl (p := 176) (b := 2) (v := v899) rfl
            have hF929 := Fr.wI (p := 176) (b := 2) (v := v899) hF906 rfl
            refine Ar.fall 16 rfl ?_
            refine At.enter rfl ?_
            refine q_vret ?_
            refine At.enter rfl ?_
            refine q_vret ?_
            refine At.enter rfl ?_
            refine r_vret ?_
            have x930 := rX.e hI928 (b := 2) ((gI_sI_eq hI902.1 kx_176 rfl _))
            have x931 := rX.e hI0 (b := 2) (hv867)
            have x932 := rX.e hI928 (b := 4) ((((gI_sI_ne (by decide)).trans (hF903.1 176 4 (by decide))).trans hv899))
            have x933 := rX.e hI0 (b := 4) (hv863)
            obtain ⟨v934, hv934⟩ : ∃ v, gI g883 176 6 = v := ⟨_, rfl⟩
            have tv934 := congrArg Int32.toInt hv934
            have x935 := rX.e hI928 (b := 6) ((((gI_sI_ne (by decide)).trans (hF903.1 176 6 (by decide))).trans hv934))
            obtain ⟨v936, hv936⟩ : ∃ v, gI g0 176 6 = v := ⟨_, rfl⟩
            have tv936 := congrArg Int32.toInt hv936
            have x937 := rX.e hI0 (b := 6) (hv936)
            obtain ⟨v938, hv938⟩ : ∃ v, gI g0 176 3 = v := ⟨_, rfl⟩
            have tv938 := congrArg Int32.toInt hv938
            have x939 := rX.e hI0 (b := 3) (hv938)
            have x940 := rX.e hI856 (b := 2) ((((hF857.1 176 2 (by decide)).trans (hF539.1 176 2 (by decide))).trans hv867))
            have x941 := rX.e hI856 (b := 4) (hv865)
            have x942 := rX.e hI856 (b := 6) ((((hF857.1 176 6 (by decide)).trans (hF539.1 176 6 (by decide))).trans hv936))
            have x943 := rX.e hI884 (b := 2) (hv897)
            have x944 := rX.e hI884 (b := 4) (hv899)
            have x945 := rX.e hI884 (b := 6) (hv934)
            exact ⟨_, rfl, hI928, hF929, rfl, ⟨(TKX.c o890 (((gA_sI).trans (hF903.2.1 175 (by decide)))) (((gI_sI_ne (by decide)).trans (hF903.1 174 1 (by decide)))) (((gI_sI_ne (by decide)).trans (hF903.1 176 3 (by decide)))) (((gI_sI_ne (by decide)).trans (hF903.1 176 4 (by decide)))) (((gI_sI_ne (by decide)).trans (hF903.1 176 5 (by decide))))), ((PRG0.tr ((PRG0.tr (PRG0.step hT tok861_ (rX.c (b := 2) (((hF857.1 176 2 (by decide)).trans (hF539.1 176 2 (by decide))))) (by omega)) (o891))) (PRG0.fail 1 (rX.c (b := 4) (((gI_sI_ne (by decide)).trans (hF903.1 176 4 (by decide))))) (fun _ => by omega) (fun _ => by omega) (by omega)))).le (by omega), PAO.sqF tok861 (by omega) (by omega) (rX.c (b := 2) (((hF857.1 176 2 (by decide)).trans (hF539.1 176 2 (by decide))))) (rX.c (b := 6) (((hF857.1 176 6 (by decide)).trans (hF539.1 176 6 (by decide))))) (OPD.cast o896 rfl (by omega)) (TKX.someC o890 (((hF885.2.1 175 (by decide)).trans ((hF857.2.1 175 (by decide)).trans (hF539.2.1 175 (by decide))))) (((hF885.1 174 1 (by decide)).trans ((hF857.1 174 1 (by decide)).trans (hF539.1 174 1 (by decide)))))).choose_spec o893 (by omega) (fun _ => by omega) (fun _ => by omega) (by omega)⟩⟩
        · have c909_ : v904.toInt ≠ 0 := en_k_eq_f c909
          have i946 := BL.yes hb908 (by omega)
          refine At.enter rfl ?_
          refine r_aload_n rfl ?_
          refine r_callV 12 rfl [.ref 176] [] (Nat.le_of_ble_eq_true rfl) rfl (zT_X5_step_176 _ hI902 (TKX.c o890 ((hF903.2.1 175 (by decide))) ((hF903.1 174 1 (by decide))) ((hF903.1 176 3 (by decide))) ((hF903.1 176 4 (by decide))) ((hF903.1 176 5 (by decide)))).1 (TKX.c o890 ((hF903.2.1 175 (by decide))) ((hF903.1 174 1 (by decide))) ((hF903.1 176 3 (by decide))) ((hF903.1 176 4 (by decide))) ((hF903.1 176 5 (by decide)))).2.1.le.2.1) ?_
          rintro _ _ ⟨g947, rfl, hI948, hF949, rfl, hr951⟩
          refine At.stn ?_
          have hF952 := Fr.tr hF906 hF949 rfl rfl
          have tok953_ := hr951.2
          rw [TX.c ((hF903.2.1 175 (by decide))), nX.c ((hF903.1 174 1 (by decide))), rX.c (b := 5) ((hF903.1 176 5 (by decide)))] at tok953_
          have tok953 := TKX.tok o890 tok953_
          rw [TX.c (((hF885.2.1 175 (by decide)).trans ((hF857.2.1 175 (by decide)).trans (hF539.2.1 175 (by decide))))), nX.c (((hF885.1 174 1 (by decide)).trans ((hF857.1 174 1 (by decide)).trans (hF539.1 174 1 (by decide)))))] at tok953
          have hT954 := hr951.1
          have x955 := rX.e hI902 (b := 4) (((hF903.1 176 4 (by decide)).trans hv899))
          obtain ⟨v956, hv956⟩ : ∃ v, gI g947 176 4 = v := ⟨_, rfl⟩
          have rv956 := RgF.at hI948.2.1 (p := 176) (b := 4) rfl
          rw [hv956] at rv956
          dsimp only at rv956
          have tv956 := congrArg Int32.toInt hv956
          have x957 := rX.e hI948 (b := 4) (hv956)
          refine At.enter rfl ?_
          refine r_goto ?_
          refine At.enter rfl ?_
          refine q_vret ?_
          refine At.enter rfl ?_
          refine r_vret ?_
          have x958 := rX.e hI948 (b := 2) ((((hF949.1 176 2 (by decide)).trans (hF903.1 176 2 (by decide))).trans hv897))
          have x959 := rX.e hI0 (b := 2) (hv867)
          have x960 := rX.e hI948 (b := 4) (hv956)
          have x961 := rX.e hI0 (b := 4) (hv863)
          obtain ⟨v962, hv962⟩ : ∃ v, gI g883 176 6 = v := ⟨_, rfl⟩
          have tv962 := congrArg Int32.toInt hv962
          have x963 := rX.e hI948 (b := 6) ((((hF949.1 176 6 (by decide)).trans (hF903.1 176 6 (by decide))).trans hv962))
          obtain ⟨v964, hv964⟩ : ∃ v, gI g0 176 6 = v := ⟨_, rfl⟩
          have tv964 := congrArg Int32.toInt hv964
          have x965 := rX.e hI0 (b := 6) (hv964)
          obtain ⟨v966, hv966⟩ : ∃ v, gI g0 176 3 = v := ⟨_, rfl⟩
          have tv966 := congrArg Int32.toInt hv966
          have x967 := rX.e hI0 (b := 3) (hv966)
          have x968 := rX.e hI856 (b := 2) ((((hF857.1 176 2 (by decide)).trans (hF539.1 176 2 (by decide))).trans hv867))
          have x969 := rX.e hI856 (b := 4) (hv865)
          have x970 := rX.e hI856 (b := 6) ((((hF857.1 176 6 (by decide)).trans (hF539.1 176 6 (by decide))).trans hv964))
          have x971 := rX.e hI884 (b := 2) (hv897)
          have x972 := rX.e hI884 (b := 4) (hv899)
          have x973 := rX.e hI884 (b := 6) (hv962)
          have x974 := rX.e hI948 (b := 2) ((((hF949.1 176 2 (by decide)).trans (hF903.1 176 2 (by decide))).trans hv897))
          have x975 := rX.e hI948 (b := 4) (hv956)
          have x976 := rX.e hI948 (b := 6) ((((hF949.1 176 6 (by decide)).trans (hF903.1 176 6 (by decide))).trans hv962))
          exact ⟨_, rfl, hI948, hF952, rfl, ⟨hT954, ((PRG0.tr ((PRG0.tr (PRG0.step hT tok861_ (rX.c (b := 2) (((hF857.1 176 2 (by decide)).trans (hF539.1 176 2 (by decide))))) (by omega)) (o891))) (PRG0.step o890 tok953_ (rX.c (b := 2) (((hF949.1 176 2 (by decide)).trans (hF903.1 176 2 (by decide))))) (by omega)))).le (by omega), PAO.sq tok861 (by omega) (by omega) (rX.c (b := 2) (((hF857.1 176 2 (by decide)).trans (hF539.1 176 2 (by decide))))) (rX.c (b := 6) (((hF857.1 176 6 (by decide)).trans (hF539.1 176 6 (by decide))))) (OPD.cast o896 rfl (by omega)) tok953 (by omega) (rX.c (b := 2) (((hF949.1 176 2 (by decide)).trans (hF903.1 176 2 (by decide))))) (rX.c (b := 6) (((hF949.1 176 6 (by decide)).trans (hF903.1 176 6 (by decide)))))⟩⟩
    · have c854_ : a1.toInt ≥ 8 := en_i_lt_f c854
      refine At.enter rfl ?_
      refine r_aload_n rfl ?_
      refine q_inlV 10 rfl [.ref 176] [] (Nat.le_of_ble_eq_true rfl) rfl ?_
      refine Ev.mk rfl rfl ⟨Nat.le_of_ble_eq_true rfl, Or.inr (q_rc hI538.1 kx_176 rfl)⟩ ?_
      show At _ none _ _ (0, [(0, .ref 176)], [], (_, _)) _
      refine At.enter rfl ?_
      refine r_aload_n rfl ?_
      obtain ⟨v977, hv977⟩ : ∃ v, gI g0 176 2 = v := ⟨_, rfl⟩
      refine q_getI (Sh.int hI538.1 kx_176 rfl) v977 ((hF539.1 176 2 (by decide)).trans hv977) ?_
      refine r_iconst (-1) rfl ?_
      refine r_ics 8 rfl (fun c978 => ?_) (fun c978 => ?_)
      · have c978_ : v977.toInt ≠ (-1) := en_i_ne_t c978
        refine At.enter rfl ?_
        refine q_vret ?_
        refine At.enter rfl ?_
        refine r_goto ?_
        refine At.enter rfl ?_
        refine q_vret ?_
        refine At.enter rfl ?_
        refine r_aload_n rfl ?_
        refine q_getI (Sh.int hI538.1 kx_176 rfl) v977 ((hF539.1 176 2 (by decide)).trans hv977) ?_
        refine r_iconst (-1) rfl ?_
        refine r_ics 22 rfl (fun c979 => ?_) (fun c979 => ?_)
        · have c979_ : v977.toInt ≠ (-1) := en_i_ne_t c979
          refine At.enter rfl ?_
          refine r_vret ?_
          have x980 := rX.e hI538 (b := 2) (((hF539.1 176 2 (by decide)).trans hv977))
          have x981 := rX.e hI0 (b := 2) (hv977)
          obtain ⟨v982, hv982⟩ : ∃ v, gI g0 176 4 = v := ⟨_, rfl⟩
          have rv982 := RgF.at hI0.2.1 (p := 176) (b := 4) rfl
          rw [hv982] at rv982
          dsimp only at rv982
          have tv982 := congrArg Int32.toInt hv982
          have x983 := rX.e hI538 (b := 4) (((hF539.1 176 4 (by decide)).trans hv982))
          have x984 := rX.e hI0 (b := 4) (hv982)
          obtain ⟨v985, hv985⟩ : ∃ v, gI g0 176 6 = v := ⟨_, rfl⟩
          have tv985 := congrArg Int32.toInt hv985
          have x986 := rX.e hI538 (b := 6) (((hF539.1 176 6 (by decide)).trans hv985))
          have x987 := rX.e hI0 (b := 6) (hv985)
          obtain ⟨v988, hv988⟩ : ∃ v, gI g0 176 3 = v := ⟨_, rfl⟩
          have tv988 := congrArg Int32.toInt hv988
          have x989 := rX.e hI0 (b := 3) (hv988)
          exact ⟨_, rfl, hI538, hF542, rfl, ⟨(TKX.c hT ((hF539.2.1 175 (by decide))) ((hF539.1 174 1 (by decide))) ((hF539.1 176 3 (by decide))) ((hF539.1 176 4 (by decide))) ((hF539.1 176 5 (by decide)))), (PRG0.fail 1 (rX.c (b := 4) ((hF539.1 176 4 (by decide)))) (fun _ => by omega) (fun _ => by omega) (by omega)).le (by omega), PAO.deep (TKX.some hT).choose_spec (by omega) (by omega) (fun _ => by omega) (fun _ => by omega) (by omega)⟩⟩
        · have c979_ : v977.toInt = (-1) := en_i_ne_f c979
          refine At.enter rfl ?_
          refine r_aload_n rfl ?_
          refine r_iconst 2 rfl ?_
          refine r_iload_n rfl ?_
          refine r_iconst 1 rfl ?_
          refine q_iadd (a1.toInt + 1) rfl (by omega) (fun v990 hv990 => ?_)
          have zv991 : (2 : Int32).toInt = 2 := rfl
          refine r_callV 30 rfl [.ref 176, .int 2, .int v990] [] (Nat.le_of_ble_eq_true rfl) rfl (IHJ _ (by omega) hI538 2 (by decide) v990 (by omega) (by omega) (TKX.c hT ((hF539.2.1 175 (by decide))) ((hF539.1 174 1 (by decide))) ((hF539.1 176 3 (by decide))) ((hF539.1 176 4 (by decide))) ((hF539.1 176 5 (by decide))))) ?_
          rintro _ _ ⟨g992, rfl, hI993, hF994, rfl, hr996⟩
          refine At.stn ?_
          have hF997 := Fr.tr hF542 hF994 rfl rfl
          have zv998 : (2 : Int32).toInt = 2 := rfl
          have x1003 := rX.e hI538 (b := 2) (((hF539.1 176 2 (by decide)).trans hv977))
          obtain ⟨v1004, hv1004⟩ : ∃ v, gI g0 176 4 = v := ⟨_, rfl⟩
          have rv1004 := RgF.at hI0.2.1 (p := 176) (b := 4) rfl
          rw [hv1004] at rv1004
          dsimp only at rv1004
          have tv1004 := congrArg Int32.toInt hv1004
          have x1005 := rX.e hI538 (b := 4) (((hF539.1 176 4 (by decide)).trans hv1004))
          obtain ⟨o999, o1000, o1001, o1002⟩ := hr996
          have o1006 := OPD.tc o1001 ((hF539.2.1 175 (by decide))) ((hF539.1 174 1 (by decide)))
          rw [rX.c (b := 2) ((hF539.1 176 2 (by decide))), rX.c (b := 4) ((hF539.1 176 4 (by decide)))] at o1000
          have o1007 := OPD.fr o1006 (rX.c (b := 2) ((hF539.1 176 2 (by decide)))) (rX.c (b := 4) ((hF539.1 176 4 (by decide)))) (rX.c (b := 6) ((hF539.1 176 6 (by decide))))
          obtain ⟨v1008, hv1008⟩ : ∃ v, gI g992 176 2 = v := ⟨_, rfl⟩
          have tv1008 := congrArg Int32.toInt hv1008
          have x1009 := rX.e hI993 (b := 2) (hv1008)
          obtain ⟨v1010, hv1010⟩ : ∃ v, gI g992 176 4 = v := ⟨_, rfl⟩
          have rv1010 := RgF.at hI993.2.1 (p := 176) (b := 4) rfl
          rw [hv1010] at rv1010
          dsimp only at rv1010
          have tv1010 := congrArg Int32.toInt hv1010
          have x1011 := rX.e hI993 (b := 4) (hv1010)
          refine At.enter rfl ?_
          refine r_aload_n rfl ?_
          refine r_bipush 93 rfl ?_
          refine q_inlV 36 rfl [.ref 176, .int 93] [] (Nat.le_of_ble_eq_true rfl) rfl ?_
          refine Ev.mk rfl rfl ⟨Nat.le_of_ble_eq_true rfl, Or.inr (q_rc hI993.1 kx_176 rfl)⟩ ?_
          show At _ none _ _ (0, [(0, .ref 176), (1, .int 93)], [], (_, _)) _
          refine At.enter rfl ?_
          refine r_aload_n rfl ?_
          refine r_iload_n rfl ?_
          refine r_callV 5 rfl [.ref 176, .int 93] [] (Nat.le_of_ble_eq_true rfl) rfl (zT_X5_isSingle_176 _ hI993 93 (by decide)) ?_
          rintro _ _ ⟨g1012, rfl, hI1013, hF1014, v1015, rfl, hr1016⟩
          refine At.sti ?_
          have hF1017 := Fr.tr hF997 hF1014 rfl rfl
          have zv1018 : (93 : Int32).toInt = 93 := rfl
          have hb1019 : BL (CDX g992 = 6) v1015.toInt := ISX.code (c := 6) hr1016.2 o999 (isSC_d (by omega)) (by decide)
          refine At.enter rfl ?_
          refine r_ifs 8 rfl (fun c1020 => ?_) (fun c1020 => ?_)
          · have c1020_ : v1015.toInt = 0 := en_k_eq_t c1020
            have i1021 := BL.no hb1019 (by omega)
            refine At.enter rfl ?_
            refine r_aload_n rfl ?_
            refine q_inlV 19 rfl [.ref 176] [] (Nat.le_of_ble_eq_true rfl) rfl ?_
            refine Ev.mk rfl rfl ⟨Nat.le_of_ble_eq_true rfl, Or.inr (q_rc hI1013.1 kx_176 rfl)⟩ ?_
            show At _ none _ _ (0, [(0, .ref 176)], [], (_, _)) _
            refine At.enter rfl ?_
            refine r_aload_n rfl ?_
            refine q_getI (Sh.int hI1013.1 kx_176 rfl) v1008 ((hF1014.1 176 2 (by decide)).trans hv1008) ?_
            refine r_iconst (-1) rfl ?_
            refine r_ics 8 rfl (fun c1022 => ?_) (fun c1022 => ?_)
            · have c1022_ : v1008.toInt ≠ (-1) := en_i_ne_t c1022
              refine At.enter rfl ?_
              refine q_vret ?_
              refine At.enter rfl ?_
              refine q_vret ?_
              refine At.enter rfl ?_
              refine r_vret ?_
              have x1023 := rX.e hI1013 (b := 2) (((hF1014.1 176 2 (by decide)).trans hv1008))
              have x1024 := rX.e hI0 (b := 2) (hv977)
              have x1025 := rX.e hI1013 (b := 4) (((hF1014.1 176 4 (by decide)).trans hv1010))
              have x1026 := rX.e hI0 (b := 4) (hv1004)
              obtain ⟨v1027, hv1027⟩ : ∃ v, gI g992 176 6 = v := ⟨_, rfl⟩
              have tv1027 := congrArg Int32.toInt hv1027
              have x1028 := rX.e hI1013 (b := 6) (((hF1014.1 176 6 (by decide)).trans hv1027))
              obtain ⟨v1029, hv1029⟩ : ∃ v, gI g0 176 6 = v := ⟨_, rfl⟩
              have tv1029 := congrArg Int32.toInt hv1029
              have x1030 := rX.e hI0 (b := 6) (hv1029)
              obtain ⟨v1031, hv1031⟩ : ∃ v, gI g0 176 3 = v := ⟨_, rfl⟩
              have tv1031 := congrArg Int32.toInt hv1031
              have x1032 := rX.e hI0 (b := 3) (hv1031)
              have x1033 := rX.e hI993 (b := 2) (hv1008)
              have x1034 := rX.e hI993 (b := 4) (hv1010)
              have x1035 := rX.e hI993 (b := 6) (hv1027)
              exact ⟨_, rfl, hI1013, hF1017, rfl, (False.elim (by omega))⟩
            · have c1022_ : v1008.toInt = (-1) := en_i_ne_f c1022
              refine At.enter rfl ?_
              refine r_aload_n rfl ?_
              refine r_aload_n rfl ?_
              refine q_getI (Sh.int hI1013.1 kx_176 rfl) v1010 ((hF1014.1 176 4 (by decide)).trans hv1010) ?_
              refine q_putI (Sh.int hI1013.1 kx_176 rfl) rfl ?_
              have hI1036 := HI.wI0 hI1013 kx_176 rfl (p := 176) (b := 2) (v := v1010) rfl
              have hF1037 := Fr.wI (p := 176) (b := 2) (v := v1010) hF1017 rfl
              refine Ar.fall 16 rfl ?_
              refine At.enter rfl ?_
              refine q_vret ?_
              refine At.enter rfl ?_
              refine q_vret ?_
              refine At.enter rfl ?_
              refine r_vret ?_
              have x1038 := rX.e hI1036 (b := 2) ((gI_sI_eq hI1013.1 kx_176 rfl _))
              have x1039 := rX.e hI0 (b := 2) (hv977)
              have x1040 := rX.e hI1036 (b := 4) ((((gI_sI_ne (by decide)).trans (hF1014.1 176 4 (by decide))).trans hv1010))
              have x1041 := rX.e hI0 (b := 4) (hv1004)
              obtain ⟨v1042, hv1042⟩ : ∃ v, gI g992 176 6 = v := ⟨_, rfl⟩
              have tv1042 := congrArg Int32.toInt hv1042
              have x1043 := rX.e hI1036 (b := 6) ((((gI_sI_ne (by decide)).trans (hF1014.1 176 6 (by decide))).trans hv1042))
              obtain ⟨v1044, hv1044⟩ : ∃ v, gI g0 176 6 = v := ⟨_, rfl⟩
              have tv1044 := congrArg Int32.toInt hv1044
              have x1045 := rX.e hI0 (b := 6) (hv1044)
              obtain ⟨v1046, hv1046⟩ : ∃ v, gI g0 176 3 = v := ⟨_, rfl⟩
              have tv1046 := congrArg Int32.toInt hv1046
              have x1047 := rX.e hI0 (b := 3) (hv1046)
              have x1048 := rX.e hI993 (b := 2) (hv1008)
              have x1049 := rX.e hI993 (b := 4) (hv1010)
              have x1050 := rX.e hI993 (b := 6) (hv1042)
              exact ⟨_, rfl, hI1036, hF1037, rfl, (False.elim (by omega))⟩
          · have c1020_ : v1015.toInt ≠ 0 := en_k_eq_f c1020
            have i1051 := BL.yes hb1019 (by omega)
            refine At.enter rfl ?_
            refine r_aload_n rfl ?_
            refine r_callV 12 rfl [.ref 176] [] (Nat.le_of_ble_eq_true rfl) rfl (zT_X5_step_176 _ hI1013 (TKX.c o999 ((hF1014.2.1 175 (by decide))) ((hF1014.1 174 1 (by decide))) ((hF1014.1 176 3 (by decide))) ((hF1014.1 176 4 (by decide))) ((hF1014.1 176 5 (by decide)))).1 (TKX.c o999 ((hF1014.2.1 175 (by decide))) ((hF1014.1 174 1 (by decide))) ((hF1014.1 176 3 (by decide))) ((hF1014.1 176 4 (by decide))) ((hF1014.1 176 5 (by decide)))).2.1.le.2.1) ?_
            rintro _ _ ⟨g1052, rfl, hI1053, hF1054, rfl, hr1056⟩
            refine At.stn ?_
            have hF1057 := Fr.tr hF1017 hF1054 rfl rfl
            have tok1058_ := hr1056.2
            rw [TX.c ((hF1014.2.1 175 (by decide))), nX.c ((hF1014.1 174 1 (by decide))), rX.c (b := 5) ((hF1014.1 176 5 (by decide)))] at tok1058_
            have tok1058 := TKX.tok o999 tok1058_
            rw [TX.c (((hF994.2.1 175 (by decide)).trans (hF539.2.1 175 (by decide)))), nX.c (((hF994.1 174 1 (by decide)).trans (hF539.1 174 1 (by decide))))] at tok1058
            have hT1059 := hr1056.1
            have x1060 := rX.e hI1013 (b := 4) (((hF1014.1 176 4 (by decide)).trans hv1010))
            obtain ⟨v1061, hv1061⟩ : ∃ v, gI g1052 176 4 = v := ⟨_, rfl⟩
            have rv1061 := RgF.at hI1053.2.1 (p := 176) (b := 4) rfl
            rw [hv1061] at rv1061
            dsimp only at rv1061
            have tv1061 := congrArg Int32.toInt hv1061
            have x1062 := rX.e hI1053 (b := 4) (hv1061)
            refine At.enter rfl ?_
            refine r_goto ?_
            refine At.enter rfl ?_
            refine q_vret ?_
            refine At.enter rfl ?_
            refine r_vret ?_
            have x1063 := rX.e hI1053 (b := 2) ((((hF1054.1 176 2 (by decide)).trans (hF1014.1 176 2 (by decide))).trans hv1008))
            have x1064 := rX.e hI0 (b := 2) (hv977)
            have x1065 := rX.e hI1053 (b := 4) (hv1061)
            have x1066 := rX.e hI0 (b := 4) (hv1004)
            obtain ⟨v1067, hv1067⟩ : ∃ v, gI g992 176 6 = v := ⟨_, rfl⟩
            have tv1067 := congrArg Int32.toInt hv1067
            have x1068 := rX.e hI1053 (b := 6) ((((hF1054.1 176 6 (by decide)).trans (hF1014.1 176 6 (by decide))).trans hv1067))
            obtain ⟨v1069, hv1069⟩ : ∃ v, gI g0 176 6 = v := ⟨_, rfl⟩
            have tv1069 := congrArg Int32.toInt hv1069
            have x1070 := rX.e hI0 (b := 6) (hv1069)
            obtain ⟨v1071, hv1071⟩ : ∃ v, gI g0 176 3 = v := ⟨_, rfl⟩
            have tv1071 := congrArg Int32.toInt hv1071
            have x1072 := rX.e hI0 (b := 3) (hv1071)
            have x1073 := rX.e hI993 (b := 2) (hv1008)
            have x1074 := rX.e hI993 (b := 4) (hv1010)
            have x1075 := rX.e hI993 (b := 6) (hv1067)
            have x1076 := rX.e hI1053 (b := 2) ((((hF1054.1 176 2 (by decide)).trans (hF1014.1 176 2 (by decide))).trans hv1008))
            have x1077 := rX.e hI1053 (b := 4) (hv1061)
            have x1078 := rX.e hI1053 (b := 6) ((((hF1054.1 176 6 (by decide)).trans (hF1014.1 176 6 (by decide))).trans hv1067))
            exact ⟨_, rfl, hI1053, hF1057, rfl, (False.elim (by omega))⟩
      · have c978_ : v977.toInt = (-1) := en_i_ne_f c978
        refine At.enter rfl ?_
        refine r_aload_n rfl ?_
        refine r_aload_n rfl ?_
        obtain ⟨v1079, hv1079⟩ : ∃ v, gI g0 176 4 = v := ⟨_, rfl⟩
        have rv1079 := RgF.at hI0.2.1 (p := 176) (b := 4) rfl
        rw [hv1079] at rv1079
        dsimp only at rv1079
        refine q_getI (Sh.int hI538.1 kx_176 rfl) v1079 ((hF539.1 176 4 (by decide)).trans hv1079) ?_
        refine q_putI (Sh.int hI538.1 kx_176 rfl) rfl ?_
        have hI1080 := HI.wI0 hI538 kx_176 rfl (p := 176) (b := 2) (v := v1079) rfl
        have hF1081 := Fr.wI (p := 176) (b := 2) (v := v1079) hF542 rfl
        refine Ar.fall 16 rfl ?_
        refine At.enter rfl ?_
        refine q_vret ?_
        refine At.enter rfl ?_
        refine r_goto ?_
        refine At.enter rfl ?_
        refine q_vret ?_
        refine At.enter rfl ?_
        refine r_aload_n rfl ?_
        refine q_getI (Sh.int hI1080.1 kx_176 rfl) v1079 (gI_sI_eq hI538.1 kx_176 rfl _) ?_
        refine r_iconst (-1) rfl ?_
        refine r_ics 22 rfl (fun c1082 => ?_) (fun c1082 => ?_)
        · have c1082_ : v1079.toInt ≠ (-1) := en_i_ne_t c1082
          refine At.enter rfl ?_
          refine r_vret ?_
          have x1083 := rX.e hI1080 (b := 2) ((gI_sI_eq hI538.1 kx_176 rfl _))
          have x1084 := rX.e hI0 (b := 2) (hv977)
          have x1085 := rX.e hI1080 (b := 4) ((((gI_sI_ne (by decide)).trans (hF539.1 176 4 (by decide))).trans hv1079))
          have x1086 := rX.e hI0 (b := 4) (hv1079)
          obtain ⟨v1087, hv1087⟩ : ∃ v, gI g0 176 6 = v := ⟨_, rfl⟩
          have tv1087 := congrArg Int32.toInt hv1087
          have x1088 := rX.e hI1080 (b := 6) ((((gI_sI_ne (by decide)).trans (hF539.1 176 6 (by decide))).trans hv1087))
          have x1089 := rX.e hI0 (b := 6) (hv1087)
          obtain ⟨v1090, hv1090⟩ : ∃ v, gI g0 176 3 = v := ⟨_, rfl⟩
          have tv1090 := congrArg Int32.toInt hv1090
          have x1091 := rX.e hI0 (b := 3) (hv1090)
          exact ⟨_, rfl, hI1080, hF1081, rfl, ⟨(TKX.c hT (((gA_sI).trans (hF539.2.1 175 (by decide)))) (((gI_sI_ne (by decide)).trans (hF539.1 174 1 (by decide)))) (((gI_sI_ne (by decide)).trans (hF539.1 176 3 (by decide)))) (((gI_sI_ne (by decide)).trans (hF539.1 176 4 (by decide)))) (((gI_sI_ne (by decide)).trans (hF539.1 176 5 (by decide))))), (PRG0.fail 1 (rX.c (b := 4) (((gI_sI_ne (by decide)).trans (hF539.1 176 4 (by decide))))) (fun _ => by omega) (fun _ => by omega) (by omega)).le (by omega), PAO.deep (TKX.some hT).choose_spec (by omega) (by omega) (fun _ => by omega) (fun _ => by omega) (by omega)⟩⟩
        · have c1082_ : v1079.toInt = (-1) := en_i_ne_f c1082
          exfalso; omega

theorem zQ_all : ∀ n, zQJ n ∧ zQP n ∧ zQT n := by
  intro n
  induction n with
  | zero => exact ⟨fun e he N g0 hI a1 h1 a2 h2 hm _ => absurd hm (by omega), fun e he N g0 hI a1 h1 hm _ => absurd hm (by omega), fun e he N g0 hI a1 h1 hm _ => absurd hm (by omega)⟩
  | succ n ih => exact ⟨zS_X5_readJoined_176 n ih.1 ih.2.1 ih.2.2, zS_X5_readPlain_176 n ih.1 ih.2.1 ih.2.2, zS_X5_readPart_176 n ih.1 ih.2.1 ih.2.2⟩
theorem zT_X5_readJoined_176 (d : Nat) {N : Nat} {g0 : List en_E} (hI0 : HI g0) (a1 : Int32) (h_a1 : 0 ≤ a1.toInt ∧ a1.toInt ≤ 3) (a2 : Int32) (h_a2 : 0 ≤ a2.toInt ∧ a2.toInt ≤ 8) (hT : TKX g0) : Ev (d + 420) 65 [.ref 176, .int a1, .int a2] (g0, N) (fun w h' => ∃ g', h' = (g', N) ∧ HI g' ∧ Fr F_rd A_rd g0 g' ∧ w = none ∧ JPX g0 g' a1.toInt a2.toInt) :=
  (zQ_all 100).1 (d + 420) (by omega) hI0 a1 h_a1 a2 h_a2 (by omega) hT

def zF_X5_readClause_176 : List (Nat × Nat) := [(176, 2), (176, 3), (176, 4), (176, 5), (176, 6), (177, 0), (177, 3), (177, 4)]
def zA_X5_readClause_176 : List Nat := [178, 179, 180, 181, 182, 183]
set_option maxRecDepth 100000 in
set_option maxHeartbeats 4000000 in
theorem zT_X5_readClause_176 (d : Nat) {N : Nat} {g0 : List en_E} (hI0 : HI g0) (hT : TKX g0) : Ev (d + 421) 64 [.ref 176] (g0, N) (fun w h' => ∃ g', h' = (g', N) ∧ HI g' ∧ Fr zF_X5_readClause_176 zA_X5_readClause_176 g0 g' ∧ w = none ∧ CPX g0 g') := by
  have hF0 : Fr zF_X5_readClause_176 zA_X5_readClause_176 g0 g0 := Fr.rf
  refine Ev.mk rfl rfl ⟨Nat.le_of_ble_eq_true rfl, Or.inr (q_rc hI0.1 kx_176 rfl)⟩ ?_
  show At _ none _ _ (0, [(0, .ref 176)], [], (_, _)) _
  refine At.enter rfl ?_
  refine r_aload_n rfl ?_
  refine r_ldcS (by decide) 1 rfl ?_
  refine r_callV 6 rfl [.ref 176, .float 1] [] (Nat.le_of_ble_eq_true rfl) rfl (zT_X5_isWord_176 _ hI0 1 (by decide) hT) ?_
  rintro _ _ ⟨g669, rfl, hI670, hF671, v672, rfl, hr673⟩
  refine At.sti ?_
  have hF674 := Fr.tr hF0 hF671 rfl rfl
  have hb675 : BL (CDX g0 = 11) v672.toInt := ISW.code (c := 11) hr673.2 hT (isWC_d (by omega)) (by decide +kernel)
  refine At.enter rfl ?_
  refine r_ifs 9 rfl (fun c676 => ?_) (fun c676 => ?_)
  · have c676_ : v672.toInt = 0 := en_k_eq_t c676
    have i677 := BL.no hb675 (by omega)
    refine At.enter rfl ?_
    refine r_aload_n rfl ?_
    refine r_ldcS (by decide) 2 rfl ?_
    refine r_callV 19 rfl [.ref 176, .float 2] [] (Nat.le_of_ble_eq_true rfl) rfl (zT_X5_isWord_176 _ hI670 2 (by decide) (TKX.c hT ((hF671.2.1 175 (by decide))) ((hF671.1 174 1 (by decide))) ((hF671.1 176 3 (by decide))) ((hF671.1 176 4 (by decide))) ((hF671.1 176 5 (by decide))))) ?_
    rintro _ _ ⟨g678, rfl, hI679, hF680, v681, rfl, hr682⟩
    refine At.sti ?_
    have hF683 := Fr.tr hF674 hF680 rfl rfl
    have hb684 : BL (CDX g0 = 12) v681.toInt := by have z := ISW.code (c := 12) hr682.2 (TKX.c hT ((hF671.2.1 175 (by decide))) ((hF671.1 174 1 (by decide))) ((hF671.1 176 3 (by decide))) ((hF671.1 176 4 (by decide))) ((hF671.1 176 5 (by decide)))) (isWC_d (by omega)) (by decide +kernel); rw [CDX.c ((hF671.2.1 175 (by decide))) ((hF671.1 176 3 (by decide))) ((hF671.1 176 4 (by decide))) ((hF671.1 176 5 (by decide)))] at z; exact z
    refine At.enter rfl ?_
    refine r_ifs 22 rfl (fun c685 => ?_) (fun c685 => ?_)
    · have c685_ : v681.toInt = 0 := en_k_eq_t c685
      have i686 := BL.no hb684 (by omega)
      refine At.enter rfl ?_
      refine r_aload_n rfl ?_
      refine r_ldcS (by decide) 3 rfl ?_
      refine r_callV 32 rfl [.ref 176, .float 3] [] (Nat.le_of_ble_eq_true rfl) rfl (zT_X5_isWord_176 _ hI679 3 (by decide) (TKX.c hT (((hF680.2.1 175 (by decide)).trans (hF671.2.1 175 (by decide)))) (((hF680.1 174 1 (by decide)).trans (hF671.1 174 1 (by decide)))) (((hF680.1 176 3 (by decide)).trans (hF671.1 176 3 (by decide)))) (((hF680.1 176 4 (by decide)).trans (hF671.1 176 4 (by decide)))) (((hF680.1 176 5 (by decide)).trans (hF671.1 176 5 (by decide)))))) ?_
      rintro _ _ ⟨g687, rfl, hI688, hF689, v690, rfl, hr691⟩
      refine At.sti ?_
      have hF692 := Fr.tr hF683 hF689 rfl rfl
      have hb693 : BL (CDX g0 = 13) v690.toInt := by have z := ISW.code (c := 13) hr691.2 (TKX.c hT (((hF680.2.1 175 (by decide)).trans (hF671.2.1 175 (by decide)))) (((hF680.1 174 1 (by decide)).trans (hF671.1 174 1 (by decide)))) (((hF680.1 176 3 (by decide)).trans (hF671.1 176 3 (by decide)))) (((hF680.1 176 4 (by decide)).trans (hF671.1 176 4 (by decide)))) (((hF680.1 176 5 (by decide)).trans (hF671.1 176 5 (by decide))))) (isWC_d (by omega)) (by decide +kernel); rw [CDX.c (((hF680.2.1 175 (by decide)).trans (hF671.2.1 175 (by decide)))) (((hF680.1 176 3 (by decide)).trans (hF671.1 176 3 (by decide)))) (((hF680.1 176 4 (by decide)).trans (hF671.1 176 4 (by decide)))) (((hF680.1 176 5 (by decide)).trans (hF671.1 176 5 (by decide))))] at z; exact z
      refine At.enter rfl ?_
      refine r_ifs 35 rfl (fun c694 => ?_) (fun c694 => ?_)
      · have c694_ : v690.toInt = 0 := en_k_eq_t c694
        have i695 := BL.no hb693 (by omega)
        refine At.enter rfl ?_
        refine r_iconst (-1) rfl ?_
        refine Ar.fall 40 rfl ?_
        refine At.enter rfl ?_
        refine r_istore_n ([(1, .int (-1)), (0, .ref 176)]) rfl ?_
        refine r_aload_n rfl ?_
        refine q_getR (Sh.ref hI688.1 kx_176 rfl) ?_
        obtain ⟨v696, hv696⟩ : ∃ v, gI g0 177 3 = v := ⟨_, rfl⟩
        have rv696 := RgF.at hI0.2.1 (p := 177) (b := 3) rfl
        rw [hv696] at rv696
        dsimp only at rv696
        refine q_getI (Sh.int hI688.1 kx_177 rfl) v696 (((hF689.1 177 3 (by decide)).trans ((hF680.1 177 3 (by decide)).trans (hF671.1 177 3 (by decide)))).trans hv696) ?_
        refine r_istore_n ([(2, .int v696), (1, .int (-1)), (0, .ref 176)]) rfl ?_
        refine r_iload_n rfl ?_
        refine r_iconst (-1) rfl ?_
        refine r_ict (by decide) ?_
        refine At.enter rfl ?_
        refine r_aload_n rfl ?_
        refine q_inlV 64 rfl [.ref 176] [] (Nat.le_of_ble_eq_true rfl) rfl ?_
        refine Ev.mk rfl rfl ⟨Nat.le_of_ble_eq_true rfl, Or.inr (q_rc hI688.1 kx_176 rfl)⟩ ?_
        show At _ none _ _ (0, [(0, .ref 176)], [], (_, _)) _
        refine At.enter rfl ?_
        refine r_aload_n rfl ?_
        obtain ⟨v697, hv697⟩ : ∃ v, gI g0 176 2 = v := ⟨_, rfl⟩
        refine q_getI (Sh.int hI688.1 kx_176 rfl) v697 (((hF689.1 176 2 (by decide)).trans ((hF680.1 176 2 (by decide)).trans (hF671.1 176 2 (by decide)))).trans hv697) ?_
        refine r_iconst (-1) rfl ?_
        refine r_ics 8 rfl (fun c698 => ?_) (fun c698 => ?_)
        · have c698_ : v697.toInt ≠ (-1) := en_i_ne_t c698
          refine At.enter rfl ?_
          refine q_vret ?_
          refine At.enter rfl ?_
          refine r_vret ?_
          have x699 := rX.e hI688 (b := 2) ((((hF689.1 176 2 (by decide)).trans ((hF680.1 176 2 (by decide)).trans (hF671.1 176 2 (by decide)))).trans hv697))
          have x700 := rX.e hI0 (b := 2) (hv697)
          obtain ⟨v701, hv701⟩ : ∃ v, gI g0 176 4 = v := ⟨_, rfl⟩
          have rv701 := RgF.at hI0.2.1 (p := 176) (b := 4) rfl
          rw [hv701] at rv701
          dsimp only at rv701
          have tv701 := congrArg Int32.toInt hv701
          have x702 := rX.e hI688 (b := 4) ((((hF689.1 176 4 (by decide)).trans ((hF680.1 176 4 (by decide)).trans (hF671.1 176 4 (by decide)))).trans hv701))
          have x703 := rX.e hI0 (b := 4) (hv701)
          obtain ⟨v704, hv704⟩ : ∃ v, gI g0 176 6 = v := ⟨_, rfl⟩
          have tv704 := congrArg Int32.toInt hv704
          have x705 := rX.e hI688 (b := 6) ((((hF689.1 176 6 (by decide)).trans ((hF680.1 176 6 (by decide)).trans (hF671.1 176 6 (by decide)))).trans hv704))
          have x706 := rX.e hI0 (b := 6) (hv704)
          have x707 := kX.e hI0 (hv696)
          have x708 := kX.e hI688 ((((hF689.1 177 3 (by decide)).trans ((hF680.1 177 3 (by decide)).trans (hF671.1 177 3 (by decide)))).trans hv696))
          exact ⟨_, rfl, hI688, hF692, rfl, ⟨(TKX.c hT (((hF689.2.1 175 (by decide)).trans ((hF680.2.1 175 (by decide)).trans (hF671.2.1 175 (by decide))))) (((hF689.1 174 1 (by decide)).trans ((hF680.1 174 1 (by decide)).trans (hF671.1 174 1 (by decide))))) (((hF689.1 176 3 (by decide)).trans ((hF680.1 176 3 (by decide)).trans (hF671.1 176 3 (by decide))))) (((hF689.1 176 4 (by decide)).trans ((hF680.1 176 4 (by decide)).trans (hF671.1 176 4 (by decide))))) (((hF689.1 176 5 (by decide)).trans ((hF680.1 176 5 (by decide)).trans (hF671.1 176 5 (by decide)))))), (PRG0.fail 1 (rX.c (b := 4) (((hF689.1 176 4 (by decide)).trans ((hF680.1 176 4 (by decide)).trans (hF671.1 176 4 (by decide)))))) (fun _ => by omega) (fun _ => by omega) (by omega)).le (by omega), fun c0 h => h.fail (fun _ => S.clsF (TKX.some hT).choose_spec (by omega)) (fun _ => by omega) (fun _ => by omega) (by omega)⟩⟩
        · have c698_ : v697.toInt = (-1) := en_i_ne_f c698
          refine At.enter rfl ?_
          refine r_aload_n rfl ?_
          refine r_aload_n rfl ?_
          obtain ⟨v709, hv709⟩ : ∃ v, gI g0 176 4 = v := ⟨_, rfl⟩
          have rv709 := RgF.at hI0.2.1 (p := 176) (b := 4) rfl
          rw [hv709] at rv709
          dsimp only at rv709
          refine q_getI (Sh.int hI688.1 kx_176 rfl) v709 (((hF689.1 176 4 (by decide)).trans ((hF680.1 176 4 (by decide)).trans (hF671.1 176 4 (by decide)))).trans hv709) ?_
          refine q_putI (Sh.int hI688.1 kx_176 rfl) rfl ?_
          have hI710 := HI.wI0 hI688 kx_176 rfl (p := 176) (b := 2) (v := v709) rfl
          have hF711 := Fr.wI (p := 176) (b := 2) (v := v709) hF692 rfl
          refine Ar.fall 16 rfl ?_
          refine At.enter rfl ?_
          refine q_vret ?_
          refine At.enter rfl ?_
          refine r_vret ?_
          have x712 := rX.e hI710 (b := 2) ((gI_sI_eq hI688.1 kx_176 rfl _))
          have x713 := rX.e hI0 (b := 2) (hv697)
          have x714 := rX.e hI710 (b := 4) ((((gI_sI_ne (by decide)).trans ((hF689.1 176 4 (by decide)).trans ((hF680.1 176 4 (by decide)).trans (hF671.1 176 4 (by decide))))).trans hv709))
          have x715 := rX.e hI0 (b := 4) (hv709)
          obtain ⟨v716, hv716⟩ : ∃ v, gI g0 176 6 = v := ⟨_, rfl⟩
          have tv716 := congrArg Int32.toInt hv716
          have x717 := rX.e hI710 (b := 6) ((((gI_sI_ne (by decide)).trans ((hF689.1 176 6 (by decide)).trans ((hF680.1 176 6 (by decide)).trans (hF671.1 176 6 (by decide))))).trans hv716))
          have x718 := rX.e hI0 (b := 6) (hv716)
          have x719 := kX.e hI0 (hv696)
          have x720 := kX.e hI710 ((((gI_sI_ne (by decide)).trans ((hF689.1 177 3 (by decide)).trans ((hF680.1 177 3 (by decide)).trans (hF671.1 177 3 (by decide))))).trans hv696))
          exact ⟨_, rfl, hI710, hF711, rfl, ⟨(TKX.c hT (((gA_sI).trans ((hF689.2.1 175 (by decide)).trans ((hF680.2.1 175 (by decide)).trans (hF671.2.1 175 (by decide)))))) (((gI_sI_ne (by decide)).trans ((hF689.1 174 1 (by decide)).trans ((hF680.1 174 1 (by decide)).trans (hF671.1 174 1 (by decide)))))) (((gI_sI_ne (by decide)).trans ((hF689.1 176 3 (by decide)).trans ((hF680.1 176 3 (by decide)).trans (hF671.1 176 3 (by decide)))))) (((gI_sI_ne (by decide)).trans ((hF689.1 176 4 (by decide)).trans ((hF680.1 176 4 (by decide)).trans (hF671.1 176 4 (by decide)))))) (((gI_sI_ne (by decide)).trans ((hF689.1 176 5 (by decide)).trans ((hF680.1 176 5 (by decide)).trans (hF671.1 176 5 (by decide))))))), (PRG0.fail 1 (rX.c (b := 4) (((gI_sI_ne (by decide)).trans ((hF689.1 176 4 (by decide)).trans ((hF680.1 176 4 (by decide)).trans (hF671.1 176 4 (by decide))))))) (fun _ => by omega) (fun _ => by omega) (by omega)).le (by omega), fun c0 h => h.fail (fun _ => S.clsF (TKX.some hT).choose_spec (by omega)) (fun _ => by omega) (fun _ => by omega) (by omega)⟩⟩
      · have c694_ : v690.toInt ≠ 0 := en_k_eq_f c694
        have i721 := BL.yes hb693 (by omega)
        refine At.enter rfl ?_
        refine r_iconst 2 rfl ?_
        refine r_goto ?_
        refine At.enter rfl ?_
        refine r_istore_n ([(1, .int 2), (0, .ref 176)]) rfl ?_
        refine r_aload_n rfl ?_
        refine q_getR (Sh.ref hI688.1 kx_176 rfl) ?_
        obtain ⟨v722, hv722⟩ : ∃ v, gI g0 177 3 = v := ⟨_, rfl⟩
        have rv722 := RgF.at hI0.2.1 (p := 177) (b := 3) rfl
        rw [hv722] at rv722
        dsimp only at rv722
        refine q_getI (Sh.int hI688.1 kx_177 rfl) v722 (((hF689.1 177 3 (by decide)).trans ((hF680.1 177 3 (by decide)).trans (hF671.1 177 3 (by decide)))).trans hv722) ?_
        refine r_istore_n ([(2, .int v722), (1, .int 2), (0, .ref 176)]) rfl ?_
        refine r_iload_n rfl ?_
        refine r_iconst (-1) rfl ?_
        refine r_icf 54 rfl (by decide) ?_
        refine At.enter rfl ?_
        refine r_iload_n rfl ?_
        refine r_bipush 12 rfl ?_
        refine r_ics 60 rfl (fun c723 => ?_) (fun c723 => ?_)
        · have c723_ : v722.toInt < 12 := en_i_lt_t c723
          refine At.enter rfl ?_
          refine r_aload_n rfl ?_
          refine r_callV 69 rfl [.ref 176] [] (Nat.le_of_ble_eq_true rfl) rfl (zT_X5_step_176 _ hI688 (TKX.c hT (((hF689.2.1 175 (by decide)).trans ((hF680.2.1 175 (by decide)).trans (hF671.2.1 175 (by decide))))) (((hF689.1 174 1 (by decide)).trans ((hF680.1 174 1 (by decide)).trans (hF671.1 174 1 (by decide))))) (((hF689.1 176 3 (by decide)).trans ((hF680.1 176 3 (by decide)).trans (hF671.1 176 3 (by decide))))) (((hF689.1 176 4 (by decide)).trans ((hF680.1 176 4 (by decide)).trans (hF671.1 176 4 (by decide))))) (((hF689.1 176 5 (by decide)).trans ((hF680.1 176 5 (by decide)).trans (hF671.1 176 5 (by decide)))))).1 (TKX.c hT (((hF689.2.1 175 (by decide)).trans ((hF680.2.1 175 (by decide)).trans (hF671.2.1 175 (by decide))))) (((hF689.1 174 1 (by decide)).trans ((hF680.1 174 1 (by decide)).trans (hF671.1 174 1 (by decide))))) (((hF689.1 176 3 (by decide)).trans ((hF680.1 176 3 (by decide)).trans (hF671.1 176 3 (by decide))))) (((hF689.1 176 4 (by decide)).trans ((hF680.1 176 4 (by decide)).trans (hF671.1 176 4 (by decide))))) (((hF689.1 176 5 (by decide)).trans ((hF680.1 176 5 (by decide)).trans (hF671.1 176 5 (by decide)))))).2.1.le.2.1) ?_
          rintro _ _ ⟨g724, rfl, hI725, hF726, rfl, hr728⟩
          refine At.stn ?_
          have hF729 := Fr.tr hF692 hF726 rfl rfl
          have tok730_ := hr728.2
          rw [TX.c (((hF689.2.1 175 (by decide)).trans ((hF680.2.1 175 (by decide)).trans (hF671.2.1 175 (by decide))))), nX.c (((hF689.1 174 1 (by decide)).trans ((hF680.1 174 1 (by decide)).trans (hF671.1 174 1 (by decide))))), rX.c (b := 5) (((hF689.1 176 5 (by decide)).trans ((hF680.1 176 5 (by decide)).trans (hF671.1 176 5 (by decide)))))] at tok730_
          have tok730 := TKX.tok hT tok730_
          have hT731 := hr728.1
          obtain ⟨v732, hv732⟩ : ∃ v, gI g0 176 4 = v := ⟨_, rfl⟩
          have rv732 := RgF.at hI0.2.1 (p := 176) (b := 4) rfl
          rw [hv732] at rv732
          dsimp only at rv732
          have tv732 := congrArg Int32.toInt hv732
          have x733 := rX.e hI688 (b := 4) ((((hF689.1 176 4 (by decide)).trans ((hF680.1 176 4 (by decide)).trans (hF671.1 176 4 (by decide)))).trans hv732))
          obtain ⟨v734, hv734⟩ : ∃ v, gI g724 176 4 = v := ⟨_, rfl⟩
          have rv734 := RgF.at hI725.2.1 (p := 176) (b := 4) rfl
          rw [hv734] at rv734
          dsimp only at rv734
          have tv734 := congrArg Int32.toInt hv734
          have x735 := rX.e hI725 (b := 4) (hv734)
          refine At.enter rfl ?_
          refine r_aload_n rfl ?_
          refine q_getR (Sh.ref hI725.1 kx_176 rfl) ?_
          refine r_iload_n rfl ?_
          refine r_iconst 1 rfl ?_
          refine q_iadd (v722.toInt + 1) rfl (by omega) (fun v736 hv736 => ?_)
          refine q_putI (Sh.int hI725.1 kx_177 rfl) rfl ?_
          have hI737 := HI.wI1 hI725 kx_177 rfl (p := 177) (b := 3) (v := v736) rfl (by dsimp only; omega)
          have hF738 := Fr.wI (p := 177) (b := 3) (v := v736) hF729 rfl
          refine r_aload_n rfl ?_
          refine q_getR (Sh.ref hI737.1 kx_176 rfl) ?_
          refine q_getR (Sh.ref hI737.1 kx_177 rfl) ?_
          refine r_iload_n rfl ?_
          refine r_iload_n rfl ?_
          refine q_iast (Sh.arr hI737.1 ka_180) (v722.toInt) rfl (by omega) ?_
          have hI739 := HI.wA0 hI737 ka_180 (p := 180) rfl rfl (v722.toInt) (2)
          have hF740 := Fr.wA (p := 180) (j := v722.toInt) (v := 2) hF738 rfl
          refine r_aload_n rfl ?_
          refine q_getR (Sh.ref hI739.1 kx_176 rfl) ?_
          refine r_dup rfl ?_
          obtain ⟨v741, hv741⟩ : ∃ v, gI g0 177 4 = v := ⟨_, rfl⟩
          refine q_getI (Sh.int hI739.1 kx_177 rfl) v741 (((gI_sW).trans ((gI_sI_ne (by decide)).trans ((hF726.1 177 4 (by decide)).trans ((hF689.1 177 4 (by decide)).trans ((hF680.1 177 4 (by decide)).trans (hF671.1 177 4 (by decide))))))).trans hv741) ?_
          refine r_iconst 1 rfl ?_
          refine r_iload_n rfl ?_
          refine r_ishl 4 (by decide) ?_
          refine q_iorO (fun v742 hv742 => ?_)
          refine q_putI (Sh.int hI739.1 kx_177 rfl) rfl ?_
          have hI743 := HI.wI0 hI739 kx_177 rfl (p := 177) (b := 4) (v := v742) rfl
          have hF744 := Fr.wI (p := 177) (b := 4) (v := v742) hF740 rfl
          refine r_aload_n rfl ?_
          refine q_getR (Sh.ref hI743.1 kx_176 rfl) ?_
          refine q_getR (Sh.ref hI743.1 kx_177 rfl) ?_
          refine r_iload_n rfl ?_
          refine r_aload_n rfl ?_
          refine q_getR (Sh.ref hI743.1 kx_176 rfl) ?_
          obtain ⟨v745, hv745⟩ : ∃ v, gI g0 177 0 = v := ⟨_, rfl⟩
          have rv745 := RgF.at hI0.2.1 (p := 177) (b := 0) rfl
          rw [hv745] at rv745
          dsimp only at rv745
          refine q_getI (Sh.int hI743.1 kx_177 rfl) v745 (((gI_sI_ne (by decide)).trans ((gI_sW).trans ((gI_sI_ne (by decide)).trans ((hF726.1 177 0 (by decide)).trans ((hF689.1 177 0 (by decide)).trans ((hF680.1 177 0 (by decide)).trans (hF671.1 177 0 (by decide)))))))).trans hv745) ?_
          refine q_iast (Sh.arr hI743.1 ka_181) (v722.toInt) rfl (by omega) ?_
          have hI746 := HI.wA0 hI743 ka_181 (p := 181) rfl rfl (v722.toInt) (v745)
          have hF747 := Fr.wA (p := 181) (j := v722.toInt) (v := v745) hF744 rfl
          refine r_iload_n rfl ?_
          refine r_iconst 2 rfl ?_
          refine r_ict (by decide) ?_
          refine At.enter rfl ?_
          refine r_aload_n rfl ?_
          refine q_getR (Sh.ref hI746.1 kx_176 rfl) ?_
          refine q_getR (Sh.ref hI746.1 kx_177 rfl) ?_
          refine r_iload_n rfl ?_
          refine r_aload_n rfl ?_
          refine q_getR (Sh.ref hI746.1 kx_176 rfl) ?_
          refine q_getI (Sh.int hI746.1 kx_177 rfl) v745 (((gI_sW).trans ((gI_sI_ne (by decide)).trans ((gI_sW).trans ((gI_sI_ne (by decide)).trans ((hF726.1 177 0 (by decide)).trans ((hF689.1 177 0 (by decide)).trans ((hF680.1 177 0 (by decide)).trans (hF671.1 177 0 (by decide))))))))).trans hv745) ?_
          refine q_iast (Sh.arr hI746.1 ka_182) (v722.toInt) rfl (by omega) ?_
          have hI748 := HI.wA0 hI746 ka_182 (p := 182) rfl rfl (v722.toInt) (v745)
          have hF749 := Fr.wA (p := 182) (j := v722.toInt) (v := v745) hF747 rfl
          refine r_aload_n rfl ?_
          obtain ⟨v750, hv750⟩ : ∃ v, gI g0 176 2 = v := ⟨_, rfl⟩
          refine q_getI (Sh.int hI748.1 kx_176 rfl) v750 (((gI_sW).trans ((gI_sW).trans ((gI_sI_ne (by decide)).trans ((gI_sW).trans ((gI_sI_ne (by decide)).trans ((hF726.1 176 2 (by decide)).trans ((hF689.1 176 2 (by decide)).trans ((hF680.1 176 2 (by decide)).trans (hF671.1 176 2 (by decide)))))))))).trans hv750) ?_
          refine r_iconst (-1) rfl ?_
          refine r_ics 155 rfl (fun c751 => ?_) (fun c751 => ?_)
          · have c751_ : v750.toInt ≠ (-1) := en_i_ne_t c751
            refine At.enter rfl ?_
            refine r_aload_n rfl ?_
            refine q_getR (Sh.ref hI748.1 kx_176 rfl) ?_
            refine q_getR (Sh.ref hI748.1 kx_177 rfl) ?_
            refine r_iload_n rfl ?_
            refine r_aload_n rfl ?_
            refine q_getR (Sh.ref hI748.1 kx_176 rfl) ?_
            refine q_getI (Sh.int hI748.1 kx_177 rfl) v745 (((gI_sW).trans ((gI_sW).trans ((gI_sI_ne (by decide)).trans ((gI_sW).trans ((gI_sI_ne (by decide)).trans ((hF726.1 177 0 (by decide)).trans ((hF689.1 177 0 (by decide)).trans ((hF680.1 177 0 (by decide)).trans (hF671.1 177 0 (by decide)))))))))).trans hv745) ?_
            refine q_iast (Sh.arr hI748.1 ka_183) (v722.toInt) rfl (by omega) ?_
            have hI752 := HI.wA0 hI748 ka_183 (p := 183) rfl rfl (v722.toInt) (v745)
            have hF753 := Fr.wA (p := 183) (j := v722.toInt) (v := v745) hF749 rfl
            refine r_vret ?_
            have x754 := rX.e hI752 (b := 2) ((((gI_sW).trans ((gI_sW).trans ((gI_sW).trans ((gI_sI_ne (by decide)).trans ((gI_sW).trans ((gI_sI_ne (by decide)).trans ((hF726.1 176 2 (by decide)).trans ((hF689.1 176 2 (by decide)).trans ((hF680.1 176 2 (by decide)).trans (hF671.1 176 2 (by decide))))))))))).trans hv750))
            have x755 := rX.e hI0 (b := 2) (hv750)
            have x756 := rX.e hI752 (b := 4) ((((gI_sW).trans ((gI_sW).trans ((gI_sW).trans ((gI_sI_ne (by decide)).trans ((gI_sW).trans (gI_sI_ne (by decide))))))).trans hv734))
            have x757 := rX.e hI0 (b := 4) (hv732)
            obtain ⟨v758, hv758⟩ : ∃ v, gI g0 176 6 = v := ⟨_, rfl⟩
            have tv758 := congrArg Int32.toInt hv758
            have x759 := rX.e hI752 (b := 6) ((((gI_sW).trans ((gI_sW).trans ((gI_sW).trans ((gI_sI_ne (by decide)).trans ((gI_sW).trans ((gI_sI_ne (by decide)).trans ((hF726.1 176 6 (by decide)).trans ((hF689.1 176 6 (by decide)).trans ((hF680.1 176 6 (by decide)).trans (hF671.1 176 6 (by decide))))))))))).trans hv758))
            have x760 := rX.e hI0 (b := 6) (hv758)
            have x761 := rX.e hI725 (b := 2) ((((hF726.1 176 2 (by decide)).trans ((hF689.1 176 2 (by decide)).trans ((hF680.1 176 2 (by decide)).trans (hF671.1 176 2 (by decide))))).trans hv750))
            have x762 := rX.e hI725 (b := 4) (hv734)
            have x763 := kX.e hI0 (hv722)
            have x764 := kX.e hI752 (((gI_sW).trans ((gI_sW).trans ((gI_sW).trans ((gI_sI_ne (by decide)).trans ((gI_sW).trans (gI_sI_eq hI725.1 kx_177 rfl _)))))))
            exact ⟨_, rfl, hI752, hF753, rfl, ⟨(TKX.c hT731 (((gA_sA_ne (by decide)).trans ((gA_sA_ne (by decide)).trans ((gA_sA_ne (by decide)).trans ((gA_sI).trans ((gA_sA_ne (by decide)).trans (gA_sI))))))) (((gI_sW).trans ((gI_sW).trans ((gI_sW).trans ((gI_sI_ne (by decide)).trans ((gI_sW).trans (gI_sI_ne (by decide)))))))) (((gI_sW).trans ((gI_sW).trans ((gI_sW).trans ((gI_sI_ne (by decide)).trans ((gI_sW).trans (gI_sI_ne (by decide)))))))) (((gI_sW).trans ((gI_sW).trans ((gI_sW).trans ((gI_sI_ne (by decide)).trans ((gI_sW).trans (gI_sI_ne (by decide)))))))) (((gI_sW).trans ((gI_sW).trans ((gI_sW).trans ((gI_sI_ne (by decide)).trans ((gI_sW).trans (gI_sI_ne (by decide))))))))), ((PRG0.tr (PRG0.step hT tok730_ (rX.c (b := 2) (((hF726.1 176 2 (by decide)).trans ((hF689.1 176 2 (by decide)).trans ((hF680.1 176 2 (by decide)).trans (hF671.1 176 2 (by decide))))))) (by omega)) (PRG0.eq (rX.c (b := 4) (((gI_sW).trans ((gI_sW).trans ((gI_sW).trans ((gI_sI_ne (by decide)).trans ((gI_sW).trans (gI_sI_ne (by decide))))))))) (rX.c (b := 2) (((gI_sW).trans ((gI_sW).trans ((gI_sW).trans ((gI_sI_ne (by decide)).trans ((gI_sW).trans (gI_sI_ne (by decide)))))))))))).le (by omega), fun c0 h => by have h1 : CST _ _ c0 g724 7 [] (kX g0 + 1) := CLX.head h (fun _ => S.clsB tok730 (by omega) (by omega) rfl) (rX.c (b := 2) (((hF726.1 176 2 (by decide)).trans ((hF689.1 176 2 (by decide)).trans ((hF680.1 176 2 (by decide)).trans (hF671.1 176 2 (by decide))))))) (rX.c (b := 6) (((hF726.1 176 6 (by decide)).trans ((hF689.1 176 6 (by decide)).trans ((hF680.1 176 6 (by decide)).trans (hF671.1 176 6 (by decide))))))); have h6 : CST _ _ c0 g724 8 [] (kX g0 + 1) := by first | exact h1.bad (by omega) rfl | exact h1.eps (fun _ => S.noif (TKX.someC hT731 (((hF726.2.1 175 (by decide)).trans ((hF689.2.1 175 (by decide)).trans ((hF680.2.1 175 (by decide)).trans (hF671.2.1 175 (by decide)))))) (((hF726.1 174 1 (by decide)).trans ((hF689.1 174 1 (by decide)).trans ((hF680.1 174 1 (by decide)).trans (hF671.1 174 1 (by decide))))))).choose_spec (by omega)); have h9 := h6.eq (rX.c (b := 2) (((gI_sW).trans ((gI_sW).trans ((gI_sW).trans ((gI_sI_ne (by decide)).trans ((gI_sW).trans (gI_sI_ne (by decide))))))))) (rX.c (b := 4) (((gI_sW).trans ((gI_sW).trans ((gI_sW).trans ((gI_sI_ne (by decide)).trans ((gI_sW).trans (gI_sI_ne (by decide))))))))) (rX.c (b := 6) (((gI_sW).trans ((gI_sW).trans ((gI_sW).trans ((gI_sI_ne (by decide)).trans ((gI_sW).trans (gI_sI_ne (by decide))))))))); rw [x764]; rw [show (kX g0 + 1 : Int) = v736.toInt from by omega] at h9; exact h9⟩⟩
          · have c751_ : v750.toInt = (-1) := en_i_ne_f c751
            refine At.enter rfl ?_
            refine r_aload_n rfl ?_
            refine r_ldcS (by decide) 17 rfl ?_
            refine r_callV 161 rfl [.ref 176, .float 17] [] (Nat.le_of_ble_eq_true rfl) rfl (zT_X5_isWord_176 _ hI748 17 (by decide) (TKX.c hT731 (((gA_sA_ne (by decide)).trans ((gA_sA_ne (by decide)).trans ((gA_sI).trans ((gA_sA_ne (by decide)).trans (gA_sI)))))) (((gI_sW).trans ((gI_sW).trans ((gI_sI_ne (by decide)).trans ((gI_sW).trans (gI_sI_ne (by decide))))))) (((gI_sW).trans ((gI_sW).trans ((gI_sI_ne (by decide)).trans ((gI_sW).trans (gI_sI_ne (by decide))))))) (((gI_sW).trans ((gI_sW).trans ((gI_sI_ne (by decide)).trans ((gI_sW).trans (gI_sI_ne (by decide))))))) (((gI_sW).trans ((gI_sW).trans ((gI_sI_ne (by decide)).trans ((gI_sW).trans (gI_sI_ne (by decide))))))))) ?_
            rintro _ _ ⟨g765, rfl, hI766, hF767, v768, rfl, hr769⟩
            refine At.sti ?_
            have hF770 := Fr.tr hF749 hF767 rfl rfl
            have hb771 : BL (CDX g724 = 10) v768.toInt := by have z := ISW.code (c := 10) hr769.2 (TKX.c hT731 (((gA_sA_ne (by decide)).trans ((gA_sA_ne (by decide)).trans ((gA_sI).trans ((gA_sA_ne (by decide)).trans (gA_sI)))))) (((gI_sW).trans ((gI_sW).trans ((gI_sI_ne (by decide)).trans ((gI_sW).trans (gI_sI_ne (by decide))))))) (((gI_sW).trans ((gI_sW).trans ((gI_sI_ne (by decide)).trans ((gI_sW).trans (gI_sI_ne (by decide))))))) (((gI_sW).trans ((gI_sW).trans ((gI_sI_ne (by decide)).trans ((gI_sW).trans (gI_sI_ne (by decide))))))) (((gI_sW).trans ((gI_sW).trans ((gI_sI_ne (by decide)).trans ((gI_sW).trans (gI_sI_ne (by decide)))))))) (isWC_d (by omega)) (by decide +kernel); rw [CDX.c (((gA_sA_ne (by decide)).trans ((gA_sA_ne (by decide)).trans ((gA_sI).trans ((gA_sA_ne (by decide)).trans (gA_sI)))))) (((gI_sW).trans ((gI_sW).trans ((gI_sI_ne (by decide)).trans ((gI_sW).trans (gI_sI_ne (by decide))))))) (((gI_sW).trans ((gI_sW).trans ((gI_sI_ne (by decide)).trans ((gI_sW).trans (gI_sI_ne (by decide))))))) (((gI_sW).trans ((gI_sW).trans ((gI_sI_ne (by decide)).trans ((gI_sW).trans (gI_sI_ne (by decide)))))))] at z; exact z
            refine At.enter rfl ?_
            refine r_ifs 164 rfl (fun c772 => ?_) (fun c772 => ?_)
            · have c772_ : v768.toInt = 0 := en_k_eq_t c772
              have i773 := BL.no hb771 (by omega)
              refine At.enter rfl ?_
              refine r_aload_n rfl ?_
              refine q_getR (Sh.ref hI766.1 kx_176 rfl) ?_
              refine q_getR (Sh.ref hI766.1 kx_177 rfl) ?_
              refine r_iload_n rfl ?_
              refine r_aload_n rfl ?_
              refine q_getR (Sh.ref hI766.1 kx_176 rfl) ?_
              refine q_getI (Sh.int hI766.1 kx_177 rfl) v745 (((hF767.1 177 0 (by decide)).trans ((gI_sW).trans ((gI_sW).trans ((gI_sI_ne (by decide)).trans ((gI_sW).trans ((gI_sI_ne (by decide)).trans ((hF726.1 177 0 (by decide)).trans ((hF689.1 177 0 (by decide)).trans ((hF680.1 177 0 (by decide)).trans (hF671.1 177 0 (by decide))))))))))).trans hv745) ?_
              refine q_iast (Sh.arr hI766.1 ka_183) (v722.toInt) rfl (by omega) ?_
              have hI774 := HI.wA0 hI766 ka_183 (p := 183) rfl rfl (v722.toInt) (v745)
              have hF775 := Fr.wA (p := 183) (j := v722.toInt) (v := v745) hF770 rfl
              refine r_vret ?_
              have x776 := rX.e hI774 (b := 2) ((((gI_sW).trans ((hF767.1 176 2 (by decide)).trans ((gI_sW).trans ((gI_sW).trans ((gI_sI_ne (by decide)).trans ((gI_sW).trans ((gI_sI_ne (by decide)).trans ((hF726.1 176 2 (by decide)).trans ((hF689.1 176 2 (by decide)).trans ((hF680.1 176 2 (by decide)).trans (hF671.1 176 2 (by decide)))))))))))).trans hv750))
              have x777 := rX.e hI0 (b := 2) (hv750)
              have x778 := rX.e hI774 (b := 4) ((((gI_sW).trans ((hF767.1 176 4 (by decide)).trans ((gI_sW).trans ((gI_sW).trans ((gI_sI_ne (by decide)).trans ((gI_sW).trans (gI_sI_ne (by decide)))))))).trans hv734))
              have x779 := rX.e hI0 (b := 4) (hv732)
              obtain ⟨v780, hv780⟩ : ∃ v, gI g0 176 6 = v := ⟨_, rfl⟩
              have tv780 := congrArg Int32.toInt hv780
              have x781 := rX.e hI774 (b := 6) ((((gI_sW).trans ((hF767.1 176 6 (by decide)).trans ((gI_sW).trans ((gI_sW).trans ((gI_sI_ne (by decide)).trans ((gI_sW).trans ((gI_sI_ne (by decide)).trans ((hF726.1 176 6 (by decide)).trans ((hF689.1 176 6 (by decide)).trans ((hF680.1 176 6 (by decide)).trans (hF671.1 176 6 (by decide)))))))))))).trans hv780))
              have x782 := rX.e hI0 (b := 6) (hv780)
              have x783 := rX.e hI725 (b := 2) ((((hF726.1 176 2 (by decide)).trans ((hF689.1 176 2 (by decide)).trans ((hF680.1 176 2 (by decide)).trans (hF671.1 176 2 (by decide))))).trans hv750))
              have x784 := rX.e hI725 (b := 4) (hv734)
              have x785 := kX.e hI0 (hv722)
              have x786 := kX.e hI774 (((gI_sW).trans ((hF767.1 177 3 (by decide)).trans ((gI_sW).trans ((gI_sW).trans ((gI_sI_ne (by decide)).trans ((gI_sW).trans (gI_sI_eq hI725.1 kx_177 rfl _))))))))
              exact ⟨_, rfl, hI774, hF775, rfl, ⟨(TKX.c hT731 (((gA_sA_ne (by decide)).trans ((hF767.2.1 175 (by decide)).trans ((gA_sA_ne (by decide)).trans ((gA_sA_ne (by decide)).trans ((gA_sI).trans ((gA_sA_ne (by decide)).trans (gA_sI)))))))) (((gI_sW).trans ((hF767.1 174 1 (by decide)).trans ((gI_sW).trans ((gI_sW).trans ((gI_sI_ne (by decide)).trans ((gI_sW).trans (gI_sI_ne (by decide))))))))) (((gI_sW).trans ((hF767.1 176 3 (by decide)).trans ((gI_sW).trans ((gI_sW).trans ((gI_sI_ne (by decide)).trans ((gI_sW).trans (gI_sI_ne (by decide))))))))) (((gI_sW).trans ((hF767.1 176 4 (by decide)).trans ((gI_sW).trans ((gI_sW).trans ((gI_sI_ne (by decide)).trans ((gI_sW).trans (gI_sI_ne (by decide))))))))) (((gI_sW).trans ((hF767.1 176 5 (by decide)).trans ((gI_sW).trans ((gI_sW).trans ((gI_sI_ne (by decide)).trans ((gI_sW).trans (gI_sI_ne (by decide)))))))))), ((PRG0.tr (PRG0.step hT tok730_ (rX.c (b := 2) (((hF726.1 176 2 (by decide)).trans ((hF689.1 176 2 (by decide)).trans ((hF680.1 176 2 (by decide)).trans (hF671.1 176 2 (by decide))))))) (by omega)) (PRG0.eq (rX.c (b := 4) (((gI_sW).trans ((hF767.1 176 4 (by decide)).trans ((gI_sW).trans ((gI_sW).trans ((gI_sI_ne (by decide)).trans ((gI_sW).trans (gI_sI_ne (by decide)))))))))) (rX.c (b := 2) (((gI_sW).trans ((hF767.1 176 2 (by decide)).trans ((gI_sW).trans ((gI_sW).trans ((gI_sI_ne (by decide)).trans ((gI_sW).trans (gI_sI_ne (by decide))))))))))))).le (by omega), fun c0 h => by have h1 : CST _ _ c0 g724 7 [] (kX g0 + 1) := CLX.head h (fun _ => S.clsB tok730 (by omega) (by omega) rfl) (rX.c (b := 2) (((hF726.1 176 2 (by decide)).trans ((hF689.1 176 2 (by decide)).trans ((hF680.1 176 2 (by decide)).trans (hF671.1 176 2 (by decide))))))) (rX.c (b := 6) (((hF726.1 176 6 (by decide)).trans ((hF689.1 176 6 (by decide)).trans ((hF680.1 176 6 (by decide)).trans (hF671.1 176 6 (by decide))))))); have h6 : CST _ _ c0 g724 8 [] (kX g0 + 1) := by first | exact h1.bad (by omega) rfl | exact h1.eps (fun _ => S.noif (TKX.someC hT731 (((hF726.2.1 175 (by decide)).trans ((hF689.2.1 175 (by decide)).trans ((hF680.2.1 175 (by decide)).trans (hF671.2.1 175 (by decide)))))) (((hF726.1 174 1 (by decide)).trans ((hF689.1 174 1 (by decide)).trans ((hF680.1 174 1 (by decide)).trans (hF671.1 174 1 (by decide))))))).choose_spec (by omega)); have h9 := h6.eq (rX.c (b := 2) (((gI_sW).trans ((hF767.1 176 2 (by decide)).trans ((gI_sW).trans ((gI_sW).trans ((gI_sI_ne (by decide)).trans ((gI_sW).trans (gI_sI_ne (by decide)))))))))) (rX.c (b := 4) (((gI_sW).trans ((hF767.1 176 4 (by decide)).trans ((gI_sW).trans ((gI_sW).trans ((gI_sI_ne (by decide)).trans ((gI_sW).trans (gI_sI_ne (by decide)))))))))) (rX.c (b := 6) (((gI_sW).trans ((hF767.1 176 6 (by decide)).trans ((gI_sW).trans ((gI_sW).trans ((gI_sI_ne (by decide)).trans ((gI_sW).trans (gI_sI_ne (by decide)))))))))); rw [x786]; rw [show (kX g0 + 1 : Int) = v736.toInt from by omega] at h9; exact h9⟩⟩
            · have c772_ : v768.toInt ≠ 0 := en_k_eq_f c772
              have i787 := BL.yes hb771 (by omega)
              refine At.enter rfl ?_
              refine r_aload_n rfl ?_
              refine r_callV 168 rfl [.ref 176] [] (Nat.le_of_ble_eq_true rfl) rfl (zT_X5_step_176 _ hI766 (TKX.c hT731 (((hF767.2.1 175 (by decide)).trans ((gA_sA_ne (by decide)).trans ((gA_sA_ne (by decide)).trans ((gA_sI).trans ((gA_sA_ne (by decide)).trans (gA_sI))))))) (((hF767.1 174 1 (by decide)).trans ((gI_sW).trans ((gI_sW).trans ((gI_sI_ne (by decide)).trans ((gI_sW).trans (gI_sI_ne (by decide)))))))) (((hF767.1 176 3 (by decide)).trans ((gI_sW).trans ((gI_sW).trans ((gI_sI_ne (by decide)).trans ((gI_sW).trans (gI_sI_ne (by decide)))))))) (((hF767.1 176 4 (by decide)).trans ((gI_sW).trans ((gI_sW).trans ((gI_sI_ne (by decide)).trans ((gI_sW).trans (gI_sI_ne (by decide)))))))) (((hF767.1 176 5 (by decide)).trans ((gI_sW).trans ((gI_sW).trans ((gI_sI_ne (by decide)).trans ((gI_sW).trans (gI_sI_ne (by decide))))))))).1 (TKX.c hT731 (((hF767.2.1 175 (by decide)).trans ((gA_sA_ne (by decide)).trans ((gA_sA_ne (by decide)).trans ((gA_sI).trans ((gA_sA_ne (by decide)).trans (gA_sI))))))) (((hF767.1 174 1 (by decide)).trans ((gI_sW).trans ((gI_sW).trans ((gI_sI_ne (by decide)).trans ((gI_sW).trans (gI_sI_ne (by decide)))))))) (((hF767.1 176 3 (by decide)).trans ((gI_sW).trans ((gI_sW).trans ((gI_sI_ne (by decide)).trans ((gI_sW).trans (gI_sI_ne (by decide)))))))) (((hF767.1 176 4 (by decide)).trans ((gI_sW).trans ((gI_sW).trans ((gI_sI_ne (by decide)).trans ((gI_sW).trans (gI_sI_ne (by decide)))))))) (((hF767.1 176 5 (by decide)).trans ((gI_sW).trans ((gI_sW).trans ((gI_sI_ne (by decide)).trans ((gI_sW).trans (gI_sI_ne (by decide))))))))).2.1.le.2.1) ?_
              rintro _ _ ⟨g788, rfl, hI789, hF790, rfl, hr792⟩
              refine At.stn ?_
              have hF793 := Fr.tr hF770 hF790 rfl rfl
              have tok794_ := hr792.2
              rw [TX.c (((hF767.2.1 175 (by decide)).trans ((gA_sA_ne (by decide)).trans ((gA_sA_ne (by decide)).trans ((gA_sI).trans ((gA_sA_ne (by decide)).trans (gA_sI))))))), nX.c (((hF767.1 174 1 (by decide)).trans ((gI_sW).trans ((gI_sW).trans ((gI_sI_ne (by decide)).trans ((gI_sW).trans (gI_sI_ne (by decide)))))))), rX.c (b := 5) (((hF767.1 176 5 (by decide)).trans ((gI_sW).trans ((gI_sW).trans ((gI_sI_ne (by decide)).trans ((gI_sW).trans (gI_sI_ne (by decide))))))))] at tok794_
              have tok794 := TKX.tok hT731 tok794_
              rw [TX.c (((hF726.2.1 175 (by decide)).trans ((hF689.2.1 175 (by decide)).trans ((hF680.2.1 175 (by decide)).trans (hF671.2.1 175 (by decide)))))), nX.c (((hF726.1 174 1 (by decide)).trans ((hF689.1 174 1 (by decide)).trans ((hF680.1 174 1 (by decide)).trans (hF671.1 174 1 (by decide))))))] at tok794
              have hT795 := hr792.1
              have x796 := rX.e hI766 (b := 4) ((((hF767.1 176 4 (by decide)).trans ((gI_sW).trans ((gI_sW).trans ((gI_sI_ne (by decide)).trans ((gI_sW).trans (gI_sI_ne (by decide))))))).trans hv734))
              obtain ⟨v797, hv797⟩ : ∃ v, gI g788 176 4 = v := ⟨_, rfl⟩
              have rv797 := RgF.at hI789.2.1 (p := 176) (b := 4) rfl
              rw [hv797] at rv797
              dsimp only at rv797
              have tv797 := congrArg Int32.toInt hv797
              have x798 := rX.e hI789 (b := 4) (hv797)
              refine At.enter rfl ?_
              refine r_aload_n rfl ?_
              refine r_iconst 0 rfl ?_
              refine r_iconst 0 rfl ?_
              have zv799 : (0 : Int32).toInt = 0 := rfl
              have zv800 : (0 : Int32).toInt = 0 := rfl
              refine r_callV 174 rfl [.ref 176, .int 0, .int 0] [] (Nat.le_of_ble_eq_true rfl) rfl (zT_X5_readJoined_176 _ hI789 0 (by decide) 0 (by decide) hT795) ?_
              rintro _ _ ⟨g801, rfl, hI802, hF803, rfl, hr805⟩
              refine At.stn ?_
              have hF806 := Fr.tr hF793 hF803 rfl rfl
              have zv807 : (0 : Int32).toInt = 0 := rfl
              have zv808 : (0 : Int32).toInt = 0 := rfl
              have x813 := rX.e hI789 (b := 2) ((((hF790.1 176 2 (by decide)).trans ((hF767.1 176 2 (by decide)).trans ((gI_sW).trans ((gI_sW).trans ((gI_sI_ne (by decide)).trans ((gI_sW).trans ((gI_sI_ne (by decide)).trans ((hF726.1 176 2 (by decide)).trans ((hF689.1 176 2 (by decide)).trans ((hF680.1 176 2 (by decide)).trans (hF671.1 176 2 (by decide)))))))))))).trans hv750))
              have x814 := rX.e hI789 (b := 4) (hv797)
              obtain ⟨o809, o810, o811, o812⟩ := hr805
              have o815 := OPD.tc o811 (((hF790.2.1 175 (by decide)).trans ((hF767.2.1 175 (by decide)).trans ((gA_sA_ne (by decide)).trans ((gA_sA_ne (by decide)).trans ((gA_sI).trans ((gA_sA_ne (by decide)).trans ((gA_sI).trans ((hF726.2.1 175 (by decide)).trans ((hF689.2.1 175 (by decide)).trans ((hF680.2.1 175 (by decide)).trans (hF671.2.1 175 (by decide))))))))))))) (((hF790.1 174 1 (by decide)).trans ((hF767.1 174 1 (by decide)).trans ((gI_sW).trans ((gI_sW).trans ((gI_sI_ne (by decide)).trans ((gI_sW).trans ((gI_sI_ne (by decide)).trans ((hF726.1 174 1 (by decide)).trans ((hF689.1 174 1 (by decide)).trans ((hF680.1 174 1 (by decide)).trans (hF671.1 174 1 (by decide)))))))))))))
              obtain ⟨v816, hv816⟩ : ∃ v, gI g801 176 2 = v := ⟨_, rfl⟩
              have tv816 := congrArg Int32.toInt hv816
              have x817 := rX.e hI802 (b := 2) (hv816)
              obtain ⟨v818, hv818⟩ : ∃ v, gI g801 176 4 = v := ⟨_, rfl⟩
              have rv818 := RgF.at hI802.2.1 (p := 176) (b := 4) rfl
              rw [hv818] at rv818
              dsimp only at rv818
              have tv818 := congrArg Int32.toInt hv818
              have x819 := rX.e hI802 (b := 4) (hv818)
              refine At.enter rfl ?_
              refine r_aload_n rfl ?_
              refine q_getR (Sh.ref hI802.1 kx_176 rfl) ?_
              refine q_getR (Sh.ref hI802.1 kx_177 rfl) ?_
              refine r_iload_n rfl ?_
              refine r_aload_n rfl ?_
              refine q_getR (Sh.ref hI802.1 kx_176 rfl) ?_
              obtain ⟨v820, hv820⟩ : ∃ v, gI g801 177 0 = v := ⟨_, rfl⟩
              have rv820 := RgF.at hI802.2.1 (p := 177) (b := 0) rfl
              rw [hv820] at rv820
              dsimp only at rv820
              refine q_getI (Sh.int hI802.1 kx_177 rfl) v820 hv820 ?_
              refine q_iast (Sh.arr hI802.1 ka_183) (v722.toInt) rfl (by omega) ?_
              have hI821 := HI.wA0 hI802 ka_183 (p := 183) rfl rfl (v722.toInt) (v820)
              have hF822 := Fr.wA (p := 183) (j := v722.toInt) (v := v820) hF806 rfl
              refine r_vret ?_
              have x823 := rX.e hI821 (b := 2) (((gI_sW).trans hv816))
              have x824 := rX.e hI0 (b := 2) (hv750)
              have x825 := rX.e hI821 (b := 4) (((gI_sW).trans hv818))
              have x826 := rX.e hI0 (b := 4) (hv732)
              obtain ⟨v827, hv827⟩ : ∃ v, gI g801 176 6 = v := ⟨_, rfl⟩
              have tv827 := congrArg Int32.toInt hv827
              have x828 := rX.e hI821 (b := 6) (((gI_sW).trans hv827))
              obtain ⟨v829, hv829⟩ : ∃ v, gI g0 176 6 = v := ⟨_, rfl⟩
              have tv829 := congrArg Int32.toInt hv829
              have x830 := rX.e hI0 (b := 6) (hv829)
              have x831 := rX.e hI725 (b := 2) ((((hF726.1 176 2 (by decide)).trans ((hF689.1 176 2 (by decide)).trans ((hF680.1 176 2 (by decide)).trans (hF671.1 176 2 (by decide))))).trans hv750))
              have x832 := rX.e hI725 (b := 4) (hv734)
              have x833 := rX.e hI789 (b := 2) ((((hF790.1 176 2 (by decide)).trans ((hF767.1 176 2 (by decide)).trans ((gI_sW).trans ((gI_sW).trans ((gI_sI_ne (by decide)).trans ((gI_sW).trans ((gI_sI_ne (by decide)).trans ((hF726.1 176 2 (by decide)).trans ((hF689.1 176 2 (by decide)).trans ((hF680.1 176 2 (by decide)).trans (hF671.1 176 2 (by decide)))))))))))).trans hv750))
              have x834 := rX.e hI789 (b := 4) (hv797)
              have x835 := rX.e hI802 (b := 2) (hv816)
              have x836 := rX.e hI802 (b := 4) (hv818)
              obtain ⟨v837, hv837⟩ : ∃ v, gI g801 177 3 = v := ⟨_, rfl⟩
              have rv837 := RgF.at hI802.2.1 (p := 177) (b := 3) rfl
              rw [hv837] at rv837
              dsimp only at rv837
              have tv837 := congrArg Int32.toInt hv837
              have x838 := kX.e hI0 (hv722)
              have x839 := kX.e hI821 (((gI_sW).trans hv837))
              exact ⟨_, rfl, hI821, hF822, rfl, ⟨(TKX.c o809 ((gA_sA_ne (by decide))) ((gI_sW)) ((gI_sW)) ((gI_sW)) ((gI_sW))), ((PRG0.tr ((PRG0.tr ((PRG0.tr (PRG0.step hT tok730_ (rX.c (b := 2) (((hF726.1 176 2 (by decide)).trans ((hF689.1 176 2 (by decide)).trans ((hF680.1 176 2 (by decide)).trans (hF671.1 176 2 (by decide))))))) (by omega)) (PRG0.step hT731 tok794_ (rX.c (b := 2) (((hF790.1 176 2 (by decide)).trans ((hF767.1 176 2 (by decide)).trans ((gI_sW).trans ((gI_sW).trans ((gI_sI_ne (by decide)).trans ((gI_sW).trans (gI_sI_ne (by decide)))))))))) (by omega)))) (o810))) (PRG0.eq (rX.c (b := 4) ((gI_sW))) (rX.c (b := 2) ((gI_sW)))))).le (by omega), fun c0 h => by have h1 : CST _ _ c0 g724 7 [] (kX g0 + 1) := CLX.head h (fun _ => S.clsB tok730 (by omega) (by omega) rfl) (rX.c (b := 2) (((hF726.1 176 2 (by decide)).trans ((hF689.1 176 2 (by decide)).trans ((hF680.1 176 2 (by decide)).trans (hF671.1 176 2 (by decide))))))) (rX.c (b := 6) (((hF726.1 176 6 (by decide)).trans ((hF689.1 176 6 (by decide)).trans ((hF680.1 176 6 (by decide)).trans (hF671.1 176 6 (by decide))))))); have h4 := CLX.head h1 (fun _ => S.if_ tok794 (by omega)) (rX.c (b := 2) (((hF790.1 176 2 (by decide)).trans ((hF767.1 176 2 (by decide)).trans ((gI_sW).trans ((gI_sW).trans ((gI_sI_ne (by decide)).trans ((gI_sW).trans (gI_sI_ne (by decide)))))))))) (rX.c (b := 6) (((hF790.1 176 6 (by decide)).trans ((hF767.1 176 6 (by decide)).trans ((gI_sW).trans ((gI_sW).trans ((gI_sI_ne (by decide)).trans ((gI_sW).trans (gI_sI_ne (by decide)))))))))); have h6 := CLX.test o815 h4 (TKX.someC o809 (((hF803.2.1 175 (by decide)).trans ((hF790.2.1 175 (by decide)).trans ((hF767.2.1 175 (by decide)).trans ((gA_sA_ne (by decide)).trans ((gA_sA_ne (by decide)).trans ((gA_sI).trans ((gA_sA_ne (by decide)).trans ((gA_sI).trans ((hF726.2.1 175 (by decide)).trans ((hF689.2.1 175 (by decide)).trans ((hF680.2.1 175 (by decide)).trans (hF671.2.1 175 (by decide)))))))))))))) (((hF803.1 174 1 (by decide)).trans ((hF790.1 174 1 (by decide)).trans ((hF767.1 174 1 (by decide)).trans ((gI_sW).trans ((gI_sW).trans ((gI_sI_ne (by decide)).trans ((gI_sW).trans ((gI_sI_ne (by decide)).trans ((hF726.1 174 1 (by decide)).trans ((hF689.1 174 1 (by decide)).trans ((hF680.1 174 1 (by decide)).trans (hF671.1 174 1 (by decide))))))))))))))).choose_spec o812; have h9 := h6.eq (rX.c (b := 2) ((gI_sW))) (rX.c (b := 4) ((gI_sW))) (rX.c (b := 6) ((gI_sW))); rw [x839]; rw [show (kX g0 + 1 : Int) = v837.toInt from by omega] at h9; exact h9⟩⟩
        · have c723_ : v722.toInt ≥ 12 := en_i_lt_f c723
          refine At.enter rfl ?_
          refine r_aload_n rfl ?_
          refine q_inlV 64 rfl [.ref 176] [] (Nat.le_of_ble_eq_true rfl) rfl ?_
          refine Ev.mk rfl rfl ⟨Nat.le_of_ble_eq_true rfl, Or.inr (q_rc hI688.1 kx_176 rfl)⟩ ?_
          show At _ none _ _ (0, [(0, .ref 176)], [], (_, _)) _
          refine At.enter rfl ?_
          refine r_aload_n rfl ?_
          obtain ⟨v840, hv840⟩ : ∃ v, gI g0 176 2 = v := ⟨_, rfl⟩
          refine q_getI (Sh.int hI688.1 kx_176 rfl) v840 (((hF689.1 176 2 (by decide)).trans ((hF680.1 176 2 (by decide)).trans (hF671.1 176 2 (by decide)))).trans hv840) ?_
          refine r_iconst (-1) rfl ?_
          refine r_ics 8 rfl (fun c841 => ?_) (fun c841 => ?_)
          · have c841_ : v840.toInt ≠ (-1) := en_i_ne_t c841
            refine At.enter rfl ?_
            refine q_vret ?_
            refine At.enter rfl ?_
            refine r_vret ?_
            have x842 := rX.e hI688 (b := 2) ((((hF689.1 176 2 (by decide)).trans ((hF680.1 176 2 (by decide)).trans (hF671.1 176 2 (by decide)))).trans hv840))
            have x843 := rX.e hI0 (b := 2) (hv840)
            obtain ⟨v844, hv844⟩ : ∃ v, gI g0 176 4 = v := ⟨_, rfl⟩
            have rv844 := RgF.at hI0.2.1 (p := 176) (b := 4) rfl
            rw [hv844] at rv844
            dsimp only at rv844
            have tv844 := congrArg Int32.toInt hv844
            have x845 := rX.e hI688 (b := 4) ((((hF689.1 176 4 (by decide)).trans ((hF680.1 176 4 (by decide)).trans (hF671.1 176 4 (by decide)))).trans hv844))
            have x846 := rX.e hI0 (b := 4) (hv844)
            obtain ⟨v847, hv847⟩ : ∃ v, gI g0 176 6 = v := ⟨_, rfl⟩
            have tv847 := congrArg Int32.toInt hv847
            have x848 := rX.e hI688 (b := 6) ((((hF689.1 176 6 (by decide)).trans ((hF680.1 176 6 (by decide)).trans (hF671.1 176 6 (by decide)))).trans hv847))
            have x849 := rX.e hI0 (b := 6) (hv847)
            have x850 := kX.e hI0 (hv722)
            have x851 := kX.e hI688 ((((hF689.1 177 3 (by decide)).trans ((hF680.1 177 3 (by decide)).trans (hF671.1 177 3 (by decide)))).trans hv722))
            exact ⟨_, rfl, hI688, hF692, rfl, ⟨(TKX.c hT (((hF689.2.1 175 (by decide)).trans ((hF680.2.1 175 (by decide)).trans (hF671.2.1 175 (by decide))))) (((hF689.1 174 1 (by decide)).trans ((hF680.1 174 1 (by decide)).trans (hF671.1 174 1 (by decide))))) (((hF689.1 176 3 (by decide)).trans ((hF680.1 176 3 (by decide)).trans (hF671.1 176 3 (by decide))))) (((hF689.1 176 4 (by decide)).trans ((hF680.1 176 4 (by decide)).trans (hF671.1 176 4 (by decide))))) (((hF689.1 176 5 (by decide)).trans ((hF680.1 176 5 (by decide)).trans (hF671.1 176 5 (by decide)))))), (PRG0.fail 1 (rX.c (b := 4) (((hF689.1 176 4 (by decide)).trans ((hF680.1 176 4 (by decide)).trans (hF671.1 176 4 (by decide)))))) (fun _ => by omega) (fun _ => by omega) (by omega)).le (by omega), fun c0 h => h.fail (fun _ => S.clsF (TKX.some hT).choose_spec (by omega)) (fun _ => by omega) (fun _ => by omega) (by omega)⟩⟩
          · have c841_ : v840.toInt = (-1) := en_i_ne_f c841
            refine At.enter rfl ?_
            refine r_aload_n rfl ?_
            refine r_aload_n rfl ?_
            obtain ⟨v852, hv852⟩ : ∃ v, gI g0 176 4 = v := ⟨_, rfl⟩
            have rv852 := RgF.at hI0.2.1 (p := 176) (b := 4) rfl
            rw [hv852] at rv852
            dsimp only at rv852
            refine q_getI (Sh.int hI688.1 kx_176 rfl) v852 (((hF689.1 176 4 (by decide)).trans ((hF680.1 176 4 (by decide)).trans (hF671.1 176 4 (by decide)))).trans hv852) ?_
            refine q_putI (Sh.int hI688.1 kx_176 rfl) rfl ?_
            have hI853 := HI.wI0 hI688 kx_176 rfl (p := 176) (b := 2) (v := v852) rfl
            have hF854 := Fr.wI (p := 176) (b := 2) (v := v852) hF692 rfl
            refine Ar.fall 16 rfl ?_
            refine At.enter rfl ?_
            refine q_vret ?_
            refine At.enter rfl ?_
            refine r_vret ?_
            have x855 := rX.e hI853 (b := 2) ((gI_sI_eq hI688.1 kx_176 rfl _))
            have x856 := rX.e hI0 (b := 2) (hv840)
            have x857 := rX.e hI853 (b := 4) ((((gI_sI_ne (by decide)).trans ((hF689.1 176 4 (by decide)).trans ((hF680.1 176 4 (by decide)).trans (hF671.1 176 4 (by decide))))).trans hv852))
            have x858 := rX.e hI0 (b := 4) (hv852)
            obtain ⟨v859, hv859⟩ : ∃ v, gI g0 176 6 = v := ⟨_, rfl⟩
            have tv859 := congrArg Int32.toInt hv859
            have x860 := rX.e hI853 (b := 6) ((((gI_sI_ne (by decide)).trans ((hF689.1 176 6 (by decide)).trans ((hF680.1 176 6 (by decide)).trans (hF671.1 176 6 (by decide))))).trans hv859))
            have x861 := rX.e hI0 (b := 6) (hv859)
            have x862 := kX.e hI0 (hv722)
            have x863 := kX.e hI853 ((((gI_sI_ne (by decide)).trans ((hF689.1 177 3 (by decide)).trans ((hF680.1 177 3 (by decide)).trans (hF671.1 177 3 (by decide))))).trans hv722))
            exact ⟨_, rfl, hI853, hF854, rfl, ⟨(TKX.c hT (((gA_sI).trans ((hF689.2.1 175 (by decide)).trans ((hF680.2.1 175 (by decide)).trans (hF671.2.1 175 (by decide)))))) (((gI_sI_ne (by decide)).trans ((hF689.1 174 1 (by decide)).trans ((hF680.1 174 1 (by decide)).trans (hF671.1 174 1 (by decide)))))) (((gI_sI_ne (by decide)).trans ((hF689.1 176 3 (by decide)).trans ((hF680.1 176 3 (by decide)).trans (hF671.1 176 3 (by decide)))))) (((gI_sI_ne (by decide)).trans ((hF689.1 176 4 (by decide)).trans ((hF680.1 176 4 (by decide)).trans (hF671.1 176 4 (by decide)))))) (((gI_sI_ne (by decide)).trans ((hF689.1 176 5 (by decide)).trans ((hF680.1 176 5 (by decide)).trans (hF671.1 176 5 (by decide))))))), (PRG0.fail 1 (rX.c (b := 4) (((gI_sI_ne (by decide)).trans ((hF689.1 176 4 (by decide)).trans ((hF680.1 176 4 (by decide)).trans (hF671.1 176 4 (by decide))))))) (fun _ => by omega) (fun _ => by omega) (by omega)).le (by omega), fun c0 h => h.fail (fun _ => S.clsF (TKX.some hT).choose_spec (by omega)) (fun _ => by omega) (fun _ => by omega) (by omega)⟩⟩
    · have c685_ : v681.toInt ≠ 0 := en_k_eq_f c685
      have i864 := BL.yes hb684 (by omega)
      refine At.enter rfl ?_
      refine r_iconst 1 rfl ?_
      refine r_goto ?_
      refine At.enter rfl ?_
      refine r_istore_n ([(1, .int 1), (0, .ref 176)]) rfl ?_
      refine r_aload_n rfl ?_
      refine q_getR (Sh.ref hI679.1 kx_176 rfl) ?_
      obtain ⟨v865, hv865⟩ : ∃ v, gI g0 177 3 = v := ⟨_, rfl⟩
      have rv865 := RgF.at hI0.2.1 (p := 177) (b := 3) rfl
      rw [hv865] at rv865
      dsimp only at rv865
      refine q_getI (Sh.int hI679.1 kx_177 rfl) v865 (((hF680.1 177 3 (by decide)).trans (hF671.1 177 3 (by decide))).trans hv865) ?_
      refine r_istore_n ([(2, .int v865), (1, .int 1), (0, .ref 176)]) rfl ?_
      refine r_iload_n rfl ?_
      refine r_iconst (-1) rfl ?_
      refine r_icf 54 rfl (by decide) ?_
      refine At.enter rfl ?_
      refine r_iload_n rfl ?_
      refine r_bipush 12 rfl ?_
      refine r_ics 60 rfl (fun c866 => ?_) (fun c866 => ?_)
      · have c866_ : v865.toInt < 12 := en_i_lt_t c866
        refine At.enter rfl ?_
        refine r_aload_n rfl ?_
        refine r_callV 69 rfl [.ref 176] [] (Nat.le_of_ble_eq_true rfl) rfl (zT_X5_step_176 _ hI679 (TKX.c hT (((hF680.2.1 175 (by decide)).trans (hF671.2.1 175 (by decide)))) (((hF680.1 174 1 (by decide)).trans (hF671.1 174 1 (by decide)))) (((hF680.1 176 3 (by decide)).trans (hF671.1 176 3 (by decide)))) (((hF680.1 176 4 (by decide)).trans (hF671.1 176 4 (by decide)))) (((hF680.1 176 5 (by decide)).trans (hF671.1 176 5 (by decide))))).1 (TKX.c hT (((hF680.2.1 175 (by decide)).trans (hF671.2.1 175 (by decide)))) (((hF680.1 174 1 (by decide)).trans (hF671.1 174 1 (by decide)))) (((hF680.1 176 3 (by decide)).trans (hF671.1 176 3 (by decide)))) (((hF680.1 176 4 (by decide)).trans (hF671.1 176 4 (by decide)))) (((hF680.1 176 5 (by decide)).trans (hF671.1 176 5 (by decide))))).2.1.le.2.1) ?_
        rintro _ _ ⟨g867, rfl, hI868, hF869, rfl, hr871⟩
        refine At.stn ?_
        have hF872 := Fr.tr hF683 hF869 rfl rfl
        have tok873_ := hr871.2
        rw [TX.c (((hF680.2.1 175 (by decide)).trans (hF671.2.1 175 (by decide)))), nX.c (((hF680.1 174 1 (by decide)).trans (hF671.1 174 1 (by decide)))), rX.c (b := 5) (((hF680.1 176 5 (by decide)).trans (hF671.1 176 5 (by decide))))] at tok873_
        have tok873 := TKX.tok hT tok873_
        have hT874 := hr871.1
        obtain ⟨v875, hv875⟩ : ∃ v, gI g0 176 4 = v := ⟨_, rfl⟩
        have rv875 := RgF.at hI0.2.1 (p := 176) (b := 4) rfl
        rw [hv875] at rv875
        dsimp only at rv875
        have tv875 := congrArg Int32.toInt hv875
        have x876 := rX.e hI679 (b := 4) ((((hF680.1 176 4 (by decide)).trans (hF671.1 176 4 (by decide))).trans hv875))
        obtain ⟨v877, hv877⟩ : ∃ v, gI g867 176 4 = v := ⟨_, rfl⟩
        have rv877 := RgF.at hI868.2.1 (p := 176) (b := 4) rfl
        rw [hv877] at rv877
        dsimp only at rv877
        have tv877 := congrArg Int32.toInt hv877
        have x878 := rX.e hI868 (b := 4) (hv877)
        refine At.enter rfl ?_
        refine r_aload_n rfl ?_
        refine q_getR (Sh.ref hI868.1 kx_176 rfl) ?_
        refine r_iload_n rfl ?_
        refine r_iconst 1 rfl ?_
        refine q_iadd (v865.toInt + 1) rfl (by omega) (fun v879 hv879 => ?_)
        refine q_putI (Sh.int hI868.1 kx_177 rfl) rfl ?_
        have hI880 := HI.wI1 hI868 kx_177 rfl (p := 177) (b := 3) (v := v879) rfl (by dsimp only; omega)
        have hF881 := Fr.wI (p := 177) (b := 3) (v := v879) hF872 rfl
        refine r_aload_n rfl ?_
        refine q_getR (Sh.ref hI880.1 kx_176 rfl) ?_
        refine q_getR (Sh.ref hI880.1 kx_177 rfl) ?_
        refine r_iload_n rfl ?_
        refine r_iload_n rfl ?_
        refine q_iast (Sh.arr hI880.1 ka_180) (v865.toInt) rfl (by omega) ?_
        have hI882 := HI.wA0 hI880 ka_180 (p := 180) rfl rfl (v865.toInt) (1)
        have hF883 := Fr.wA (p := 180) (j := v865.toInt) (v := 1) hF881 rfl
        refine r_aload_n rfl ?_
        refine q_getR (Sh.ref hI882.1 kx_176 rfl) ?_
        refine r_dup rfl ?_
        obtain ⟨v884, hv884⟩ : ∃ v, gI g0 177 4 = v := ⟨_, rfl⟩
        refine q_getI (Sh.int hI882.1 kx_177 rfl) v884 (((gI_sW).trans ((gI_sI_ne (by decide)).trans ((hF869.1 177 4 (by decide)).trans ((hF680.1 177 4 (by decide)).trans (hF671.1 177 4 (by decide)))))).trans hv884) ?_
        refine r_iconst 1 rfl ?_
        refine r_iload_n rfl ?_
        refine r_ishl 2 (by decide) ?_
        refine q_iorO (fun v885 hv885 => ?_)
        refine q_putI (Sh.int hI882.1 kx_177 rfl) rfl ?_
        have hI886 := HI.wI0 hI882 kx_177 rfl (p := 177) (b := 4) (v := v885) rfl
        have hF887 := Fr.wI (p := 177) (b := 4) (v := v885) hF883 rfl
        refine r_aload_n rfl ?_
        refine q_getR (Sh.ref hI886.1 kx_176 rfl) ?_
        refine q_getR (Sh.ref hI886.1 kx_177 rfl) ?_
        refine r_iload_n rfl ?_
        refine r_aload_n rfl ?_
        refine q_getR (Sh.ref hI886.1 kx_176 rfl) ?_
        obtain ⟨v888, hv888⟩ : ∃ v, gI g0 177 0 = v := ⟨_, rfl⟩
        have rv888 := RgF.at hI0.2.1 (p := 177) (b := 0) rfl
        rw [hv888] at rv888
        dsimp only at rv888
        refine q_getI (Sh.int hI886.1 kx_177 rfl) v888 (((gI_sI_ne (by decide)).trans ((gI_sW).trans ((gI_sI_ne (by decide)).trans ((hF869.1 177 0 (by decide)).trans ((hF680.1 177 0 (by decide)).trans (hF671.1 177 0 (by decide))))))).trans hv888) ?_
        refine q_iast (Sh.arr hI886.1 ka_181) (v865.toInt) rfl (by omega) ?_
        have hI889 := HI.wA0 hI886 ka_181 (p := 181) rfl rfl (v865.toInt) (v888)
        have hF890 := Fr.wA (p := 181) (j := v865.toInt) (v := v888) hF887 rfl
        refine r_iload_n rfl ?_
        refine r_iconst 2 rfl ?_
        refine r_icf 125 rfl (by decide) ?_
        refine At.enter rfl ?_
        refine r_aload_n rfl ?_
        refine r_iconst 2 rfl ?_
        refine r_iconst 0 rfl ?_
        have zv891 : (2 : Int32).toInt = 2 := rfl
        have zv892 : (0 : Int32).toInt = 0 := rfl
        refine r_callV 131 rfl [.ref 176, .int 2, .int 0] [] (Nat.le_of_ble_eq_true rfl) rfl (zT_X5_readJoined_176 _ hI889 2 (by decide) 0 (by decide) (TKX.c hT874 (((gA_sA_ne (by decide)).trans ((gA_sI).trans ((gA_sA_ne (by decide)).trans (gA_sI))))) (((gI_sW).trans ((gI_sI_ne (by decide)).trans ((gI_sW).trans (gI_sI_ne (by decide)))))) (((gI_sW).trans ((gI_sI_ne (by decide)).trans ((gI_sW).trans (gI_sI_ne (by decide)))))) (((gI_sW).trans ((gI_sI_ne (by decide)).trans ((gI_sW).trans (gI_sI_ne (by decide)))))) (((gI_sW).trans ((gI_sI_ne (by decide)).trans ((gI_sW).trans (gI_sI_ne (by decide)))))))) ?_
        rintro _ _ ⟨g893, rfl, hI894, hF895, rfl, hr897⟩
        refine At.stn ?_
        have hF898 := Fr.tr hF890 hF895 rfl rfl
        have zv899 : (2 : Int32).toInt = 2 := rfl
        have zv900 : (0 : Int32).toInt = 0 := rfl
        obtain ⟨v905, hv905⟩ : ∃ v, gI g0 176 2 = v := ⟨_, rfl⟩
        have tv905 := congrArg Int32.toInt hv905
        have x906 := rX.e hI889 (b := 2) ((((gI_sW).trans ((gI_sI_ne (by decide)).trans ((gI_sW).trans ((gI_sI_ne (by decide)).trans ((hF869.1 176 2 (by decide)).trans ((hF680.1 176 2 (by decide)).trans (hF671.1 176 2 (by decide)))))))).trans hv905))
        have x907 := rX.e hI889 (b := 4) ((((gI_sW).trans ((gI_sI_ne (by decide)).trans ((gI_sW).trans (gI_sI_ne (by decide))))).trans hv877))
        obtain ⟨o901, o902, o903, o904⟩ := hr897
        have o908 := OPD.tc o903 (((gA_sA_ne (by decide)).trans ((gA_sI).trans ((gA_sA_ne (by decide)).trans ((gA_sI).trans ((hF869.2.1 175 (by decide)).trans ((hF680.2.1 175 (by decide)).trans (hF671.2.1 175 (by decide))))))))) (((gI_sW).trans ((gI_sI_ne (by decide)).trans ((gI_sW).trans ((gI_sI_ne (by decide)).trans ((hF869.1 174 1 (by decide)).trans ((hF680.1 174 1 (by decide)).trans (hF671.1 174 1 (by decide)))))))))
        rw [rX.c (b := 2) (((gI_sW).trans ((gI_sI_ne (by decide)).trans ((gI_sW).trans (gI_sI_ne (by decide)))))), rX.c (b := 4) (((gI_sW).trans ((gI_sI_ne (by decide)).trans ((gI_sW).trans (gI_sI_ne (by decide))))))] at o902
        have o909 := OPD.fr o908 (rX.c (b := 2) (((gI_sW).trans ((gI_sI_ne (by decide)).trans ((gI_sW).trans (gI_sI_ne (by decide))))))) (rX.c (b := 4) (((gI_sW).trans ((gI_sI_ne (by decide)).trans ((gI_sW).trans (gI_sI_ne (by decide))))))) (rX.c (b := 6) (((gI_sW).trans ((gI_sI_ne (by decide)).trans ((gI_sW).trans (gI_sI_ne (by decide)))))))
        obtain ⟨v910, hv910⟩ : ∃ v, gI g893 176 2 = v := ⟨_, rfl⟩
        have tv910 := congrArg Int32.toInt hv910
        have x911 := rX.e hI894 (b := 2) (hv910)
        obtain ⟨v912, hv912⟩ : ∃ v, gI g893 176 4 = v := ⟨_, rfl⟩
        have rv912 := RgF.at hI894.2.1 (p := 176) (b := 4) rfl
        rw [hv912] at rv912
        dsimp only at rv912
        have tv912 := congrArg Int32.toInt hv912
        have x913 := rX.e hI894 (b := 4) (hv912)
        refine At.enter rfl ?_
        refine r_aload_n rfl ?_
        refine q_getR (Sh.ref hI894.1 kx_176 rfl) ?_
        refine q_getR (Sh.ref hI894.1 kx_177 rfl) ?_
        refine r_iload_n rfl ?_
        refine r_aload_n rfl ?_
        refine q_getR (Sh.ref hI894.1 kx_176 rfl) ?_
        obtain ⟨v914, hv914⟩ : ∃ v, gI g893 177 0 = v := ⟨_, rfl⟩
        have rv914 := RgF.at hI894.2.1 (p := 177) (b := 0) rfl
        rw [hv914] at rv914
        dsimp only at rv914
        refine q_getI (Sh.int hI894.1 kx_177 rfl) v914 hv914 ?_
        refine q_iast (Sh.arr hI894.1 ka_182) (v865.toInt) rfl (by omega) ?_
        have hI915 := HI.wA0 hI894 ka_182 (p := 182) rfl rfl (v865.toInt) (v914)
        have hF916 := Fr.wA (p := 182) (j := v865.toInt) (v := v914) hF898 rfl
        refine r_aload_n rfl ?_
        refine q_getI (Sh.int hI915.1 kx_176 rfl) v910 ((gI_sW).trans hv910) ?_
        refine r_iconst (-1) rfl ?_
        refine r_ics 155 rfl (fun c917 => ?_) (fun c917 => ?_)
        · have c917_ : v910.toInt ≠ (-1) := en_i_ne_t c917
          refine At.enter rfl ?_
          refine r_aload_n rfl ?_
          refine q_getR (Sh.ref hI915.1 kx_176 rfl) ?_
          refine q_getR (Sh.ref hI915.1 kx_177 rfl) ?_
          refine r_iload_n rfl ?_
          refine r_aload_n rfl ?_
          refine q_getR (Sh.ref hI915.1 kx_176 rfl) ?_
          refine q_getI (Sh.int hI915.1 kx_177 rfl) v914 ((gI_sW).trans hv914) ?_
          refine q_iast (Sh.arr hI915.1 ka_183) (v865.toInt) rfl (by omega) ?_
          have hI918 := HI.wA0 hI915 ka_183 (p := 183) rfl rfl (v865.toInt) (v914)
          have hF919 := Fr.wA (p := 183) (j := v865.toInt) (v := v914) hF916 rfl
          refine r_vret ?_
          have x920 := rX.e hI918 (b := 2) ((((gI_sW).trans (gI_sW)).trans hv910))
          have x921 := rX.e hI0 (b := 2) (hv905)
          have x922 := rX.e hI918 (b := 4) ((((gI_sW).trans (gI_sW)).trans hv912))
          have x923 := rX.e hI0 (b := 4) (hv875)
          obtain ⟨v924, hv924⟩ : ∃ v, gI g893 176 6 = v := ⟨_, rfl⟩
          have tv924 := congrArg Int32.toInt hv924
          have x925 := rX.e hI918 (b := 6) ((((gI_sW).trans (gI_sW)).trans hv924))
          obtain ⟨v926, hv926⟩ : ∃ v, gI g0 176 6 = v := ⟨_, rfl⟩
          have tv926 := congrArg Int32.toInt hv926
          have x927 := rX.e hI0 (b := 6) (hv926)
          have x928 := rX.e hI868 (b := 2) ((((hF869.1 176 2 (by decide)).trans ((hF680.1 176 2 (by decide)).trans (hF671.1 176 2 (by decide)))).trans hv905))
          have x929 := rX.e hI868 (b := 4) (hv877)
          have x930 := rX.e hI894 (b := 2) (hv910)
          have x931 := rX.e hI894 (b := 4) (hv912)
          obtain ⟨v932, hv932⟩ : ∃ v, gI g893 177 3 = v := ⟨_, rfl⟩
          have rv932 := RgF.at hI894.2.1 (p := 177) (b := 3) rfl
          rw [hv932] at rv932
          dsimp only at rv932
          have tv932 := congrArg Int32.toInt hv932
          have x933 := kX.e hI0 (hv865)
          have x934 := kX.e hI918 ((((gI_sW).trans (gI_sW)).trans hv932))
          exact ⟨_, rfl, hI918, hF919, rfl, ⟨(TKX.c o901 (((gA_sA_ne (by decide)).trans (gA_sA_ne (by decide)))) (((gI_sW).trans (gI_sW))) (((gI_sW).trans (gI_sW))) (((gI_sW).trans (gI_sW))) (((gI_sW).trans (gI_sW)))), ((PRG0.tr ((PRG0.tr (PRG0.step hT tok873_ (rX.c (b := 2) (((hF869.1 176 2 (by decide)).trans ((hF680.1 176 2 (by decide)).trans (hF671.1 176 2 (by decide)))))) (by omega)) (o902))) (PRG0.eq (rX.c (b := 4) (((gI_sW).trans (gI_sW)))) (rX.c (b := 2) (((gI_sW).trans (gI_sW))))))).le (by omega), fun c0 h => by have h1 : CST _ _ c0 g867 1 [3] (kX g0 + 1) := CLX.head h (fun _ => S.cls tok873 (by omega) (by omega) rfl) (rX.c (b := 2) (((hF869.1 176 2 (by decide)).trans ((hF680.1 176 2 (by decide)).trans (hF671.1 176 2 (by decide)))))) (rX.c (b := 6) (((hF869.1 176 6 (by decide)).trans ((hF680.1 176 6 (by decide)).trans (hF671.1 176 6 (by decide)))))); have h3 := CLX.sum o909 h1 (TKX.someC o901 (((hF895.2.1 175 (by decide)).trans ((gA_sA_ne (by decide)).trans ((gA_sI).trans ((gA_sA_ne (by decide)).trans ((gA_sI).trans ((hF869.2.1 175 (by decide)).trans ((hF680.2.1 175 (by decide)).trans (hF671.2.1 175 (by decide)))))))))) (((hF895.1 174 1 (by decide)).trans ((gI_sW).trans ((gI_sI_ne (by decide)).trans ((gI_sW).trans ((gI_sI_ne (by decide)).trans ((hF869.1 174 1 (by decide)).trans ((hF680.1 174 1 (by decide)).trans (hF671.1 174 1 (by decide))))))))))).choose_spec o904; have h6 : CST _ _ c0 g893 8 [] (kX g0 + 1) := by first | exact h3.bad (by omega) rfl | exact h3.eps (fun _ => S.noif (TKX.someC o901 (((hF895.2.1 175 (by decide)).trans ((gA_sA_ne (by decide)).trans ((gA_sI).trans ((gA_sA_ne (by decide)).trans ((gA_sI).trans ((hF869.2.1 175 (by decide)).trans ((hF680.2.1 175 (by decide)).trans (hF671.2.1 175 (by decide)))))))))) (((hF895.1 174 1 (by decide)).trans ((gI_sW).trans ((gI_sI_ne (by decide)).trans ((gI_sW).trans ((gI_sI_ne (by decide)).trans ((hF869.1 174 1 (by decide)).trans ((hF680.1 174 1 (by decide)).trans (hF671.1 174 1 (by decide))))))))))).choose_spec (by omega)); have h9 := h6.eq (rX.c (b := 2) (((gI_sW).trans (gI_sW)))) (rX.c (b := 4) (((gI_sW).trans (gI_sW)))) (rX.c (b := 6) (((gI_sW).trans (gI_sW)))); rw [x934]; rw [show (kX g0 + 1 : Int) = v932.toInt from by omega] at h9; exact h9⟩⟩
        · have c917_ : v910.toInt = (-1) := en_i_ne_f c917
          refine At.enter rfl ?_
          refine r_aload_n rfl ?_
          refine r_ldcS (by decide) 17 rfl ?_
          refine r_callV 161 rfl [.ref 176, .float 17] [] (Nat.le_of_ble_eq_true rfl) rfl (zT_X5_isWord_176 _ hI915 17 (by decide) (TKX.c o901 ((gA_sA_ne (by decide))) ((gI_sW)) ((gI_sW)) ((gI_sW)) ((gI_sW)))) ?_
          rintro _ _ ⟨g935, rfl, hI936, hF937, v938, rfl, hr939⟩
          refine At.sti ?_
          have hF940 := Fr.tr hF916 hF937 rfl rfl
          have hb941 : BL (CDX g893 = 10) v938.toInt := by have z := ISW.code (c := 10) hr939.2 (TKX.c o901 ((gA_sA_ne (by decide))) ((gI_sW)) ((gI_sW)) ((gI_sW)) ((gI_sW))) (isWC_d (by omega)) (by decide +kernel); rw [CDX.c ((gA_sA_ne (by decide))) ((gI_sW)) ((gI_sW)) ((gI_sW))] at z; exact z
          refine At.enter rfl ?_
          refine r_ifs 164 rfl (fun c942 => ?_) (fun c942 => ?_)
          · have c942_ : v938.toInt = 0 := en_k_eq_t c942
            have i943 := BL.no hb941 (by omega)
            refine At.enter rfl ?_
            refine r_aload_n rfl ?_
            refine q_getR (Sh.ref hI936.1 kx_176 rfl) ?_
            refine q_getR (Sh.ref hI936.1 kx_177 rfl) ?_
            refine r_iload_n rfl ?_
            refine r_aload_n rfl ?_
            refine q_getR (Sh.ref hI936.1 kx_176 rfl) ?_
            refine q_getI (Sh.int hI936.1 kx_177 rfl) v914 (((hF937.1 177 0 (by decide)).trans (gI_sW)).trans hv914) ?_
            refine q_iast (Sh.arr hI936.1 ka_183) (v865.toInt) rfl (by omega) ?_
            have hI944 := HI.wA0 hI936 ka_183 (p := 183) rfl rfl (v865.toInt) (v914)
            have hF945 := Fr.wA (p := 183) (j := v865.toInt) (v := v914) hF940 rfl
            refine r_vret ?_
            have x946 := rX.e hI944 (b := 2) ((((gI_sW).trans ((hF937.1 176 2 (by decide)).trans (gI_sW))).trans hv910))
            have x947 := rX.e hI0 (b := 2) (hv905)
            have x948 := rX.e hI944 (b := 4) ((((gI_sW).trans ((hF937.1 176 4 (by decide)).trans (gI_sW))).trans hv912))
            have x949 := rX.e hI0 (b := 4) (hv875)
            obtain ⟨v950, hv950⟩ : ∃ v, gI g893 176 6 = v := ⟨_, rfl⟩
            have tv950 := congrArg Int32.toInt hv950
            have x951 := rX.e hI944 (b := 6) ((((gI_sW).trans ((hF937.1 176 6 (by decide)).trans (gI_sW))).trans hv950))
            obtain ⟨v952, hv952⟩ : ∃ v, gI g0 176 6 = v := ⟨_, rfl⟩
            have tv952 := congrArg Int32.toInt hv952
            have x953 := rX.e hI0 (b := 6) (hv952)
            have x954 := rX.e hI868 (b := 2) ((((hF869.1 176 2 (by decide)).trans ((hF680.1 176 2 (by decide)).trans (hF671.1 176 2 (by decide)))).trans hv905))
            have x955 := rX.e hI868 (b := 4) (hv877)
            have x956 := rX.e hI894 (b := 2) (hv910)
            have x957 := rX.e hI894 (b := 4) (hv912)
            obtain ⟨v958, hv958⟩ : ∃ v, gI g893 177 3 = v := ⟨_, rfl⟩
            have rv958 := RgF.at hI894.2.1 (p := 177) (b := 3) rfl
            rw [hv958] at rv958
            dsimp only at rv958
            have tv958 := congrArg Int32.toInt hv958
            have x959 := kX.e hI0 (hv865)
            have x960 := kX.e hI944 ((((gI_sW).trans ((hF937.1 177 3 (by decide)).trans (gI_sW))).trans hv958))
            exact ⟨_, rfl, hI944, hF945, rfl, ⟨(TKX.c o901 (((gA_sA_ne (by decide)).trans ((hF937.2.1 175 (by decide)).trans (gA_sA_ne (by decide))))) (((gI_sW).trans ((hF937.1 174 1 (by decide)).trans (gI_sW)))) (((gI_sW).trans ((hF937.1 176 3 (by decide)).trans (gI_sW)))) (((gI_sW).trans ((hF937.1 176 4 (by decide)).trans (gI_sW)))) (((gI_sW).trans ((hF937.1 176 5 (by decide)).trans (gI_sW))))), ((PRG0.tr ((PRG0.tr (PRG0.step hT tok873_ (rX.c (b := 2) (((hF869.1 176 2 (by decide)).trans ((hF680.1 176 2 (by decide)).trans (hF671.1 176 2 (by decide)))))) (by omega)) (o902))) (PRG0.eq (rX.c (b := 4) (((gI_sW).trans ((hF937.1 176 4 (by decide)).trans (gI_sW))))) (rX.c (b := 2) (((gI_sW).trans ((hF937.1 176 2 (by decide)).trans (gI_sW)))))))).le (by omega), fun c0 h => by have h1 : CST _ _ c0 g867 1 [3] (kX g0 + 1) := CLX.head h (fun _ => S.cls tok873 (by omega) (by omega) rfl) (rX.c (b := 2) (((hF869.1 176 2 (by decide)).trans ((hF680.1 176 2 (by decide)).trans (hF671.1 176 2 (by decide)))))) (rX.c (b := 6) (((hF869.1 176 6 (by decide)).trans ((hF680.1 176 6 (by decide)).trans (hF671.1 176 6 (by decide)))))); have h3 := CLX.sum o909 h1 (TKX.someC o901 (((hF895.2.1 175 (by decide)).trans ((gA_sA_ne (by decide)).trans ((gA_sI).trans ((gA_sA_ne (by decide)).trans ((gA_sI).trans ((hF869.2.1 175 (by decide)).trans ((hF680.2.1 175 (by decide)).trans (hF671.2.1 175 (by decide)))))))))) (((hF895.1 174 1 (by decide)).trans ((gI_sW).trans ((gI_sI_ne (by decide)).trans ((gI_sW).trans ((gI_sI_ne (by decide)).trans ((hF869.1 174 1 (by decide)).trans ((hF680.1 174 1 (by decide)).trans (hF671.1 174 1 (by decide))))))))))).choose_spec o904; have h6 : CST _ _ c0 g893 8 [] (kX g0 + 1) := by first | exact h3.bad (by omega) rfl | exact h3.eps (fun _ => S.noif (TKX.someC o901 (((hF895.2.1 175 (by decide)).trans ((gA_sA_ne (by decide)).trans ((gA_sI).trans ((gA_sA_ne (by decide)).trans ((gA_sI).trans ((hF869.2.1 175 (by decide)).trans ((hF680.2.1 175 (by decide)).trans (hF671.2.1 175 (by decide)))))))))) (((hF895.1 174 1 (by decide)).trans ((gI_sW).trans ((gI_sI_ne (by decide)).trans ((gI_sW).trans ((gI_sI_ne (by decide)).trans ((hF869.1 174 1 (by decide)).trans ((hF680.1 174 1 (by decide)).trans (hF671.1 174 1 (by decide))))))))))).choose_spec (by omega)); have h9 := h6.eq (rX.c (b := 2) (((gI_sW).trans ((hF937.1 176 2 (by decide)).trans (gI_sW))))) (rX.c (b := 4) (((gI_sW).trans ((hF937.1 176 4 (by decide)).trans (gI_sW))))) (rX.c (b := 6) (((gI_sW).trans ((hF937.1 176 6 (by decide)).trans (gI_sW))))); rw [x960]; rw [show (kX g0 + 1 : Int) = v958.toInt from by omega] at h9; exact h9⟩⟩
          · have c942_ : v938.toInt ≠ 0 := en_k_eq_f c942
            have i961 := BL.yes hb941 (by omega)
            refine At.enter rfl ?_
            refine r_aload_n rfl ?_
            refine r_callV 168 rfl [.ref 176] [] (Nat.le_of_ble_eq_true rfl) rfl (zT_X5_step_176 _ hI936 (TKX.c o901 (((hF937.2.1 175 (by decide)).trans (gA_sA_ne (by decide)))) (((hF937.1 174 1 (by decide)).trans (gI_sW))) (((hF937.1 176 3 (by decide)).trans (gI_sW))) (((hF937.1 176 4 (by decide)).trans (gI_sW))) (((hF937.1 176 5 (by decide)).trans (gI_sW)))).1 (TKX.c o901 (((hF937.2.1 175 (by decide)).trans (gA_sA_ne (by decide)))) (((hF937.1 174 1 (by decide)).trans (gI_sW))) (((hF937.1 176 3 (by decide)).trans (gI_sW))) (((hF937.1 176 4 (by decide)).trans (gI_sW))) (((hF937.1 176 5 (by decide)).trans (gI_sW)))).2.1.le.2.1) ?_
            rintro _ _ ⟨g962, rfl, hI963, hF964, rfl, hr966⟩
            refine At.stn ?_
            have hF967 := Fr.tr hF940 hF964 rfl rfl
            have tok968_ := hr966.2
            rw [TX.c (((hF937.2.1 175 (by decide)).trans (gA_sA_ne (by decide)))), nX.c (((hF937.1 174 1 (by decide)).trans (gI_sW))), rX.c (b := 5) (((hF937.1 176 5 (by decide)).trans (gI_sW)))] at tok968_
            have tok968 := TKX.tok o901 tok968_
            rw [TX.c (((hF895.2.1 175 (by decide)).trans ((gA_sA_ne (by decide)).trans ((gA_sI).trans ((gA_sA_ne (by decide)).trans ((gA_sI).trans ((hF869.2.1 175 (by decide)).trans ((hF680.2.1 175 (by decide)).trans (hF671.2.1 175 (by decide)))))))))), nX.c (((hF895.1 174 1 (by decide)).trans ((gI_sW).trans ((gI_sI_ne (by decide)).trans ((gI_sW).trans ((gI_sI_ne (by decide)).trans ((hF869.1 174 1 (by decide)).trans ((hF680.1 174 1 (by decide)).trans (hF671.1 174 1 (by decide))))))))))] at tok968
            have hT969 := hr966.1
            have x970 := rX.e hI936 (b := 4) ((((hF937.1 176 4 (by decide)).trans (gI_sW)).trans hv912))
            obtain ⟨v971, hv971⟩ : ∃ v, gI g962 176 4 = v := ⟨_, rfl⟩
            have rv971 := RgF.at hI963.2.1 (p := 176) (b := 4) rfl
            rw [hv971] at rv971
            dsimp only at rv971
            have tv971 := congrArg Int32.toInt hv971
            have x972 := rX.e hI963 (b := 4) (hv971)
            refine At.enter rfl ?_
            refine r_aload_n rfl ?_
            refine r_iconst 0 rfl ?_
            refine r_iconst 0 rfl ?_
            have zv973 : (0 : Int32).toInt = 0 := rfl
            have zv974 : (0 : Int32).toInt = 0 := rfl
            refine r_callV 174 rfl [.ref 176, .int 0, .int 0] [] (Nat.le_of_ble_eq_true rfl) rfl (zT_X5_readJoined_176 _ hI963 0 (by decide) 0 (by decide) hT969) ?_
            rintro _ _ ⟨g975, rfl, hI976, hF977, rfl, hr979⟩
            refine At.stn ?_
            have hF980 := Fr.tr hF967 hF977 rfl rfl
            have zv981 : (0 : Int32).toInt = 0 := rfl
            have zv982 : (0 : Int32).toInt = 0 := rfl
            have x987 := rX.e hI963 (b := 2) ((((hF964.1 176 2 (by decide)).trans ((hF937.1 176 2 (by decide)).trans (gI_sW))).trans hv910))
            have x988 := rX.e hI963 (b := 4) (hv971)
            obtain ⟨o983, o984, o985, o986⟩ := hr979
            have o989 := OPD.tc o985 (((hF964.2.1 175 (by decide)).trans ((hF937.2.1 175 (by decide)).trans ((gA_sA_ne (by decide)).trans ((hF895.2.1 175 (by decide)).trans ((gA_sA_ne (by decide)).trans ((gA_sI).trans ((gA_sA_ne (by decide)).trans ((gA_sI).trans ((hF869.2.1 175 (by decide)).trans ((hF680.2.1 175 (by decide)).trans (hF671.2.1 175 (by decide))))))))))))) (((hF964.1 174 1 (by decide)).trans ((hF937.1 174 1 (by decide)).trans ((gI_sW).trans ((hF895.1 174 1 (by decide)).trans ((gI_sW).trans ((gI_sI_ne (by decide)).trans ((gI_sW).trans ((gI_sI_ne (by decide)).trans ((hF869.1 174 1 (by decide)).trans ((hF680.1 174 1 (by decide)).trans (hF671.1 174 1 (by decide)))))))))))))
            obtain ⟨v990, hv990⟩ : ∃ v, gI g975 176 2 = v := ⟨_, rfl⟩
            have tv990 := congrArg Int32.toInt hv990
            have x991 := rX.e hI976 (b := 2) (hv990)
            obtain ⟨v992, hv992⟩ : ∃ v, gI g975 176 4 = v := ⟨_, rfl⟩
            have rv992 := RgF.at hI976.2.1 (p := 176) (b := 4) rfl
            rw [hv992] at rv992
            dsimp only at rv992
            have tv992 := congrArg Int32.toInt hv992
            have x993 := rX.e hI976 (b := 4) (hv992)
            refine At.enter rfl ?_
            refine r_aload_n rfl ?_
            refine q_getR (Sh.ref hI976.1 kx_176 rfl) ?_
            refine q_getR (Sh.ref hI976.1 kx_177 rfl) ?_
            refine r_iload_n rfl ?_
            refine r_aload_n rfl ?_
            refine q_getR (Sh.ref hI976.1 kx_176 rfl) ?_
            obtain ⟨v994, hv994⟩ : ∃ v, gI g975 177 0 = v := ⟨_, rfl⟩
            have rv994 := RgF.at hI976.2.1 (p := 177) (b := 0) rfl
            rw [hv994] at rv994
            dsimp only at rv994
            refine q_getI (Sh.int hI976.1 kx_177 rfl) v994 hv994 ?_
            refine q_iast (Sh.arr hI976.1 ka_183) (v865.toInt) rfl (by omega) ?_
            have hI995 := HI.wA0 hI976 ka_183 (p := 183) rfl rfl (v865.toInt) (v994)
            have hF996 := Fr.wA (p := 183) (j := v865.toInt) (v := v994) hF980 rfl
            refine r_vret ?_
            have x997 := rX.e hI995 (b := 2) (((gI_sW).trans hv990))
            have x998 := rX.e hI0 (b := 2) (hv905)
            have x999 := rX.e hI995 (b := 4) (((gI_sW).trans hv992))
            have x1000 := rX.e hI0 (b := 4) (hv875)
            obtain ⟨v1001, hv1001⟩ : ∃ v, gI g975 176 6 = v := ⟨_, rfl⟩
            have tv1001 := congrArg Int32.toInt hv1001
            have x1002 := rX.e hI995 (b := 6) (((gI_sW).trans hv1001))
            obtain ⟨v1003, hv1003⟩ : ∃ v, gI g0 176 6 = v := ⟨_, rfl⟩
            have tv1003 := congrArg Int32.toInt hv1003
            have x1004 := rX.e hI0 (b := 6) (hv1003)
            have x1005 := rX.e hI868 (b := 2) ((((hF869.1 176 2 (by decide)).trans ((hF680.1 176 2 (by decide)).trans (hF671.1 176 2 (by decide)))).trans hv905))
            have x1006 := rX.e hI868 (b := 4) (hv877)
            have x1007 := rX.e hI894 (b := 2) (hv910)
            have x1008 := rX.e hI894 (b := 4) (hv912)
            have x1009 := rX.e hI963 (b := 2) ((((hF964.1 176 2 (by decide)).trans ((hF937.1 176 2 (by decide)).trans (gI_sW))).trans hv910))
            have x1010 := rX.e hI963 (b := 4) (hv971)
            have x1011 := rX.e hI976 (b := 2) (hv990)
            have x1012 := rX.e hI976 (b := 4) (hv992)
            obtain ⟨v1013, hv1013⟩ : ∃ v, gI g975 177 3 = v := ⟨_, rfl⟩
            have rv1013 := RgF.at hI976.2.1 (p := 177) (b := 3) rfl
            rw [hv1013] at rv1013
            dsimp only at rv1013
            have tv1013 := congrArg Int32.toInt hv1013
            have x1014 := kX.e hI0 (hv865)
            have x1015 := kX.e hI995 (((gI_sW).trans hv1013))
            exact ⟨_, rfl, hI995, hF996, rfl, ⟨(TKX.c o983 ((gA_sA_ne (by decide))) ((gI_sW)) ((gI_sW)) ((gI_sW)) ((gI_sW))), ((PRG0.tr ((PRG0.tr ((PRG0.tr ((PRG0.tr (PRG0.step hT tok873_ (rX.c (b := 2) (((hF869.1 176 2 (by decide)).trans ((hF680.1 176 2 (by decide)).trans (hF671.1 176 2 (by decide)))))) (by omega)) (o902))) (PRG0.step o901 tok968_ (rX.c (b := 2) (((hF964.1 176 2 (by decide)).trans ((hF937.1 176 2 (by decide)).trans (gI_sW))))) (by omega)))) (o984))) (PRG0.eq (rX.c (b := 4) ((gI_sW))) (rX.c (b := 2) ((gI_sW)))))).le (by omega), fun c0 h => by have h1 : CST _ _ c0 g867 1 [3] (kX g0 + 1) := CLX.head h (fun _ => S.cls tok873 (by omega) (by omega) rfl) (rX.c (b := 2) (((hF869.1 176 2 (by decide)).trans ((hF680.1 176 2 (by decide)).trans (hF671.1 176 2 (by decide)))))) (rX.c (b := 6) (((hF869.1 176 6 (by decide)).trans ((hF680.1 176 6 (by decide)).trans (hF671.1 176 6 (by decide)))))); have h3 := CLX.sum o909 h1 (TKX.someC o901 (((hF895.2.1 175 (by decide)).trans ((gA_sA_ne (by decide)).trans ((gA_sI).trans ((gA_sA_ne (by decide)).trans ((gA_sI).trans ((hF869.2.1 175 (by decide)).trans ((hF680.2.1 175 (by decide)).trans (hF671.2.1 175 (by decide)))))))))) (((hF895.1 174 1 (by decide)).trans ((gI_sW).trans ((gI_sI_ne (by decide)).trans ((gI_sW).trans ((gI_sI_ne (by decide)).trans ((hF869.1 174 1 (by decide)).trans ((hF680.1 174 1 (by decide)).trans (hF671.1 174 1 (by decide))))))))))).choose_spec o904; have h4 := CLX.head h3 (fun _ => S.if_ tok968 (by omega)) (rX.c (b := 2) (((hF964.1 176 2 (by decide)).trans ((hF937.1 176 2 (by decide)).trans (gI_sW))))) (rX.c (b := 6) (((hF964.1 176 6 (by decide)).trans ((hF937.1 176 6 (by decide)).trans (gI_sW))))); have h6 := CLX.test o989 h4 (TKX.someC o983 (((hF977.2.1 175 (by decide)).trans ((hF964.2.1 175 (by decide)).trans ((hF937.2.1 175 (by decide)).trans ((gA_sA_ne (by decide)).trans ((hF895.2.1 175 (by decide)).trans ((gA_sA_ne (by decide)).trans ((gA_sI).trans ((gA_sA_ne (by decide)).trans ((gA_sI).trans ((hF869.2.1 175 (by decide)).trans ((hF680.2.1 175 (by decide)).trans (hF671.2.1 175 (by decide)))))))))))))) (((hF977.1 174 1 (by decide)).trans ((hF964.1 174 1 (by decide)).trans ((hF937.1 174 1 (by decide)).trans ((gI_sW).trans ((hF895.1 174 1 (by decide)).trans ((gI_sW).trans ((gI_sI_ne (by decide)).trans ((gI_sW).trans ((gI_sI_ne (by decide)).trans ((hF869.1 174 1 (by decide)).trans ((hF680.1 174 1 (by decide)).trans (hF671.1 174 1 (by decide))))))))))))))).choose_spec o986; have h9 := h6.eq (rX.c (b := 2) ((gI_sW))) (rX.c (b := 4) ((gI_sW))) (rX.c (b := 6) ((gI_sW))); rw [x1015]; rw [show (kX g0 + 1 : Int) = v1013.toInt from by omega] at h9; exact h9⟩⟩
      · have c866_ : v865.toInt ≥ 12 := en_i_lt_f c866
        refine At.enter rfl ?_
        refine r_aload_n rfl ?_
        refine q_inlV 64 rfl [.ref 176] [] (Nat.le_of_ble_eq_true rfl) rfl ?_
        refine Ev.mk rfl rfl ⟨Nat.le_of_ble_eq_true rfl, Or.inr (q_rc hI679.1 kx_176 rfl)⟩ ?_
        show At _ none _ _ (0, [(0, .ref 176)], [], (_, _)) _
        refine At.enter rfl ?_
        refine r_aload_n rfl ?_
        obtain ⟨v1016, hv1016⟩ : ∃ v, gI g0 176 2 = v := ⟨_, rfl⟩
        refine q_getI (Sh.int hI679.1 kx_176 rfl) v1016 (((hF680.1 176 2 (by decide)).trans (hF671.1 176 2 (by decide))).trans hv1016) ?_
        refine r_iconst (-1) rfl ?_
        refine r_ics 8 rfl (fun c1017 => ?_) (fun c1017 => ?_)
        · have c1017_ : v1016.toInt ≠ (-1) := en_i_ne_t c1017
          refine At.enter rfl ?_
          refine q_vret ?_
          refine At.enter rfl ?_
          refine r_vret ?_
          have x1018 := rX.e hI679 (b := 2) ((((hF680.1 176 2 (by decide)).trans (hF671.1 176 2 (by decide))).trans hv1016))
          have x1019 := rX.e hI0 (b := 2) (hv1016)
          obtain ⟨v1020, hv1020⟩ : ∃ v, gI g0 176 4 = v := ⟨_, rfl⟩
          have rv1020 := RgF.at hI0.2.1 (p := 176) (b := 4) rfl
          rw [hv1020] at rv1020
          dsimp only at rv1020
          have tv1020 := congrArg Int32.toInt hv1020
          have x1021 := rX.e hI679 (b := 4) ((((hF680.1 176 4 (by decide)).trans (hF671.1 176 4 (by decide))).trans hv1020))
          have x1022 := rX.e hI0 (b := 4) (hv1020)
          obtain ⟨v1023, hv1023⟩ : ∃ v, gI g0 176 6 = v := ⟨_, rfl⟩
          have tv1023 := congrArg Int32.toInt hv1023
          have x1024 := rX.e hI679 (b := 6) ((((hF680.1 176 6 (by decide)).trans (hF671.1 176 6 (by decide))).trans hv1023))
          have x1025 := rX.e hI0 (b := 6) (hv1023)
          have x1026 := kX.e hI0 (hv865)
          have x1027 := kX.e hI679 ((((hF680.1 177 3 (by decide)).trans (hF671.1 177 3 (by decide))).trans hv865))
          exact ⟨_, rfl, hI679, hF683, rfl, ⟨(TKX.c hT (((hF680.2.1 175 (by decide)).trans (hF671.2.1 175 (by decide)))) (((hF680.1 174 1 (by decide)).trans (hF671.1 174 1 (by decide)))) (((hF680.1 176 3 (by decide)).trans (hF671.1 176 3 (by decide)))) (((hF680.1 176 4 (by decide)).trans (hF671.1 176 4 (by decide)))) (((hF680.1 176 5 (by decide)).trans (hF671.1 176 5 (by decide))))), (PRG0.fail 1 (rX.c (b := 4) (((hF680.1 176 4 (by decide)).trans (hF671.1 176 4 (by decide))))) (fun _ => by omega) (fun _ => by omega) (by omega)).le (by omega), fun c0 h => h.fail (fun _ => S.clsF (TKX.some hT).choose_spec (by omega)) (fun _ => by omega) (fun _ => by omega) (by omega)⟩⟩
        · have c1017_ : v1016.toInt = (-1) := en_i_ne_f c1017
          refine At.enter rfl ?_
          refine r_aload_n rfl ?_
          refine r_aload_n rfl ?_
          obtain ⟨v1028, hv1028⟩ : ∃ v, gI g0 176 4 = v := ⟨_, rfl⟩
          have rv1028 := RgF.at hI0.2.1 (p := 176) (b := 4) rfl
          rw [hv1028] at rv1028
          dsimp only at rv1028
          refine q_getI (Sh.int hI679.1 kx_176 rfl) v1028 (((hF680.1 176 4 (by decide)).trans (hF671.1 176 4 (by decide))).trans hv1028) ?_
          refine q_putI (Sh.int hI679.1 kx_176 rfl) rfl ?_
          have hI1029 := HI.wI0 hI679 kx_176 rfl (p := 176) (b := 2) (v := v1028) rfl
          have hF1030 := Fr.wI (p := 176) (b := 2) (v := v1028) hF683 rfl
          refine Ar.fall 16 rfl ?_
          refine At.enter rfl ?_
          refine q_vret ?_
          refine At.enter rfl ?_
          refine r_vret ?_
          have x1031 := rX.e hI1029 (b := 2) ((gI_sI_eq hI679.1 kx_176 rfl _))
          have x1032 := rX.e hI0 (b := 2) (hv1016)
          have x1033 := rX.e hI1029 (b := 4) ((((gI_sI_ne (by decide)).trans ((hF680.1 176 4 (by decide)).trans (hF671.1 176 4 (by decide)))).trans hv1028))
          have x1034 := rX.e hI0 (b := 4) (hv1028)
          obtain ⟨v1035, hv1035⟩ : ∃ v, gI g0 176 6 = v := ⟨_, rfl⟩
          have tv1035 := congrArg Int32.toInt hv1035
          have x1036 := rX.e hI1029 (b := 6) ((((gI_sI_ne (by decide)).trans ((hF680.1 176 6 (by decide)).trans (hF671.1 176 6 (by decide)))).trans hv1035))
          have x1037 := rX.e hI0 (b := 6) (hv1035)
          have x1038 := kX.e hI0 (hv865)
          have x1039 := kX.e hI1029 ((((gI_sI_ne (by decide)).trans ((hF680.1 177 3 (by decide)).trans (hF671.1 177 3 (by decide)))).trans hv865))
          exact ⟨_, rfl, hI1029, hF1030, rfl, ⟨(TKX.c hT (((gA_sI).trans ((hF680.2.1 175 (by decide)).trans (hF671.2.1 175 (by decide))))) (((gI_sI_ne (by decide)).trans ((hF680.1 174 1 (by decide)).trans (hF671.1 174 1 (by decide))))) (((gI_sI_ne (by decide)).trans ((hF680.1 176 3 (by decide)).trans (hF671.1 176 3 (by decide))))) (((gI_sI_ne (by decide)).trans ((hF680.1 176 4 (by decide)).trans (hF671.1 176 4 (by decide))))) (((gI_sI_ne (by decide)).trans ((hF680.1 176 5 (by decide)).trans (hF671.1 176 5 (by decide)))))), (PRG0.fail 1 (rX.c (b := 4) (((gI_sI_ne (by decide)).trans ((hF680.1 176 4 (by decide)).trans (hF671.1 176 4 (by decide)))))) (fun _ => by omega) (fun _ => by omega) (by omega)).le (by omega), fun c0 h => h.fail (fun _ => S.clsF (TKX.some hT).choose_spec (by omega)) (fun _ => by omega) (fun _ => by omega) (by omega)⟩⟩
  · have c676_ : v672.toInt ≠ 0 := en_k_eq_f c676
    have i1040 := BL.yes hb675 (by omega)
    refine At.enter rfl ?_
    refine r_iconst 0 rfl ?_
    refine r_goto ?_
    refine At.enter rfl ?_
    refine r_istore_n ([(1, .int 0), (0, .ref 176)]) rfl ?_
    refine r_aload_n rfl ?_
    refine q_getR (Sh.ref hI670.1 kx_176 rfl) ?_
    obtain ⟨v1041, hv1041⟩ : ∃ v, gI g0 177 3 = v := ⟨_, rfl⟩
    have rv1041 := RgF.at hI0.2.1 (p := 177) (b := 3) rfl
    rw [hv1041] at rv1041
    dsimp only at rv1041
    refine q_getI (Sh.int hI670.1 kx_177 rfl) v1041 ((hF671.1 177 3 (by decide)).trans hv1041) ?_
    refine r_istore_n ([(2, .int v1041), (1, .int 0), (0, .ref 176)]) rfl ?_
    refine r_iload_n rfl ?_
    refine r_iconst (-1) rfl ?_
    refine r_icf 54 rfl (by decide) ?_
    refine At.enter rfl ?_
    refine r_iload_n rfl ?_
    refine r_bipush 12 rfl ?_
    refine r_ics 60 rfl (fun c1042 => ?_) (fun c1042 => ?_)
    · have c1042_ : v1041.toInt < 12 := en_i_lt_t c1042
      refine At.enter rfl ?_
      refine r_aload_n rfl ?_
      refine r_callV 69 rfl [.ref 176] [] (Nat.le_of_ble_eq_true rfl) rfl (zT_X5_step_176 _ hI670 (TKX.c hT ((hF671.2.1 175 (by decide))) ((hF671.1 174 1 (by decide))) ((hF671.1 176 3 (by decide))) ((hF671.1 176 4 (by decide))) ((hF671.1 176 5 (by decide)))).1 (TKX.c hT ((hF671.2.1 175 (by decide))) ((hF671.1 174 1 (by decide))) ((hF671.1 176 3 (by decide))) ((hF671.1 176 4 (by decide))) ((hF671.1 176 5 (by decide)))).2.1.le.2.1) ?_
      rintro _ _ ⟨g1043, rfl, hI1044, hF1045, rfl, hr1047⟩
      refine At.stn ?_
      have hF1048 := Fr.tr hF674 hF1045 rfl rfl
      have tok1049_ := hr1047.2
      rw [TX.c ((hF671.2.1 175 (by decide))), nX.c ((hF671.1 174 1 (by decide))), rX.c (b := 5) ((hF671.1 176 5 (by decide)))] at tok1049_
      have tok1049 := TKX.tok hT tok1049_
      have hT1050 := hr1047.1
      obtain ⟨v1051, hv1051⟩ : ∃ v, gI g0 176 4 = v := ⟨_, rfl⟩
      have rv1051 := RgF.at hI0.2.1 (p := 176) (b := 4) rfl
      rw [hv1051] at rv1051
      dsimp only at rv1051
      have tv1051 := congrArg Int32.toInt hv1051
      have x1052 := rX.e hI670 (b := 4) (((hF671.1 176 4 (by decide)).trans hv1051))
      obtain ⟨v1053, hv1053⟩ : ∃ v, gI g1043 176 4 = v := ⟨_, rfl⟩
      have rv1053 := RgF.at hI1044.2.1 (p := 176) (b := 4) rfl
      rw [hv1053] at rv1053
      dsimp only at rv1053
      have tv1053 := congrArg Int32.toInt hv1053
      have x1054 := rX.e hI1044 (b := 4) (hv1053)
      refine At.enter rfl ?_
      refine r_aload_n rfl ?_
      refine q_getR (Sh.ref hI1044.1 kx_176 rfl) ?_
      refine r_iload_n rfl ?_
      refine r_iconst 1 rfl ?_
      refine q_iadd (v1041.toInt + 1) rfl (by omega) (fun v1055 hv1055 => ?_)
      refine q_putI (Sh.int hI1044.1 kx_177 rfl) rfl ?_
      have hI1056 := HI.wI1 hI1044 kx_177 rfl (p := 177) (b := 3) (v := v1055) rfl (by dsimp only; omega)
      have hF1057 := Fr.wI (p := 177) (b := 3) (v := v1055) hF1048 rfl
      refine r_aload_n rfl ?_
      refine q_getR (Sh.ref hI1056.1 kx_176 rfl) ?_
      refine q_getR (Sh.ref hI1056.1 kx_177 rfl) ?_
      refine r_iload_n rfl ?_
      refine r_iload_n rfl ?_
      refine q_iast (Sh.arr hI1056.1 ka_180) (v1041.toInt) rfl (by omega) ?_
      have hI1058 := HI.wA0 hI1056 ka_180 (p := 180) rfl rfl (v1041.toInt) (0)
      have hF1059 := Fr.wA (p := 180) (j := v1041.toInt) (v := 0) hF1057 rfl
      refine r_aload_n rfl ?_
      refine q_getR (Sh.ref hI1058.1 kx_176 rfl) ?_
      refine r_dup rfl ?_
      obtain ⟨v1060, hv1060⟩ : ∃ v, gI g0 177 4 = v := ⟨_, rfl⟩
      refine q_getI (Sh.int hI1058.1 kx_177 rfl) v1060 (((gI_sW).trans ((gI_sI_ne (by decide)).trans ((hF1045.1 177 4 (by decide)).trans (hF671.1 177 4 (by decide))))).trans hv1060) ?_
      refine r_iconst 1 rfl ?_
      refine r_iload_n rfl ?_
      refine r_ishl 1 (by decide) ?_
      refine q_iorO (fun v1061 hv1061 => ?_)
      refine q_putI (Sh.int hI1058.1 kx_177 rfl) rfl ?_
      have hI1062 := HI.wI0 hI1058 kx_177 rfl (p := 177) (b := 4) (v := v1061) rfl
      have hF1063 := Fr.wI (p := 177) (b := 4) (v := v1061) hF1059 rfl
      refine r_aload_n rfl ?_
      refine q_getR (Sh.ref hI1062.1 kx_176 rfl) ?_
      refine q_getR (Sh.ref hI1062.1 kx_177 rfl) ?_
      refine r_iload_n rfl ?_
      refine r_aload_n rfl ?_
      refine q_getR (Sh.ref hI1062.1 kx_176 rfl) ?_
      obtain ⟨v1064, hv1064⟩ : ∃ v, gI g0 177 0 = v := ⟨_, rfl⟩
      have rv1064 := RgF.at hI0.2.1 (p := 177) (b := 0) rfl
      rw [hv1064] at rv1064
      dsimp only at rv1064
      refine q_getI (Sh.int hI1062.1 kx_177 rfl) v1064 (((gI_sI_ne (by decide)).trans ((gI_sW).trans ((gI_sI_ne (by decide)).trans ((hF1045.1 177 0 (by decide)).trans (hF671.1 177 0 (by decide)))))).trans hv1064) ?_
      refine q_iast (Sh.arr hI1062.1 ka_181) (v1041.toInt) rfl (by omega) ?_
      have hI1065 := HI.wA0 hI1062 ka_181 (p := 181) rfl rfl (v1041.toInt) (v1064)
      have hF1066 := Fr.wA (p := 181) (j := v1041.toInt) (v := v1064) hF1063 rfl
      refine r_iload_n rfl ?_
      refine r_iconst 2 rfl ?_
      refine r_icf 125 rfl (by decide) ?_
      refine At.enter rfl ?_
      refine r_aload_n rfl ?_
      refine r_iconst 2 rfl ?_
      refine r_iconst 0 rfl ?_
      have zv1067 : (2 : Int32).toInt = 2 := rfl
      have zv1068 : (0 : Int32).toInt = 0 := rfl
      refine r_callV 131 rfl [.ref 176, .int 2, .int 0] [] (Nat.le_of_ble_eq_true rfl) rfl (zT_X5_readJoined_176 _ hI1065 2 (by decide) 0 (by decide) (TKX.c hT1050 (((gA_sA_ne (by decide)).trans ((gA_sI).trans ((gA_sA_ne (by decide)).trans (gA_sI))))) (((gI_sW).trans ((gI_sI_ne (by decide)).trans ((gI_sW).trans (gI_sI_ne (by decide)))))) (((gI_sW).trans ((gI_sI_ne (by decide)).trans ((gI_sW).trans (gI_sI_ne (by decide)))))) (((gI_sW).trans ((gI_sI_ne (by decide)).trans ((gI_sW).trans (gI_sI_ne (by decide)))))) (((gI_sW).trans ((gI_sI_ne (by decide)).trans ((gI_sW).trans (gI_sI_ne (by decide)))))))) ?_
      rintro _ _ ⟨g1069, rfl, hI1070, hF1071, rfl, hr1073⟩
      refine At.stn ?_
      have hF1074 := Fr.tr hF1066 hF1071 rfl rfl
      have zv1075 : (2 : Int32).toInt = 2 := rfl
      have zv1076 : (0 : Int32).toInt = 0 := rfl
      obtain ⟨v1081, hv1081⟩ : ∃ v, gI g0 176 2 = v := ⟨_, rfl⟩
      have tv1081 := congrArg Int32.toInt hv1081
      have x1082 := rX.e hI1065 (b := 2) ((((gI_sW).trans ((gI_sI_ne (by decide)).trans ((gI_sW).trans ((gI_sI_ne (by decide)).trans ((hF1045.1 176 2 (by decide)).trans (hF671.1 176 2 (by decide))))))).trans hv1081))
      have x1083 := rX.e hI1065 (b := 4) ((((gI_sW).trans ((gI_sI_ne (by decide)).trans ((gI_sW).trans (gI_sI_ne (by decide))))).trans hv1053))
      obtain ⟨o1077, o1078, o1079, o1080⟩ := hr1073
      have o1084 := OPD.tc o1079 (((gA_sA_ne (by decide)).trans ((gA_sI).trans ((gA_sA_ne (by decide)).trans ((gA_sI).trans ((hF1045.2.1 175 (by decide)).trans (hF671.2.1 175 (by decide)))))))) (((gI_sW).trans ((gI_sI_ne (by decide)).trans ((gI_sW).trans ((gI_sI_ne (by decide)).trans ((hF1045.1 174 1 (by decide)).trans (hF671.1 174 1 (by decide))))))))
      rw [rX.c (b := 2) (((gI_sW).trans ((gI_sI_ne (by decide)).trans ((gI_sW).trans (gI_sI_ne (by decide)))))), rX.c (b := 4) (((gI_sW).trans ((gI_sI_ne (by decide)).trans ((gI_sW).trans (gI_sI_ne (by decide))))))] at o1078
      have o1085 := OPD.fr o1084 (rX.c (b := 2) (((gI_sW).trans ((gI_sI_ne (by decide)).trans ((gI_sW).trans (gI_sI_ne (by decide))))))) (rX.c (b := 4) (((gI_sW).trans ((gI_sI_ne (by decide)).trans ((gI_sW).trans (gI_sI_ne (by decide))))))) (rX.c (b := 6) (((gI_sW).trans ((gI_sI_ne (by decide)).trans ((gI_sW).trans (gI_sI_ne (by decide)))))))
      obtain ⟨v1086, hv1086⟩ : ∃ v, gI g1069 176 2 = v := ⟨_, rfl⟩
      have tv1086 := congrArg Int32.toInt hv1086
      have x1087 := rX.e hI1070 (b := 2) (hv1086)
      obtain ⟨v1088, hv1088⟩ : ∃ v, gI g1069 176 4 = v := ⟨_, rfl⟩
      have rv1088 := RgF.at hI1070.2.1 (p := 176) (b := 4) rfl
      rw [hv1088] at rv1088
      dsimp only at rv1088
      have tv1088 := congrArg Int32.toInt hv1088
      have x1089 := rX.e hI1070 (b := 4) (hv1088)
      refine At.enter rfl ?_
      refine r_aload_n rfl ?_
      refine q_getR (Sh.ref hI1070.1 kx_176 rfl) ?_
      refine q_getR (Sh.ref hI1070.1 kx_177 rfl) ?_
      refine r_iload_n rfl ?_
      refine r_aload_n rfl ?_
      refine q_getR (Sh.ref hI1070.1 kx_176 rfl) ?_
      obtain ⟨v1090, hv1090⟩ : ∃ v, gI g1069 177 0 = v := ⟨_, rfl⟩
      have rv1090 := RgF.at hI1070.2.1 (p := 177) (b := 0) rfl
      rw [hv1090] at rv1090
      dsimp only at rv1090
      refine q_getI (Sh.int hI1070.1 kx_177 rfl) v1090 hv1090 ?_
      refine q_iast (Sh.arr hI1070.1 ka_182) (v1041.toInt) rfl (by omega) ?_
      have hI1091 := HI.wA0 hI1070 ka_182 (p := 182) rfl rfl (v1041.toInt) (v1090)
      have hF1092 := Fr.wA (p := 182) (j := v1041.toInt) (v := v1090) hF1074 rfl
      refine r_aload_n rfl ?_
      refine q_getI (Sh.int hI1091.1 kx_176 rfl) v1086 ((gI_sW).trans hv1086) ?_
      refine r_iconst (-1) rfl ?_
      refine r_ics 155 rfl (fun c1093 => ?_) (fun c1093 => ?_)
      · have c1093_ : v1086.toInt ≠ (-1) := en_i_ne_t c1093
        refine At.enter rfl ?_
        refine r_aload_n rfl ?_
        refine q_getR (Sh.ref hI1091.1 kx_176 rfl) ?_
        refine q_getR (Sh.ref hI1091.1 kx_177 rfl) ?_
        refine r_iload_n rfl ?_
        refine r_aload_n rfl ?_
        refine q_getR (Sh.ref hI1091.1 kx_176 rfl) ?_
        refine q_getI (Sh.int hI1091.1 kx_177 rfl) v1090 ((gI_sW).trans hv1090) ?_
        refine q_iast (Sh.arr hI1091.1 ka_183) (v1041.toInt) rfl (by omega) ?_
        have hI1094 := HI.wA0 hI1091 ka_183 (p := 183) rfl rfl (v1041.toInt) (v1090)
        have hF1095 := Fr.wA (p := 183) (j := v1041.toInt) (v := v1090) hF1092 rfl
        refine r_vret ?_
        have x1096 := rX.e hI1094 (b := 2) ((((gI_sW).trans (gI_sW)).trans hv1086))
        have x1097 := rX.e hI0 (b := 2) (hv1081)
        have x1098 := rX.e hI1094 (b := 4) ((((gI_sW).trans (gI_sW)).trans hv1088))
        have x1099 := rX.e hI0 (b := 4) (hv1051)
        obtain ⟨v1100, hv1100⟩ : ∃ v, gI g1069 176 6 = v := ⟨_, rfl⟩
        have tv1100 := congrArg Int32.toInt hv1100
        have x1101 := rX.e hI1094 (b := 6) ((((gI_sW).trans (gI_sW)).trans hv1100))
        obtain ⟨v1102, hv1102⟩ : ∃ v, gI g0 176 6 = v := ⟨_, rfl⟩
        have tv1102 := congrArg Int32.toInt hv1102
        have x1103 := rX.e hI0 (b := 6) (hv1102)
        have x1104 := rX.e hI1044 (b := 2) ((((hF1045.1 176 2 (by decide)).trans (hF671.1 176 2 (by decide))).trans hv1081))
        have x1105 := rX.e hI1044 (b := 4) (hv1053)
        have x1106 := rX.e hI1070 (b := 2) (hv1086)
        have x1107 := rX.e hI1070 (b := 4) (hv1088)
        obtain ⟨v1108, hv1108⟩ : ∃ v, gI g1069 177 3 = v := ⟨_, rfl⟩
        have rv1108 := RgF.at hI1070.2.1 (p := 177) (b := 3) rfl
        rw [hv1108] at rv1108
        dsimp only at rv1108
        have tv1108 := congrArg Int32.toInt hv1108
        have x1109 := kX.e hI0 (hv1041)
        have x1110 := kX.e hI1094 ((((gI_sW).trans (gI_sW)).trans hv1108))
        exact ⟨_, rfl, hI1094, hF1095, rfl, ⟨(TKX.c o1077 (((gA_sA_ne (by decide)).trans (gA_sA_ne (by decide)))) (((gI_sW).trans (gI_sW))) (((gI_sW).trans (gI_sW))) (((gI_sW).trans (gI_sW))) (((gI_sW).trans (gI_sW)))), ((PRG0.tr ((PRG0.tr (PRG0.step hT tok1049_ (rX.c (b := 2) (((hF1045.1 176 2 (by decide)).trans (hF671.1 176 2 (by decide))))) (by omega)) (o1078))) (PRG0.eq (rX.c (b := 4) (((gI_sW).trans (gI_sW)))) (rX.c (b := 2) (((gI_sW).trans (gI_sW))))))).le (by omega), fun c0 h => by have h1 : CST _ _ c0 g1043 1 [3] (kX g0 + 1) := CLX.head h (fun _ => S.cls tok1049 (by omega) (by omega) rfl) (rX.c (b := 2) (((hF1045.1 176 2 (by decide)).trans (hF671.1 176 2 (by decide))))) (rX.c (b := 6) (((hF1045.1 176 6 (by decide)).trans (hF671.1 176 6 (by decide))))); have h3 := CLX.sum o1085 h1 (TKX.someC o1077 (((hF1071.2.1 175 (by decide)).trans ((gA_sA_ne (by decide)).trans ((gA_sI).trans ((gA_sA_ne (by decide)).trans ((gA_sI).trans ((hF1045.2.1 175 (by decide)).trans (hF671.2.1 175 (by decide))))))))) (((hF1071.1 174 1 (by decide)).trans ((gI_sW).trans ((gI_sI_ne (by decide)).trans ((gI_sW).trans ((gI_sI_ne (by decide)).trans ((hF1045.1 174 1 (by decide)).trans (hF671.1 174 1 (by decide)))))))))).choose_spec o1080; have h6 : CST _ _ c0 g1069 8 [] (kX g0 + 1) := by first | exact h3.bad (by omega) rfl | exact h3.eps (fun _ => S.noif (TKX.someC o1077 (((hF1071.2.1 175 (by decide)).trans ((gA_sA_ne (by decide)).trans ((gA_sI).trans ((gA_sA_ne (by decide)).trans ((gA_sI).trans ((hF1045.2.1 175 (by decide)).trans (hF671.2.1 175 (by decide))))))))) (((hF1071.1 174 1 (by decide)).trans ((gI_sW).trans ((gI_sI_ne (by decide)).trans ((gI_sW).trans ((gI_sI_ne (by decide)).trans ((hF1045.1 174 1 (by decide)).trans (hF671.1 174 1 (by decide)))))))))).choose_spec (by omega)); have h9 := h6.eq (rX.c (b := 2) (((gI_sW).trans (gI_sW)))) (rX.c (b := 4) (((gI_sW).trans (gI_sW)))) (rX.c (b := 6) (((gI_sW).trans (gI_sW)))); rw [x1110]; rw [show (kX g0 + 1 : Int) = v1108.toInt from by omega] at h9; exact h9⟩⟩
      · have c1093_ : v1086.toInt = (-1) := en_i_ne_f c1093
        refine At.enter rfl ?_
        refine r_aload_n rfl ?_
        refine r_ldcS (by decide) 17 rfl ?_
        refine r_callV 161 rfl [.ref 176, .float 17] [] (Nat.le_of_ble_eq_true rfl) rfl (zT_X5_isWord_176 _ hI1091 17 (by decide) (TKX.c o1077 ((gA_sA_ne (by decide))) ((gI_sW)) ((gI_sW)) ((gI_sW)) ((gI_sW)))) ?_
        rintro _ _ ⟨g1111, rfl, hI1112, hF1113, v1114, rfl, hr1115⟩
        refine At.sti ?_
        have hF1116 := Fr.tr hF1092 hF1113 rfl rfl
        have hb1117 : BL (CDX g1069 = 10) v1114.toInt := by have z := ISW.code (c := 10) hr1115.2 (TKX.c o1077 ((gA_sA_ne (by decide))) ((gI_sW)) ((gI_sW)) ((gI_sW)) ((gI_sW))) (isWC_d (by omega)) (by decide +kernel); rw [CDX.c ((gA_sA_ne (by decide))) ((gI_sW)) ((gI_sW)) ((gI_sW))] at z; exact z
        refine At.enter rfl ?_
        refine r_ifs 164 rfl (fun c1118 => ?_) (fun c1118 => ?_)
        · have c1118_ : v1114.toInt = 0 := en_k_eq_t c1118
          have i1119 := BL.no hb1117 (by omega)
          refine At.enter rfl ?_
          refine r_aload_n rfl ?_
          refine q_getR (Sh.ref hI1112.1 kx_176 rfl) ?_
          refine q_getR (Sh.ref hI1112.1 kx_177 rfl) ?_
          refine r_iload_n rfl ?_
          refine r_aload_n rfl ?_
          refine q_getR (Sh.ref hI1112.1 kx_176 rfl) ?_
          refine q_getI (Sh.int hI1112.1 kx_177 rfl) v1090 (((hF1113.1 177 0 (by decide)).trans (gI_sW)).trans hv1090) ?_
          refine q_iast (Sh.arr hI1112.1 ka_183) (v1041.toInt) rfl (by omega) ?_
          have hI1120 := HI.wA0 hI1112 ka_183 (p := 183) rfl rfl (v1041.toInt) (v1090)
          have hF1121 := Fr.wA (p := 183) (j := v1041.toInt) (v := v1090) hF1116 rfl
          refine r_vret ?_
          have x1122 := rX.e hI1120 (b := 2) ((((gI_sW).trans ((hF1113.1 176 2 (by decide)).trans (gI_sW))).trans hv1086))
          have x1123 := rX.e hI0 (b := 2) (hv1081)
          have x1124 := rX.e hI1120 (b := 4) ((((gI_sW).trans ((hF1113.1 176 4 (by decide)).trans (gI_sW))).trans hv1088))
          have x1125 := rX.e hI0 (b := 4) (hv1051)
          obtain ⟨v1126, hv1126⟩ : ∃ v, gI g1069 176 6 = v := ⟨_, rfl⟩
          have tv1126 := congrArg Int32.toInt hv1126
          have x1127 := rX.e hI1120 (b := 6) ((((gI_sW).trans ((hF1113.1 176 6 (by decide)).trans (gI_sW))).trans hv1126))
          obtain ⟨v1128, hv1128⟩ : ∃ v, gI g0 176 6 = v := ⟨_, rfl⟩
          have tv1128 := congrArg Int32.toInt hv1128
          have x1129 := rX.e hI0 (b := 6) (hv1128)
          have x1130 := rX.e hI1044 (b := 2) ((((hF1045.1 176 2 (by decide)).trans (hF671.1 176 2 (by decide))).trans hv1081))
          have x1131 := rX.e hI1044 (b := 4) (hv1053)
          have x1132 := rX.e hI1070 (b := 2) (hv1086)
          have x1133 := rX.e hI1070 (b := 4) (hv1088)
          obtain ⟨v1134, hv1134⟩ : ∃ v, gI g1069 177 3 = v := ⟨_, rfl⟩
          have rv1134 := RgF.at hI1070.2.1 (p := 177) (b := 3) rfl
          rw [hv1134] at rv1134
          dsimp only at rv1134
          have tv1134 := congrArg Int32.toInt hv1134
          have x1135 := kX.e hI0 (hv1041)
          have x1136 := kX.e hI1120 ((((gI_sW).trans ((hF1113.1 177 3 (by decide)).trans (gI_sW))).trans hv1134))
          exact ⟨_, rfl, hI1120, hF1121, rfl, ⟨(TKX.c o1077 (((gA_sA_ne (by decide)).trans ((hF1113.2.1 175 (by decide)).trans (gA_sA_ne (by decide))))) (((gI_sW).trans ((hF1113.1 174 1 (by decide)).trans (gI_sW)))) (((gI_sW).trans ((hF1113.1 176 3 (by decide)).trans (gI_sW)))) (((gI_sW).trans ((hF1113.1 176 4 (by decide)).trans (gI_sW)))) (((gI_sW).trans ((hF1113.1 176 5 (by decide)).trans (gI_sW))))), ((PRG0.tr ((PRG0.tr (PRG0.step hT tok1049_ (rX.c (b := 2) (((hF1045.1 176 2 (by decide)).trans (hF671.1 176 2 (by decide))))) (by omega)) (o1078))) (PRG0.eq (rX.c (b := 4) (((gI_sW).trans ((hF1113.1 176 4 (by decide)).trans (gI_sW))))) (rX.c (b := 2) (((gI_sW).trans ((hF1113.1 176 2 (by decide)).trans (gI_sW)))))))).le (by omega), fun c0 h => by have h1 : CST _ _ c0 g1043 1 [3] (kX g0 + 1) := CLX.head h (fun _ => S.cls tok1049 (by omega) (by omega) rfl) (rX.c (b := 2) (((hF1045.1 176 2 (by decide)).trans (hF671.1 176 2 (by decide))))) (rX.c (b := 6) (((hF1045.1 176 6 (by decide)).trans (hF671.1 176 6 (by decide))))); have h3 := CLX.sum o1085 h1 (TKX.someC o1077 (((hF1071.2.1 175 (by decide)).trans ((gA_sA_ne (by decide)).trans ((gA_sI).trans ((gA_sA_ne (by decide)).trans ((gA_sI).trans ((hF1045.2.1 175 (by decide)).trans (hF671.2.1 175 (by decide))))))))) (((hF1071.1 174 1 (by decide)).trans ((gI_sW).trans ((gI_sI_ne (by decide)).trans ((gI_sW).trans ((gI_sI_ne (by decide)).trans ((hF1045.1 174 1 (by decide)).trans (hF671.1 174 1 (by decide)))))))))).choose_spec o1080; have h6 : CST _ _ c0 g1069 8 [] (kX g0 + 1) := by first | exact h3.bad (by omega) rfl | exact h3.eps (fun _ => S.noif (TKX.someC o1077 (((hF1071.2.1 175 (by decide)).trans ((gA_sA_ne (by decide)).trans ((gA_sI).trans ((gA_sA_ne (by decide)).trans ((gA_sI).trans ((hF1045.2.1 175 (by decide)).trans (hF671.2.1 175 (by decide))))))))) (((hF1071.1 174 1 (by decide)).trans ((gI_sW).trans ((gI_sI_ne (by decide)).trans ((gI_sW).trans ((gI_sI_ne (by decide)).trans ((hF1045.1 174 1 (by decide)).trans (hF671.1 174 1 (by decide)))))))))).choose_spec (by omega)); have h9 := h6.eq (rX.c (b := 2) (((gI_sW).trans ((hF1113.1 176 2 (by decide)).trans (gI_sW))))) (rX.c (b := 4) (((gI_sW).trans ((hF1113.1 176 4 (by decide)).trans (gI_sW))))) (rX.c (b := 6) (((gI_sW).trans ((hF1113.1 176 6 (by decide)).trans (gI_sW))))); rw [x1136]; rw [show (kX g0 + 1 : Int) = v1134.toInt from by omega] at h9; exact h9⟩⟩
        · have c1118_ : v1114.toInt ≠ 0 := en_k_eq_f c1118
          have i1137 := BL.yes hb1117 (by omega)
          refine At.enter rfl ?_
          refine r_aload_n rfl ?_
          refine r_callV 168 rfl [.ref 176] [] (Nat.le_of_ble_eq_true rfl) rfl (zT_X5_step_176 _ hI1112 (TKX.c o1077 (((hF1113.2.1 175 (by decide)).trans (gA_sA_ne (by decide)))) (((hF1113.1 174 1 (by decide)).trans (gI_sW))) (((hF1113.1 176 3 (by decide)).trans (gI_sW))) (((hF1113.1 176 4 (by decide)).trans (gI_sW))) (((hF1113.1 176 5 (by decide)).trans (gI_sW)))).1 (TKX.c o1077 (((hF1113.2.1 175 (by decide)).trans (gA_sA_ne (by decide)))) (((hF1113.1 174 1 (by decide)).trans (gI_sW))) (((hF1113.1 176 3 (by decide)).trans (gI_sW))) (((hF1113.1 176 4 (by decide)).trans (gI_sW))) (((hF1113.1 176 5 (by decide)).trans (gI_sW)))).2.1.le.2.1) ?_
          rintro _ _ ⟨g1138, rfl, hI1139, hF1140, rfl, hr1142⟩
          refine At.stn ?_
          have hF1143 := Fr.tr hF1116 hF1140 rfl rfl
          have tok1144_ := hr1142.2
          rw [TX.c (((hF1113.2.1 175 (by decide)).trans (gA_sA_ne (by decide)))), nX.c (((hF1113.1 174 1 (by decide)).trans (gI_sW))), rX.c (b := 5) (((hF1113.1 176 5 (by decide)).trans (gI_sW)))] at tok1144_
          have tok1144 := TKX.tok o1077 tok1144_
          rw [TX.c (((hF1071.2.1 175 (by decide)).trans ((gA_sA_ne (by decide)).trans ((gA_sI).trans ((gA_sA_ne (by decide)).trans ((gA_sI).trans ((hF1045.2.1 175 (by decide)).trans (hF671.2.1 175 (by decide))))))))), nX.c (((hF1071.1 174 1 (by decide)).trans ((gI_sW).trans ((gI_sI_ne (by decide)).trans ((gI_sW).trans ((gI_sI_ne (by decide)).trans ((hF1045.1 174 1 (by decide)).trans (hF671.1 174 1 (by decide)))))))))] at tok1144
          have hT1145 := hr1142.1
          have x1146 := rX.e hI1112 (b := 4) ((((hF1113.1 176 4 (by decide)).trans (gI_sW)).trans hv1088))
          obtain ⟨v1147, hv1147⟩ : ∃ v, gI g1138 176 4 = v := ⟨_, rfl⟩
          have rv1147 := RgF.at hI1139.2.1 (p := 176) (b := 4) rfl
          rw [hv1147] at rv1147
          dsimp only at rv1147
          have tv1147 := congrArg Int32.toInt hv1147
          have x1148 := rX.e hI1139 (b := 4) (hv1147)
          refine At.enter rfl ?_
          refine r_aload_n rfl ?_
          refine r_iconst 0 rfl ?_
          refine r_iconst 0 rfl ?_
          have zv1149 : (0 : Int32).toInt = 0 := rfl
          have zv1150 : (0 : Int32).toInt = 0 := rfl
          refine r_callV 174 rfl [.ref 176, .int 0, .int 0] [] (Nat.le_of_ble_eq_true rfl) rfl (zT_X5_readJoined_176 _ hI1139 0 (by decide) 0 (by decide) hT1145) ?_
          rintro _ _ ⟨g1151, rfl, hI1152, hF1153, rfl, hr1155⟩
          refine At.stn ?_
          have hF1156 := Fr.tr hF1143 hF1153 rfl rfl
          have zv1157 : (0 : Int32).toInt = 0 := rfl
          have zv1158 : (0 : Int32).toInt = 0 := rfl
          have x1163 := rX.e hI1139 (b := 2) ((((hF1140.1 176 2 (by decide)).trans ((hF1113.1 176 2 (by decide)).trans (gI_sW))).trans hv1086))
          have x1164 := rX.e hI1139 (b := 4) (hv1147)
          obtain ⟨o1159, o1160, o1161, o1162⟩ := hr1155
          have o1165 := OPD.tc o1161 (((hF1140.2.1 175 (by decide)).trans ((hF1113.2.1 175 (by decide)).trans ((gA_sA_ne (by decide)).trans ((hF1071.2.1 175 (by decide)).trans ((gA_sA_ne (by decide)).trans ((gA_sI).trans ((gA_sA_ne (by decide)).trans ((gA_sI).trans ((hF1045.2.1 175 (by decide)).trans (hF671.2.1 175 (by decide)))))))))))) (((hF1140.1 174 1 (by decide)).trans ((hF1113.1 174 1 (by decide)).trans ((gI_sW).trans ((hF1071.1 174 1 (by decide)).trans ((gI_sW).trans ((gI_sI_ne (by decide)).trans ((gI_sW).trans ((gI_sI_ne (by decide)).trans ((hF1045.1 174 1 (by decide)).trans (hF671.1 174 1 (by decide))))))))))))
          obtain ⟨v1166, hv1166⟩ : ∃ v, gI g1151 176 2 = v := ⟨_, rfl⟩
          have tv1166 := congrArg Int32.toInt hv1166
          have x1167 := rX.e hI1152 (b := 2) (hv1166)
          obtain ⟨v1168, hv1168⟩ : ∃ v, gI g1151 176 4 = v := ⟨_, rfl⟩
          have rv1168 := RgF.at hI1152.2.1 (p := 176) (b := 4) rfl
          rw [hv1168] at rv1168
          dsimp only at rv1168
          have tv1168 := congrArg Int32.toInt hv1168
          have x1169 := rX.e hI1152 (b := 4) (hv1168)
          refine At.enter rfl ?_
          refine r_aload_n rfl ?_
          refine q_getR (Sh.ref hI1152.1 kx_176 rfl) ?_
          refine q_getR (Sh.ref hI1152.1 kx_177 rfl) ?_
          refine r_iload_n rfl ?_
          refine r_aload_n rfl ?_
          refine q_getR (Sh.ref hI1152.1 kx_176 rfl) ?_
          obtain ⟨v1170, hv1170⟩ : ∃ v, gI g1151 177 0 = v := ⟨_, rfl⟩
          have rv1170 := RgF.at hI1152.2.1 (p := 177) (b := 0) rfl
          rw [hv1170] at rv1170
          dsimp only at rv1170
          refine q_getI (Sh.int hI1152.1 kx_177 rfl) v1170 hv1170 ?_
          refine q_iast (Sh.arr hI1152.1 ka_183) (v1041.toInt) rfl (by omega) ?_
          have hI1171 := HI.wA0 hI1152 ka_183 (p := 183) rfl rfl (v1041.toInt) (v1170)
          have hF1172 := Fr.wA (p := 183) (j := v1041.toInt) (v := v1170) hF1156 rfl
          refine r_vret ?_
          have x1173 := rX.e hI1171 (b := 2) (((gI_sW).trans hv1166))
          have x1174 := rX.e hI0 (b := 2) (hv1081)
          have x1175 := rX.e hI1171 (b := 4) (((gI_sW).trans hv1168))
          have x1176 := rX.e hI0 (b := 4) (hv1051)
          obtain ⟨v1177, hv1177⟩ : ∃ v, gI g1151 176 6 = v := ⟨_, rfl⟩
          have tv1177 := congrArg Int32.toInt hv1177
          have x1178 := rX.e hI1171 (b := 6) (((gI_sW).trans hv1177))
          obtain ⟨v1179, hv1179⟩ : ∃ v, gI g0 176 6 = v := ⟨_, rfl⟩
          have tv1179 := congrArg Int32.toInt hv1179
          have x1180 := rX.e hI0 (b := 6) (hv1179)
          have x1181 := rX.e hI1044 (b := 2) ((((hF1045.1 176 2 (by decide)).trans (hF671.1 176 2 (by decide))).trans hv1081))
          have x1182 := rX.e hI1044 (b := 4) (hv1053)
          have x1183 := rX.e hI1070 (b := 2) (hv1086)
          have x1184 := rX.e hI1070 (b := 4) (hv1088)
          have x1185 := rX.e hI1139 (b := 2) ((((hF1140.1 176 2 (by decide)).trans ((hF1113.1 176 2 (by decide)).trans (gI_sW))).trans hv1086))
          have x1186 := rX.e hI1139 (b := 4) (hv1147)
          have x1187 := rX.e hI1152 (b := 2) (hv1166)
          have x1188 := rX.e hI1152 (b := 4) (hv1168)
          obtain ⟨v1189, hv1189⟩ : ∃ v, gI g1151 177 3 = v := ⟨_, rfl⟩
          have rv1189 := RgF.at hI1152.2.1 (p := 177) (b := 3) rfl
          rw [hv1189] at rv1189
          dsimp only at rv1189
          have tv1189 := congrArg Int32.toInt hv1189
          have x1190 := kX.e hI0 (hv1041)
          have x1191 := kX.e hI1171 (((gI_sW).trans hv1189))
          exact ⟨_, rfl, hI1171, hF1172, rfl, ⟨(TKX.c o1159 ((gA_sA_ne (by decide))) ((gI_sW)) ((gI_sW)) ((gI_sW)) ((gI_sW))), ((PRG0.tr ((PRG0.tr ((PRG0.tr ((PRG0.tr (PRG0.step hT tok1049_ (rX.c (b := 2) (((hF1045.1 176 2 (by decide)).trans (hF671.1 176 2 (by decide))))) (by omega)) (o1078))) (PRG0.step o1077 tok1144_ (rX.c (b := 2) (((hF1140.1 176 2 (by decide)).trans ((hF1113.1 176 2 (by decide)).trans (gI_sW))))) (by omega)))) (o1160))) (PRG0.eq (rX.c (b := 4) ((gI_sW))) (rX.c (b := 2) ((gI_sW)))))).le (by omega), fun c0 h => by have h1 : CST _ _ c0 g1043 1 [3] (kX g0 + 1) := CLX.head h (fun _ => S.cls tok1049 (by omega) (by omega) rfl) (rX.c (b := 2) (((hF1045.1 176 2 (by decide)).trans (hF671.1 176 2 (by decide))))) (rX.c (b := 6) (((hF1045.1 176 6 (by decide)).trans (hF671.1 176 6 (by decide))))); have h3 := CLX.sum o1085 h1 (TKX.someC o1077 (((hF1071.2.1 175 (by decide)).trans ((gA_sA_ne (by decide)).trans ((gA_sI).trans ((gA_sA_ne (by decide)).trans ((gA_sI).trans ((hF1045.2.1 175 (by decide)).trans (hF671.2.1 175 (by decide))))))))) (((hF1071.1 174 1 (by decide)).trans ((gI_sW).trans ((gI_sI_ne (by decide)).trans ((gI_sW).trans ((gI_sI_ne (by decide)).trans ((hF1045.1 174 1 (by decide)).trans (hF671.1 174 1 (by decide)))))))))).choose_spec o1080; have h4 := CLX.head h3 (fun _ => S.if_ tok1144 (by omega)) (rX.c (b := 2) (((hF1140.1 176 2 (by decide)).trans ((hF1113.1 176 2 (by decide)).trans (gI_sW))))) (rX.c (b := 6) (((hF1140.1 176 6 (by decide)).trans ((hF1113.1 176 6 (by decide)).trans (gI_sW))))); have h6 := CLX.test o1165 h4 (TKX.someC o1159 (((hF1153.2.1 175 (by decide)).trans ((hF1140.2.1 175 (by decide)).trans ((hF1113.2.1 175 (by decide)).trans ((gA_sA_ne (by decide)).trans ((hF1071.2.1 175 (by decide)).trans ((gA_sA_ne (by decide)).trans ((gA_sI).trans ((gA_sA_ne (by decide)).trans ((gA_sI).trans ((hF1045.2.1 175 (by decide)).trans (hF671.2.1 175 (by decide))))))))))))) (((hF1153.1 174 1 (by decide)).trans ((hF1140.1 174 1 (by decide)).trans ((hF1113.1 174 1 (by decide)).trans ((gI_sW).trans ((hF1071.1 174 1 (by decide)).trans ((gI_sW).trans ((gI_sI_ne (by decide)).trans ((gI_sW).trans ((gI_sI_ne (by decide)).trans ((hF1045.1 174 1 (by decide)).trans (hF671.1 174 1 (by decide)))))))))))))).choose_spec o1162; have h9 := h6.eq (rX.c (b := 2) ((gI_sW))) (rX.c (b := 4) ((gI_sW))) (rX.c (b := 6) ((gI_sW))); rw [x1191]; rw [show (kX g0 + 1 : Int) = v1189.toInt from by omega] at h9; exact h9⟩⟩
    · have c1042_ : v1041.toInt ≥ 12 := en_i_lt_f c1042
      refine At.enter rfl ?_
      refine r_aload_n rfl ?_
      refine q_inlV 64 rfl [.ref 176] [] (Nat.le_of_ble_eq_true rfl) rfl ?_
      refine Ev.mk rfl rfl ⟨Nat.le_of_ble_eq_true rfl, Or.inr (q_rc hI670.1 kx_176 rfl)⟩ ?_
      show At _ none _ _ (0, [(0, .ref 176)], [], (_, _)) _
      refine At.enter rfl ?_
      refine r_aload_n rfl ?_
      obtain ⟨v1192, hv1192⟩ : ∃ v, gI g0 176 2 = v := ⟨_, rfl⟩
      refine q_getI (Sh.int hI670.1 kx_176 rfl) v1192 ((hF671.1 176 2 (by decide)).trans hv1192) ?_
      refine r_iconst (-1) rfl ?_
      refine r_ics 8 rfl (fun c1193 => ?_) (fun c1193 => ?_)
      · have c1193_ : v1192.toInt ≠ (-1) := en_i_ne_t c1193
        refine At.enter rfl ?_
        refine q_vret ?_
        refine At.enter rfl ?_
        refine r_vret ?_
        have x1194 := rX.e hI670 (b := 2) (((hF671.1 176 2 (by decide)).trans hv1192))
        have x1195 := rX.e hI0 (b := 2) (hv1192)
        obtain ⟨v1196, hv1196⟩ : ∃ v, gI g0 176 4 = v := ⟨_, rfl⟩
        have rv1196 := RgF.at hI0.2.1 (p := 176) (b := 4) rfl
        rw [hv1196] at rv1196
        dsimp only at rv1196
        have tv1196 := congrArg Int32.toInt hv1196
        have x1197 := rX.e hI670 (b := 4) (((hF671.1 176 4 (by decide)).trans hv1196))
        have x1198 := rX.e hI0 (b := 4) (hv1196)
        obtain ⟨v1199, hv1199⟩ : ∃ v, gI g0 176 6 = v := ⟨_, rfl⟩
        have tv1199 := congrArg Int32.toInt hv1199
        have x1200 := rX.e hI670 (b := 6) (((hF671.1 176 6 (by decide)).trans hv1199))
        have x1201 := rX.e hI0 (b := 6) (hv1199)
        have x1202 := kX.e hI0 (hv1041)
        have x1203 := kX.e hI670 (((hF671.1 177 3 (by decide)).trans hv1041))
        exact ⟨_, rfl, hI670, hF674, rfl, ⟨(TKX.c hT ((hF671.2.1 175 (by decide))) ((hF671.1 174 1 (by decide))) ((hF671.1 176 3 (by decide))) ((hF671.1 176 4 (by decide))) ((hF671.1 176 5 (by decide)))), (PRG0.fail 1 (rX.c (b := 4) ((hF671.1 176 4 (by decide)))) (fun _ => by omega) (fun _ => by omega) (by omega)).le (by omega), fun c0 h => h.fail (fun _ => S.clsF (TKX.some hT).choose_spec (by omega)) (fun _ => by omega) (fun _ => by omega) (by omega)⟩⟩
      · have c1193_ : v1192.toInt = (-1) := en_i_ne_f c1193
        refine At.enter rfl ?_
        refine r_aload_n rfl ?_
        refine r_aload_n rfl ?_
        obtain ⟨v1204, hv1204⟩ : ∃ v, gI g0 176 4 = v := ⟨_, rfl⟩
        have rv1204 := RgF.at hI0.2.1 (p := 176) (b := 4) rfl
        rw [hv1204] at rv1204
        dsimp only at rv1204
        refine q_getI (Sh.int hI670.1 kx_176 rfl) v1204 ((hF671.1 176 4 (by decide)).trans hv1204) ?_
        refine q_putI (Sh.int hI670.1 kx_176 rfl) rfl ?_
        have hI1205 := HI.wI0 hI670 kx_176 rfl (p := 176) (b := 2) (v := v1204) rfl
        have hF1206 := Fr.wI (p := 176) (b := 2) (v := v1204) hF674 rfl
        refine Ar.fall 16 rfl ?_
        refine At.enter rfl ?_
        refine q_vret ?_
        refine At.enter rfl ?_
        refine r_vret ?_
        have x1207 := rX.e hI1205 (b := 2) ((gI_sI_eq hI670.1 kx_176 rfl _))
        have x1208 := rX.e hI0 (b := 2) (hv1192)
        have x1209 := rX.e hI1205 (b := 4) ((((gI_sI_ne (by decide)).trans (hF671.1 176 4 (by decide))).trans hv1204))
        have x1210 := rX.e hI0 (b := 4) (hv1204)
        obtain ⟨v1211, hv1211⟩ : ∃ v, gI g0 176 6 = v := ⟨_, rfl⟩
        have tv1211 := congrArg Int32.toInt hv1211
        have x1212 := rX.e hI1205 (b := 6) ((((gI_sI_ne (by decide)).trans (hF671.1 176 6 (by decide))).trans hv1211))
        have x1213 := rX.e hI0 (b := 6) (hv1211)
        have x1214 := kX.e hI0 (hv1041)
        have x1215 := kX.e hI1205 ((((gI_sI_ne (by decide)).trans (hF671.1 177 3 (by decide))).trans hv1041))
        exact ⟨_, rfl, hI1205, hF1206, rfl, ⟨(TKX.c hT (((gA_sI).trans (hF671.2.1 175 (by decide)))) (((gI_sI_ne (by decide)).trans (hF671.1 174 1 (by decide)))) (((gI_sI_ne (by decide)).trans (hF671.1 176 3 (by decide)))) (((gI_sI_ne (by decide)).trans (hF671.1 176 4 (by decide)))) (((gI_sI_ne (by decide)).trans (hF671.1 176 5 (by decide))))), (PRG0.fail 1 (rX.c (b := 4) (((gI_sI_ne (by decide)).trans (hF671.1 176 4 (by decide))))) (fun _ => by omega) (fun _ => by omega) (by omega)).le (by omega), fun c0 h => h.fail (fun _ => S.clsF (TKX.some hT).choose_spec (by omega)) (fun _ => by omega) (fun _ => by omega) (by omega)⟩⟩

def zF_X5_read_176 : List (Nat × Nat) := [(176, 2), (176, 3), (176, 4), (176, 5), (176, 6), (177, 0), (177, 3), (177, 4)]
def zA_X5_read_176 : List Nat := [178, 179, 180, 181, 182, 183]
set_option maxRecDepth 100000 in
set_option maxHeartbeats 4000000 in
theorem zT_X5_read_176 (d : Nat) {N : Nat} {g0 : List en_E} (hI0 : HI g0) (hB : BYX g0) : Ev (d + 422) 63 [.ref 176] (g0, N) (fun w h' => ∃ g', h' = (g', N) ∧ HI g' ∧ Fr zF_X5_read_176 zA_X5_read_176 g0 g' ∧ ∃ r : Int32, w = some (.int r) ∧ (0 ≤ r.toInt ∧ r.toInt ≤ 1) ∧ RPX g0 g' r.toInt) := by
  have hF0 : Fr zF_X5_read_176 zA_X5_read_176 g0 g0 := Fr.rf
  refine Ev.mk rfl rfl ⟨Nat.le_of_ble_eq_true rfl, Or.inr (q_rc hI0.1 kx_176 rfl)⟩ ?_
  show At _ none _ _ (0, [(0, .ref 176)], [], (_, _)) _
  refine At.enter rfl ?_
  refine r_aload_n rfl ?_
  refine r_iconst (-1) rfl ?_
  refine q_putI (Sh.int hI0.1 kx_176 rfl) rfl ?_
  have hI2431 := HI.wI0 hI0 kx_176 rfl (p := 176) (b := 2) (v := (-1)) rfl
  have hF2432 := Fr.wI (p := 176) (b := 2) (v := (-1)) hF0 rfl
  refine r_aload_n rfl ?_
  refine r_iconst 0 rfl ?_
  refine q_putI (Sh.int hI2431.1 kx_176 rfl) rfl ?_
  have hI2433 := HI.wI1 hI2431 kx_176 rfl (p := 176) (b := 5) (v := 0) rfl (by decide)
  have hF2434 := Fr.wI (p := 176) (b := 5) (v := 0) hF2432 rfl
  refine r_aload_n rfl ?_
  refine r_iconst 0 rfl ?_
  refine q_putI (Sh.int hI2433.1 kx_176 rfl) rfl ?_
  have hI2435 := HI.wI0 hI2433 kx_176 rfl (p := 176) (b := 6) (v := 0) rfl
  have hF2436 := Fr.wI (p := 176) (b := 6) (v := 0) hF2434 rfl
  refine r_aload_n rfl ?_
  refine q_getR (Sh.ref hI2435.1 kx_176 rfl) ?_
  refine q_inlV 22 rfl [.ref 177] [] (Nat.le_of_ble_eq_true rfl) rfl ?_
  refine Ev.mk rfl rfl ⟨Nat.le_of_ble_eq_true rfl, Or.inr (q_rc hI2435.1 kx_177 rfl)⟩ ?_
  show At _ none _ _ (0, [(0, .ref 177)], [], (_, _)) _
  refine At.enter rfl ?_
  refine r_aload_n rfl ?_
  refine r_iconst 0 rfl ?_
  refine q_putI (Sh.int hI2435.1 kx_177 rfl) rfl ?_
  have hI2437 := HI.wI1 hI2435 kx_177 rfl (p := 177) (b := 0) (v := 0) rfl (by decide)
  have hF2438 := Fr.wI (p := 177) (b := 0) (v := 0) hF2436 rfl
  refine r_aload_n rfl ?_
  refine r_iconst 0 rfl ?_
  refine q_putI (Sh.int hI2437.1 kx_177 rfl) rfl ?_
  have hI2439 := HI.wI1 hI2437 kx_177 rfl (p := 177) (b := 3) (v := 0) rfl (by decide)
  have hF2440 := Fr.wI (p := 177) (b := 3) (v := 0) hF2438 rfl
  refine r_aload_n rfl ?_
  refine r_iconst 0 rfl ?_
  refine q_putI (Sh.int hI2439.1 kx_177 rfl) rfl ?_
  have hI2441 := HI.wI0 hI2439 kx_177 rfl (p := 177) (b := 4) (v := 0) rfl
  have hF2442 := Fr.wI (p := 177) (b := 4) (v := 0) hF2440 rfl
  refine q_vret ?_
  refine At.enter rfl ?_
  refine r_aload_n rfl ?_
  have x2443 := rX.e hI2441 (b := 5) (((gI_sI_ne (by decide)).trans ((gI_sI_ne (by decide)).trans ((gI_sI_ne (by decide)).trans ((gI_sI_ne (by decide)).trans (gI_sI_eq hI2431.1 kx_176 rfl _))))))
  have zv2444 : (0 : Int32).toInt = 0 := rfl
  obtain ⟨v2445, hv2445⟩ : ∃ v, gI g0 174 1 = v := ⟨_, rfl⟩
  have rv2445 := RgF.at hI0.2.1 (p := 174) (b := 1) rfl
  rw [hv2445] at rv2445
  dsimp only at rv2445
  have tv2445 := congrArg Int32.toInt hv2445
  have x2446 := nX.e hI2441 ((((gI_sI_ne (by decide)).trans ((gI_sI_ne (by decide)).trans ((gI_sI_ne (by decide)).trans ((gI_sI_ne (by decide)).trans ((gI_sI_ne (by decide)).trans (gI_sI_ne (by decide))))))).trans hv2445))
  refine r_callV 26 rfl [.ref 176] [] (Nat.le_of_ble_eq_true rfl) rfl (zT_X5_step_176 _ hI2441 (BYX.c hB (((gA_sI).trans ((gA_sI).trans ((gA_sI).trans ((gA_sI).trans ((gA_sI).trans (gA_sI))))))) (((gI_sI_ne (by decide)).trans ((gI_sI_ne (by decide)).trans ((gI_sI_ne (by decide)).trans ((gI_sI_ne (by decide)).trans ((gI_sI_ne (by decide)).trans (gI_sI_ne (by decide))))))))) (by omega)) ?_
  rintro _ _ ⟨g2447, rfl, hI2448, hF2449, rfl, hr2451⟩
  refine At.stn ?_
  have hF2452 := Fr.tr hF2442 hF2449 rfl rfl
  have skp2453 := hr2451.2
  rw [TX.c (((gA_sI).trans ((gA_sI).trans ((gA_sI).trans ((gA_sI).trans ((gA_sI).trans (gA_sI))))))), nX.c (((gI_sI_ne (by decide)).trans ((gI_sI_ne (by decide)).trans ((gI_sI_ne (by decide)).trans ((gI_sI_ne (by decide)).trans ((gI_sI_ne (by decide)).trans (gI_sI_ne (by decide)))))))), rX.e hI2441 (b := 5) (((gI_sI_ne (by decide)).trans ((gI_sI_ne (by decide)).trans ((gI_sI_ne (by decide)).trans ((gI_sI_ne (by decide)).trans (gI_sI_eq hI2431.1 kx_176 rfl _)))))), show (0 : Int32).toInt = 0 from rfl] at skp2453
  have hT2454 := hr2451.1
  obtain ⟨v2455, hv2455⟩ : ∃ v, gI g0 176 4 = v := ⟨_, rfl⟩
  have rv2455 := RgF.at hI0.2.1 (p := 176) (b := 4) rfl
  rw [hv2455] at rv2455
  dsimp only at rv2455
  have tv2455 := congrArg Int32.toInt hv2455
  have x2456 := rX.e hI2441 (b := 4) ((((gI_sI_ne (by decide)).trans ((gI_sI_ne (by decide)).trans ((gI_sI_ne (by decide)).trans ((gI_sI_ne (by decide)).trans ((gI_sI_ne (by decide)).trans (gI_sI_ne (by decide))))))).trans hv2455))
  obtain ⟨v2457, hv2457⟩ : ∃ v, gI g2447 176 4 = v := ⟨_, rfl⟩
  have rv2457 := RgF.at hI2448.2.1 (p := 176) (b := 4) rfl
  rw [hv2457] at rv2457
  dsimp only at rv2457
  have tv2457 := congrArg Int32.toInt hv2457
  have x2458 := rX.e hI2448 (b := 4) (hv2457)
  refine At.enter rfl ?_
  refine r_aload_n rfl ?_
  refine r_callV 30 rfl [.ref 176] [] (Nat.le_of_ble_eq_true rfl) rfl (zT_X5_readClause_176 _ hI2448 hT2454) ?_
  rintro _ _ ⟨g2459, rfl, hI2460, hF2461, rfl, hr2463⟩
  refine At.stn ?_
  have hF2464 := Fr.tr hF2452 hF2461 rfl rfl
  obtain ⟨o2465, o2466, o2467⟩ := hr2463
  rw [TX.c (((hF2449.2.1 175 (by decide)).trans ((gA_sI).trans ((gA_sI).trans ((gA_sI).trans ((gA_sI).trans ((gA_sI).trans (gA_sI)))))))), nX.c (((hF2449.1 174 1 (by decide)).trans ((gI_sI_ne (by decide)).trans ((gI_sI_ne (by decide)).trans ((gI_sI_ne (by decide)).trans ((gI_sI_ne (by decide)).trans ((gI_sI_ne (by decide)).trans (gI_sI_ne (by decide)))))))))] at o2467
  have y2468 := o2466.1
  have x2469 := rX.e hI2448 (b := 2) (((hF2449.1 176 2 (by decide)).trans ((gI_sI_ne (by decide)).trans ((gI_sI_ne (by decide)).trans ((gI_sI_ne (by decide)).trans ((gI_sI_ne (by decide)).trans ((gI_sI_ne (by decide)).trans (gI_sI_eq hI0.1 kx_176 rfl _))))))))
  have zv2470 : ((-1) : Int32).toInt = (-1) := rfl
  obtain ⟨v2471, hv2471⟩ : ∃ v, gI g2459 176 2 = v := ⟨_, rfl⟩
  have tv2471 := congrArg Int32.toInt hv2471
  have x2472 := rX.e hI2460 (b := 2) (hv2471)
  have x2473 := rX.e hI2448 (b := 4) (hv2457)
  obtain ⟨v2474, hv2474⟩ : ∃ v, gI g2459 176 4 = v := ⟨_, rfl⟩
  have rv2474 := RgF.at hI2460.2.1 (p := 176) (b := 4) rfl
  rw [hv2474] at rv2474
  dsimp only at rv2474
  have tv2474 := congrArg Int32.toInt hv2474
  have x2475 := rX.e hI2460 (b := 4) (hv2474)
  refine At.enter rfl ?_
  refine r_iconst 0 rfl ?_
  refine r_istore_n ([(1, .int 0), (0, .ref 176)]) rfl ?_
  refine Ar.fall 32 rfl ?_
  have z_3576 : (0 : Int32).toInt = 0 := rfl
  have x3577 := rX.e hI2448 (b := 2) (((hF2449.1 176 2 (by decide)).trans ((gI_sI_ne (by decide)).trans ((gI_sI_ne (by decide)).trans ((gI_sI_ne (by decide)).trans ((gI_sI_ne (by decide)).trans ((gI_sI_ne (by decide)).trans (gI_sI_eq hI0.1 kx_176 rfl _))))))))
  have zv3578 : ((-1) : Int32).toInt = (-1) := rfl
  have x3579 := rX.e hI2448 (b := 4) (hv2457)
  have x3580 := rX.e hI2448 (b := 6) (((hF2449.1 176 6 (by decide)).trans ((gI_sI_ne (by decide)).trans ((gI_sI_ne (by decide)).trans ((gI_sI_ne (by decide)).trans (gI_sI_eq hI2433.1 kx_176 rfl _))))))
  have zv3581 : (0 : Int32).toInt = 0 := rfl
  have x3582 := kX.e hI2448 (((hF2449.1 177 3 (by decide)).trans ((gI_sI_ne (by decide)).trans (gI_sI_eq hI2437.1 kx_177 rfl _))))
  have zv3583 : (0 : Int32).toInt = 0 := rfl
  have x3584 := rX.e hI2460 (b := 4) (hv2474)
  refine w_loopI (fun n_ l_ g_ => ∃ x3563 : Int32, n_ = 400 - x3563.toInt ∧ HI g_ ∧ Fr zF_X5_read_176 zA_X5_read_176 g0 g_ ∧ en_get 0 l_ = some (.ref 176) ∧ en_get 1 l_ = some (.int x3563) ∧ (0 ≤ x3563.toInt ∧ x3563.toInt ≤ 400) ∧ (TKX g_) ∧ (CST (TX g0) (nX g0) (6, [], 0, 0, rX g2447 4) g_ 8 [] (kX g_)) ∧ (x3563.toInt ≤ rX g_ 4)) ?_ (400 - 0) ⟨0, by first | rfl | omega, hI2460, hF2464, rfl, rfl, by decide, o2465, (o2467 _ (CST.start (by omega) (by omega) (by omega))), by omega⟩
  rintro n3568 l3567 g3564 ⟨x3563, hm3585, hI3565, hF3566, e3570, e3571, r3572, q3573, q3574, q3575⟩ ih3569
  obtain ⟨v3586, hv3586⟩ : ∃ v, gI g3564 176 4 = v := ⟨_, rfl⟩
  have rv3586 := RgF.at hI3565.2.1 (p := 176) (b := 4) rfl
  rw [hv3586] at rv3586
  dsimp only at rv3586
  have tv3586 := congrArg Int32.toInt hv3586
  have x3587 := rX.e hI3565 (b := 4) (hv3586)
  obtain ⟨v3588, hv3588⟩ : ∃ v, gI g3564 176 2 = v := ⟨_, rfl⟩
  have tv3588 := congrArg Int32.toInt hv3588
  have x3589 := rX.e hI3565 (b := 2) (hv3588)
  have ce3590 := fun hz => CDX.end_ q3573 hz
  refine At.enter rfl ?_
  refine r_iload_n e3571 ?_
  refine r_sipush 400 rfl ?_
  refine r_ics 39 rfl (fun c3591 => ?_) (fun c3591 => ?_)
  · have c3591_ : x3563.toInt ≥ 400 := en_i_ge_t c3591
    refine At.enter rfl ?_
    refine r_aload_n e3570 ?_
    obtain ⟨v3592, hv3592⟩ : ∃ v, gI g3564 176 3 = v := ⟨_, rfl⟩
    refine q_getI (Sh.int hI3565.1 kx_176 rfl) v3592 hv3592 ?_
    refine r_iconst 3 rfl ?_
    refine r_ics 78 rfl (fun c3593 => ?_) (fun c3593 => ?_)
    · have c3593_ : v3592.toInt = 3 := en_i_eq_t c3593
      refine At.enter rfl ?_
      refine r_aload_n e3570 ?_
      refine q_getI (Sh.int hI3565.1 kx_176 rfl) v3588 hv3588 ?_
      refine r_iconst (-1) rfl ?_
      refine r_ics 90 rfl (fun c3594 => ?_) (fun c3594 => ?_)
      · have c3594_ : v3588.toInt ≠ (-1) := en_i_ne_t c3594
        refine At.enter rfl ?_
        refine r_iconst 0 rfl ?_
        refine Ar.fall 95 rfl ?_
        refine At.enter rfl ?_
        refine r_iretz (by decide) ?_
        have zv3595 : (0 : Int32).toInt = 0 := rfl
        have x3596 := rX.e hI3565 (b := 2) (hv3588)
        have x3597 := rX.e hI3565 (b := 2) (hv3588)
        have x3598 := rX.e hI3565 (b := 4) (hv3586)
        have x3599 := rX.e hI3565 (b := 4) (hv3586)
        have x3600 := rX.e hI3565 (b := 3) (hv3592)
        have ck := CDX.k3 q3573
        exact ⟨_, rfl, hI3565, hF3566, _, rfl, by decide, ⟨_, skp2453, by first | (exact Or.inr ⟨by omega, by omega, RPX.bad q3574 (by omega) (by omega)⟩) | (exact Or.inl ⟨by omega, by omega, RPX.fin q3574 (by omega) (TKX.someC q3573 ((hF3566.2.1 175 (by decide))) ((hF3566.1 174 1 (by decide)))).choose_spec (by omega)⟩) | (exact Or.inr ⟨by omega, by omega, RPX.fail q3574 (by omega) (TKX.someC q3573 ((hF3566.2.1 175 (by decide))) ((hF3566.1 174 1 (by decide)))).choose_spec (by omega) (by omega) (by omega)⟩)⟩⟩
      · have c3594_ : v3588.toInt = (-1) := en_i_ne_f c3594
        refine At.enter rfl ?_
        refine r_iconst 1 rfl ?_
        refine r_goto ?_
        refine At.enter rfl ?_
        refine r_iretz (by decide) ?_
        have zv3601 : (1 : Int32).toInt = 1 := rfl
        have x3602 := rX.e hI3565 (b := 2) (hv3588)
        have x3603 := rX.e hI3565 (b := 2) (hv3588)
        have x3604 := rX.e hI3565 (b := 4) (hv3586)
        have x3605 := rX.e hI3565 (b := 4) (hv3586)
        have x3606 := rX.e hI3565 (b := 3) (hv3592)
        have ck := CDX.k3 q3573
        exact ⟨_, rfl, hI3565, hF3566, _, rfl, by decide, ⟨_, skp2453, by first | (exact Or.inr ⟨by omega, by omega, RPX.bad q3574 (by omega) (by omega)⟩) | (exact Or.inl ⟨by omega, by omega, RPX.fin q3574 (by omega) (TKX.someC q3573 ((hF3566.2.1 175 (by decide))) ((hF3566.1 174 1 (by decide)))).choose_spec (by omega)⟩) | (exact Or.inr ⟨by omega, by omega, RPX.fail q3574 (by omega) (TKX.someC q3573 ((hF3566.2.1 175 (by decide))) ((hF3566.1 174 1 (by decide)))).choose_spec (by omega) (by omega) (by omega)⟩)⟩⟩
    · have c3593_ : v3592.toInt ≠ 3 := en_i_eq_f c3593
      refine At.enter rfl ?_
      refine r_aload_n e3570 ?_
      refine q_inlV 82 rfl [.ref 176] [] (Nat.le_of_ble_eq_true rfl) rfl ?_
      refine Ev.mk rfl rfl ⟨Nat.le_of_ble_eq_true rfl, Or.inr (q_rc hI3565.1 kx_176 rfl)⟩ ?_
      show At _ none _ _ (0, [(0, .ref 176)], [], (_, _)) _
      refine At.enter rfl ?_
      refine r_aload_n rfl ?_
      refine q_getI (Sh.int hI3565.1 kx_176 rfl) v3588 hv3588 ?_
      refine r_iconst (-1) rfl ?_
      refine r_ics 8 rfl (fun c3607 => ?_) (fun c3607 => ?_)
      · have c3607_ : v3588.toInt ≠ (-1) := en_i_ne_t c3607
        refine At.enter rfl ?_
        refine q_vret ?_
        refine At.enter rfl ?_
        refine r_aload_n e3570 ?_
        refine q_getI (Sh.int hI3565.1 kx_176 rfl) v3588 hv3588 ?_
        refine r_iconst (-1) rfl ?_
        refine r_ics 90 rfl (fun c3608 => ?_) (fun c3608 => ?_)
        · have c3608_ : v3588.toInt ≠ (-1) := en_i_ne_t c3608
          refine At.enter rfl ?_
          refine r_iconst 0 rfl ?_
          refine Ar.fall 95 rfl ?_
          refine At.enter rfl ?_
          refine r_iretz (by decide) ?_
          have zv3609 : (0 : Int32).toInt = 0 := rfl
          have x3610 := rX.e hI3565 (b := 2) (hv3588)
          have x3611 := rX.e hI3565 (b := 2) (hv3588)
          have x3612 := rX.e hI3565 (b := 4) (hv3586)
          have x3613 := rX.e hI3565 (b := 4) (hv3586)
          have x3614 := rX.e hI3565 (b := 3) (hv3592)
          have ck := CDX.k3 q3573
          exact ⟨_, rfl, hI3565, hF3566, _, rfl, by decide, ⟨_, skp2453, by first | (exact Or.inr ⟨by omega, by omega, RPX.bad q3574 (by omega) (by omega)⟩) | (exact Or.inl ⟨by omega, by omega, RPX.fin q3574 (by omega) (TKX.someC q3573 ((hF3566.2.1 175 (by decide))) ((hF3566.1 174 1 (by decide)))).choose_spec (by omega)⟩) | (exact Or.inr ⟨by omega, by omega, RPX.fail q3574 (by omega) (TKX.someC q3573 ((hF3566.2.1 175 (by decide))) ((hF3566.1 174 1 (by decide)))).choose_spec (by omega) (by omega) (by omega)⟩)⟩⟩
        · have c3608_ : v3588.toInt = (-1) := en_i_ne_f c3608
          refine At.enter rfl ?_
          refine r_iconst 1 rfl ?_
          refine r_goto ?_
          refine At.enter rfl ?_
          refine r_iretz (by decide) ?_
          have zv3615 : (1 : Int32).toInt = 1 := rfl
          have x3616 := rX.e hI3565 (b := 2) (hv3588)
          have x3617 := rX.e hI3565 (b := 2) (hv3588)
          have x3618 := rX.e hI3565 (b := 4) (hv3586)
          have x3619 := rX.e hI3565 (b := 4) (hv3586)
          have x3620 := rX.e hI3565 (b := 3) (hv3592)
          have ck := CDX.k3 q3573
          exact ⟨_, rfl, hI3565, hF3566, _, rfl, by decide, ⟨_, skp2453, by first | (exact Or.inr ⟨by omega, by omega, RPX.bad q3574 (by omega) (by omega)⟩) | (exact Or.inl ⟨by omega, by omega, RPX.fin q3574 (by omega) (TKX.someC q3573 ((hF3566.2.1 175 (by decide))) ((hF3566.1 174 1 (by decide)))).choose_spec (by omega)⟩) | (exact Or.inr ⟨by omega, by omega, RPX.fail q3574 (by omega) (TKX.someC q3573 ((hF3566.2.1 175 (by decide))) ((hF3566.1 174 1 (by decide)))).choose_spec (by omega) (by omega) (by omega)⟩)⟩⟩
      · have c3607_ : v3588.toInt = (-1) := en_i_ne_f c3607
        refine At.enter rfl ?_
        refine r_aload_n rfl ?_
        refine r_aload_n rfl ?_
        refine q_getI (Sh.int hI3565.1 kx_176 rfl) v3586 hv3586 ?_
        refine q_putI (Sh.int hI3565.1 kx_176 rfl) rfl ?_
        have hI3621 := HI.wI0 hI3565 kx_176 rfl (p := 176) (b := 2) (v := v3586) rfl
        have hF3622 := Fr.wI (p := 176) (b := 2) (v := v3586) hF3566 rfl
        refine Ar.fall 16 rfl ?_
        refine At.enter rfl ?_
        refine q_vret ?_
        refine At.enter rfl ?_
        refine r_aload_n e3570 ?_
        refine q_getI (Sh.int hI3621.1 kx_176 rfl) v3586 (gI_sI_eq hI3565.1 kx_176 rfl _) ?_
        refine r_iconst (-1) rfl ?_
        refine r_ics 90 rfl (fun c3623 => ?_) (fun c3623 => ?_)
        · have c3623_ : v3586.toInt ≠ (-1) := en_i_ne_t c3623
          refine At.enter rfl ?_
          refine r_iconst 0 rfl ?_
          refine Ar.fall 95 rfl ?_
          refine At.enter rfl ?_
          refine r_iretz (by decide) ?_
          have zv3624 : (0 : Int32).toInt = 0 := rfl
          have x3625 := rX.e hI3621 (b := 2) ((gI_sI_eq hI3565.1 kx_176 rfl _))
          have x3626 := rX.e hI3565 (b := 2) (hv3588)
          have x3627 := rX.e hI3621 (b := 4) (((gI_sI_ne (by decide)).trans hv3586))
          have x3628 := rX.e hI3565 (b := 4) (hv3586)
          have x3629 := rX.e hI3565 (b := 3) (hv3592)
          have ck := CDX.k3 q3573
          exact ⟨_, rfl, hI3621, hF3622, _, rfl, by decide, ⟨_, skp2453, by first | (exact Or.inr ⟨by omega, by omega, RPX.bad q3574 (by omega) (by omega)⟩) | (exact Or.inl ⟨by omega, by omega, RPX.fin q3574 (by omega) (TKX.someC q3573 ((hF3566.2.1 175 (by decide))) ((hF3566.1 174 1 (by decide)))).choose_spec (by omega)⟩) | (exact Or.inr ⟨by omega, by omega, RPX.fail q3574 (by omega) (TKX.someC q3573 ((hF3566.2.1 175 (by decide))) ((hF3566.1 174 1 (by decide)))).choose_spec (by omega) (by omega) (by omega)⟩)⟩⟩
        · have c3623_ : v3586.toInt = (-1) := en_i_ne_f c3623
          exfalso; omega
  · have c3591_ : x3563.toInt < 400 := en_i_ge_f c3591
    refine At.enter rfl ?_
    refine r_aload_n e3570 ?_
    refine q_getI (Sh.int hI3565.1 kx_176 rfl) v3588 hv3588 ?_
    refine r_iconst (-1) rfl ?_
    refine r_ics 47 rfl (fun c3630 => ?_) (fun c3630 => ?_)
    · have c3630_ : v3588.toInt ≠ (-1) := en_i_ne_t c3630
      refine At.enter rfl ?_
      refine r_aload_n e3570 ?_
      obtain ⟨v3631, hv3631⟩ : ∃ v, gI g3564 176 3 = v := ⟨_, rfl⟩
      refine q_getI (Sh.int hI3565.1 kx_176 rfl) v3631 hv3631 ?_
      refine r_iconst 3 rfl ?_
      refine r_ics 78 rfl (fun c3632 => ?_) (fun c3632 => ?_)
      · have c3632_ : v3631.toInt = 3 := en_i_eq_t c3632
        refine At.enter rfl ?_
        refine r_aload_n e3570 ?_
        refine q_getI (Sh.int hI3565.1 kx_176 rfl) v3588 hv3588 ?_
        refine r_iconst (-1) rfl ?_
        refine r_ics 90 rfl (fun c3633 => ?_) (fun c3633 => ?_)
        · have c3633_ : v3588.toInt ≠ (-1) := en_i_ne_t c3633
          refine At.enter rfl ?_
          refine r_iconst 0 rfl ?_
          refine Ar.fall 95 rfl ?_
          refine At.enter rfl ?_
          refine r_iretz (by decide) ?_
          have zv3634 : (0 : Int32).toInt = 0 := rfl
          have x3635 := rX.e hI3565 (b := 2) (hv3588)
          have x3636 := rX.e hI3565 (b := 2) (hv3588)
          have x3637 := rX.e hI3565 (b := 4) (hv3586)
          have x3638 := rX.e hI3565 (b := 4) (hv3586)
          have x3639 := rX.e hI3565 (b := 3) (hv3631)
          have ck := CDX.k3 q3573
          exact ⟨_, rfl, hI3565, hF3566, _, rfl, by decide, ⟨_, skp2453, by first | (exact Or.inr ⟨by omega, by omega, RPX.bad q3574 (by omega) (by omega)⟩) | (exact Or.inl ⟨by omega, by omega, RPX.fin q3574 (by omega) (TKX.someC q3573 ((hF3566.2.1 175 (by decide))) ((hF3566.1 174 1 (by decide)))).choose_spec (by omega)⟩) | (exact Or.inr ⟨by omega, by omega, RPX.fail q3574 (by omega) (TKX.someC q3573 ((hF3566.2.1 175 (by decide))) ((hF3566.1 174 1 (by decide)))).choose_spec (by omega) (by omega) (by omega)⟩)⟩⟩
        · have c3633_ : v3588.toInt = (-1) := en_i_ne_f c3633
          refine At.enter rfl ?_
          refine r_iconst 1 rfl ?_
          refine r_goto ?_
          refine At.enter rfl ?_
          refine r_iretz (by decide) ?_
          have zv3640 : (1 : Int32).toInt = 1 := rfl
          have x3641 := rX.e hI3565 (b := 2) (hv3588)
          have x3642 := rX.e hI3565 (b := 2) (hv3588)
          have x3643 := rX.e hI3565 (b := 4) (hv3586)
          have x3644 := rX.e hI3565 (b := 4) (hv3586)
          have x3645 := rX.e hI3565 (b := 3) (hv3631)
          have ck := CDX.k3 q3573
          exact ⟨_, rfl, hI3565, hF3566, _, rfl, by decide, ⟨_, skp2453, by first | (exact Or.inr ⟨by omega, by omega, RPX.bad q3574 (by omega) (by omega)⟩) | (exact Or.inl ⟨by omega, by omega, RPX.fin q3574 (by omega) (TKX.someC q3573 ((hF3566.2.1 175 (by decide))) ((hF3566.1 174 1 (by decide)))).choose_spec (by omega)⟩) | (exact Or.inr ⟨by omega, by omega, RPX.fail q3574 (by omega) (TKX.someC q3573 ((hF3566.2.1 175 (by decide))) ((hF3566.1 174 1 (by decide)))).choose_spec (by omega) (by omega) (by omega)⟩)⟩⟩
      · have c3632_ : v3631.toInt ≠ 3 := en_i_eq_f c3632
        refine At.enter rfl ?_
        refine r_aload_n e3570 ?_
        refine q_inlV 82 rfl [.ref 176] [] (Nat.le_of_ble_eq_true rfl) rfl ?_
        refine Ev.mk rfl rfl ⟨Nat.le_of_ble_eq_true rfl, Or.inr (q_rc hI3565.1 kx_176 rfl)⟩ ?_
        show At _ none _ _ (0, [(0, .ref 176)], [], (_, _)) _
        refine At.enter rfl ?_
        refine r_aload_n rfl ?_
        refine q_getI (Sh.int hI3565.1 kx_176 rfl) v3588 hv3588 ?_
        refine r_iconst (-1) rfl ?_
        refine r_ics 8 rfl (fun c3646 => ?_) (fun c3646 => ?_)
        · have c3646_ : v3588.toInt ≠ (-1) := en_i_ne_t c3646
          refine At.enter rfl ?_
          refine q_vret ?_
          refine At.enter rfl ?_
          refine r_aload_n e3570 ?_
          refine q_getI (Sh.int hI3565.1 kx_176 rfl) v3588 hv3588 ?_
          refine r_iconst (-1) rfl ?_
          refine r_ics 90 rfl (fun c3647 => ?_) (fun c3647 => ?_)
          · have c3647_ : v3588.toInt ≠ (-1) := en_i_ne_t c3647
            refine At.enter rfl ?_
            refine r_iconst 0 rfl ?_
            refine Ar.fall 95 rfl ?_
            refine At.enter rfl ?_
            refine r_iretz (by decide) ?_
            have zv3648 : (0 : Int32).toInt = 0 := rfl
            have x3649 := rX.e hI3565 (b := 2) (hv3588)
            have x3650 := rX.e hI3565 (b := 2) (hv3588)
            have x3651 := rX.e hI3565 (b := 4) (hv3586)
            have x3652 := rX.e hI3565 (b := 4) (hv3586)
            have x3653 := rX.e hI3565 (b := 3) (hv3631)
            have ck := CDX.k3 q3573
            exact ⟨_, rfl, hI3565, hF3566, _, rfl, by decide, ⟨_, skp2453, by first | (exact Or.inr ⟨by omega, by omega, RPX.bad q3574 (by omega) (by omega)⟩) | (exact Or.inl ⟨by omega, by omega, RPX.fin q3574 (by omega) (TKX.someC q3573 ((hF3566.2.1 175 (by decide))) ((hF3566.1 174 1 (by decide)))).choose_spec (by omega)⟩) | (exact Or.inr ⟨by omega, by omega, RPX.fail q3574 (by omega) (TKX.someC q3573 ((hF3566.2.1 175 (by decide))) ((hF3566.1 174 1 (by decide)))).choose_spec (by omega) (by omega) (by omega)⟩)⟩⟩
          · have c3647_ : v3588.toInt = (-1) := en_i_ne_f c3647
            refine At.enter rfl ?_
            refine r_iconst 1 rfl ?_
            refine r_goto ?_
            refine At.enter rfl ?_
            refine r_iretz (by decide) ?_
            have zv3654 : (1 : Int32).toInt = 1 := rfl
            have x3655 := rX.e hI3565 (b := 2) (hv3588)
            have x3656 := rX.e hI3565 (b := 2) (hv3588)
            have x3657 := rX.e hI3565 (b := 4) (hv3586)
            have x3658 := rX.e hI3565 (b := 4) (hv3586)
            have x3659 := rX.e hI3565 (b := 3) (hv3631)
            have ck := CDX.k3 q3573
            exact ⟨_, rfl, hI3565, hF3566, _, rfl, by decide, ⟨_, skp2453, by first | (exact Or.inr ⟨by omega, by omega, RPX.bad q3574 (by omega) (by omega)⟩) | (exact Or.inl ⟨by omega, by omega, RPX.fin q3574 (by omega) (TKX.someC q3573 ((hF3566.2.1 175 (by decide))) ((hF3566.1 174 1 (by decide)))).choose_spec (by omega)⟩) | (exact Or.inr ⟨by omega, by omega, RPX.fail q3574 (by omega) (TKX.someC q3573 ((hF3566.2.1 175 (by decide))) ((hF3566.1 174 1 (by decide)))).choose_spec (by omega) (by omega) (by omega)⟩)⟩⟩
        · have c3646_ : v3588.toInt = (-1) := en_i_ne_f c3646
          refine At.enter rfl ?_
          refine r_aload_n rfl ?_
          refine r_aload_n rfl ?_
          refine q_getI (Sh.int hI3565.1 kx_176 rfl) v3586 hv3586 ?_
          refine q_putI (Sh.int hI3565.1 kx_176 rfl) rfl ?_
          have hI3660 := HI.wI0 hI3565 kx_176 rfl (p := 176) (b := 2) (v := v3586) rfl
          have hF3661 := Fr.wI (p := 176) (b := 2) (v := v3586) hF3566 rfl
          refine Ar.fall 16 rfl ?_
          refine At.enter rfl ?_
          refine q_vret ?_
          refine At.enter rfl ?_
          refine r_aload_n e3570 ?_
          refine q_getI (Sh.int hI3660.1 kx_176 rfl) v3586 (gI_sI_eq hI3565.1 kx_176 rfl _) ?_
          refine r_iconst (-1) rfl ?_
          refine r_ics 90 rfl (fun c3662 => ?_) (fun c3662 => ?_)
          · have c3662_ : v3586.toInt ≠ (-1) := en_i_ne_t c3662
            refine At.enter rfl ?_
            refine r_iconst 0 rfl ?_
            refine Ar.fall 95 rfl ?_
            refine At.enter rfl ?_
            refine r_iretz (by decide) ?_
            have zv3663 : (0 : Int32).toInt = 0 := rfl
            have x3664 := rX.e hI3660 (b := 2) ((gI_sI_eq hI3565.1 kx_176 rfl _))
            have x3665 := rX.e hI3565 (b := 2) (hv3588)
            have x3666 := rX.e hI3660 (b := 4) (((gI_sI_ne (by decide)).trans hv3586))
            have x3667 := rX.e hI3565 (b := 4) (hv3586)
            have x3668 := rX.e hI3565 (b := 3) (hv3631)
            have ck := CDX.k3 q3573
            exact ⟨_, rfl, hI3660, hF3661, _, rfl, by decide, ⟨_, skp2453, by first | (exact Or.inr ⟨by omega, by omega, RPX.bad q3574 (by omega) (by omega)⟩) | (exact Or.inl ⟨by omega, by omega, RPX.fin q3574 (by omega) (TKX.someC q3573 ((hF3566.2.1 175 (by decide))) ((hF3566.1 174 1 (by decide)))).choose_spec (by omega)⟩) | (exact Or.inr ⟨by omega, by omega, RPX.fail q3574 (by omega) (TKX.someC q3573 ((hF3566.2.1 175 (by decide))) ((hF3566.1 174 1 (by decide)))).choose_spec (by omega) (by omega) (by omega)⟩)⟩⟩
          · have c3662_ : v3586.toInt = (-1) := en_i_ne_f c3662
            exfalso; omega
    · have c3630_ : v3588.toInt = (-1) := en_i_ne_f c3630
      refine At.enter rfl ?_
      refine r_aload_n e3570 ?_
      refine r_bipush 59 rfl ?_
      refine r_callV 53 rfl [.ref 176, .int 59] [] (Nat.le_of_ble_eq_true rfl) rfl (zT_X5_isSingle_176 _ hI3565 59 (by decide)) ?_
      rintro _ _ ⟨g3669, rfl, hI3670, hF3671, v3672, rfl, hr3673⟩
      refine At.sti ?_
      have hF3674 := Fr.tr hF3566 hF3671 rfl rfl
      have zv3675 : (59 : Int32).toInt = 59 := rfl
      have hb3676 : BL (CDX g3564 = 14) v3672.toInt := ISX.code (c := 14) hr3673.2 q3573 (isSC_d (by omega)) (by decide)
      refine At.enter rfl ?_
      refine r_ifs 56 rfl (fun c3677 => ?_) (fun c3677 => ?_)
      · have c3677_ : v3672.toInt = 0 := en_k_eq_t c3677
        have i3678 := BL.no hb3676 (by omega)
        refine At.enter rfl ?_
        refine r_aload_n e3570 ?_
        obtain ⟨v3679, hv3679⟩ : ∃ v, gI g3564 176 3 = v := ⟨_, rfl⟩
        refine q_getI (Sh.int hI3670.1 kx_176 rfl) v3679 ((hF3671.1 176 3 (by decide)).trans hv3679) ?_
        refine r_iconst 3 rfl ?_
        refine r_ics 78 rfl (fun c3680 => ?_) (fun c3680 => ?_)
        · have c3680_ : v3679.toInt = 3 := en_i_eq_t c3680
          refine At.enter rfl ?_
          refine r_aload_n e3570 ?_
          refine q_getI (Sh.int hI3670.1 kx_176 rfl) v3588 ((hF3671.1 176 2 (by decide)).trans hv3588) ?_
          refine r_iconst (-1) rfl ?_
          refine r_ics 90 rfl (fun c3681 => ?_) (fun c3681 => ?_)
          · have c3681_ : v3588.toInt ≠ (-1) := en_i_ne_t c3681
            exfalso; omega
          · have c3681_ : v3588.toInt = (-1) := en_i_ne_f c3681
            refine At.enter rfl ?_
            refine r_iconst 1 rfl ?_
            refine r_goto ?_
            refine At.enter rfl ?_
            refine r_iretz (by decide) ?_
            have zv3682 : (1 : Int32).toInt = 1 := rfl
            have x3683 := rX.e hI3670 (b := 2) (((hF3671.1 176 2 (by decide)).trans hv3588))
            have x3684 := rX.e hI3565 (b := 2) (hv3588)
            have x3685 := rX.e hI3670 (b := 4) (((hF3671.1 176 4 (by decide)).trans hv3586))
            have x3686 := rX.e hI3565 (b := 4) (hv3586)
            have x3687 := rX.e hI3565 (b := 3) (hv3679)
            have ck := CDX.k3 q3573
            exact ⟨_, rfl, hI3670, hF3674, _, rfl, by decide, ⟨_, skp2453, by first | (exact Or.inr ⟨by omega, by omega, RPX.bad q3574 (by omega) (by omega)⟩) | (exact Or.inl ⟨by omega, by omega, RPX.fin q3574 (by omega) (TKX.someC q3573 ((hF3566.2.1 175 (by decide))) ((hF3566.1 174 1 (by decide)))).choose_spec (by omega)⟩) | (exact Or.inr ⟨by omega, by omega, RPX.fail q3574 (by omega) (TKX.someC q3573 ((hF3566.2.1 175 (by decide))) ((hF3566.1 174 1 (by decide)))).choose_spec (by omega) (by omega) (by omega)⟩)⟩⟩
        · have c3680_ : v3679.toInt ≠ 3 := en_i_eq_f c3680
          refine At.enter rfl ?_
          refine r_aload_n e3570 ?_
          refine q_inlV 82 rfl [.ref 176] [] (Nat.le_of_ble_eq_true rfl) rfl ?_
          refine Ev.mk rfl rfl ⟨Nat.le_of_ble_eq_true rfl, Or.inr (q_rc hI3670.1 kx_176 rfl)⟩ ?_
          show At _ none _ _ (0, [(0, .ref 176)], [], (_, _)) _
          refine At.enter rfl ?_
          refine r_aload_n rfl ?_
          refine q_getI (Sh.int hI3670.1 kx_176 rfl) v3588 ((hF3671.1 176 2 (by decide)).trans hv3588) ?_
          refine r_iconst (-1) rfl ?_
          refine r_ics 8 rfl (fun c3688 => ?_) (fun c3688 => ?_)
          · have c3688_ : v3588.toInt ≠ (-1) := en_i_ne_t c3688
            exfalso; omega
          · have c3688_ : v3588.toInt = (-1) := en_i_ne_f c3688
            refine At.enter rfl ?_
            refine r_aload_n rfl ?_
            refine r_aload_n rfl ?_
            refine q_getI (Sh.int hI3670.1 kx_176 rfl) v3586 ((hF3671.1 176 4 (by decide)).trans hv3586) ?_
            refine q_putI (Sh.int hI3670.1 kx_176 rfl) rfl ?_
            have hI3689 := HI.wI0 hI3670 kx_176 rfl (p := 176) (b := 2) (v := v3586) rfl
            have hF3690 := Fr.wI (p := 176) (b := 2) (v := v3586) hF3674 rfl
            refine Ar.fall 16 rfl ?_
            refine At.enter rfl ?_
            refine q_vret ?_
            refine At.enter rfl ?_
            refine r_aload_n e3570 ?_
            refine q_getI (Sh.int hI3689.1 kx_176 rfl) v3586 (gI_sI_eq hI3670.1 kx_176 rfl _) ?_
            refine r_iconst (-1) rfl ?_
            refine r_ics 90 rfl (fun c3691 => ?_) (fun c3691 => ?_)
            · have c3691_ : v3586.toInt ≠ (-1) := en_i_ne_t c3691
              refine At.enter rfl ?_
              refine r_iconst 0 rfl ?_
              refine Ar.fall 95 rfl ?_
              refine At.enter rfl ?_
              refine r_iretz (by decide) ?_
              have zv3692 : (0 : Int32).toInt = 0 := rfl
              have x3693 := rX.e hI3689 (b := 2) ((gI_sI_eq hI3670.1 kx_176 rfl _))
              have x3694 := rX.e hI3565 (b := 2) (hv3588)
              have x3695 := rX.e hI3689 (b := 4) ((((gI_sI_ne (by decide)).trans (hF3671.1 176 4 (by decide))).trans hv3586))
              have x3696 := rX.e hI3565 (b := 4) (hv3586)
              have x3697 := rX.e hI3565 (b := 3) (hv3679)
              have ck := CDX.k3 q3573
              exact ⟨_, rfl, hI3689, hF3690, _, rfl, by decide, ⟨_, skp2453, by first | (exact Or.inr ⟨by omega, by omega, RPX.bad q3574 (by omega) (by omega)⟩) | (exact Or.inl ⟨by omega, by omega, RPX.fin q3574 (by omega) (TKX.someC q3573 ((hF3566.2.1 175 (by decide))) ((hF3566.1 174 1 (by decide)))).choose_spec (by omega)⟩) | (exact Or.inr ⟨by omega, by omega, RPX.fail q3574 (by omega) (TKX.someC q3573 ((hF3566.2.1 175 (by decide))) ((hF3566.1 174 1 (by decide)))).choose_spec (by omega) (by omega) (by omega)⟩)⟩⟩
            · have c3691_ : v3586.toInt = (-1) := en_i_ne_f c3691
              exfalso; omega
      · have c3677_ : v3672.toInt ≠ 0 := en_k_eq_f c3677
        have i3698 := BL.yes hb3676 (by omega)
        refine At.enter rfl ?_
        refine r_aload_n e3570 ?_
        refine r_callV 60 rfl [.ref 176] [] (Nat.le_of_ble_eq_true rfl) rfl (zT_X5_step_176 _ hI3670 (TKX.c q3573 ((hF3671.2.1 175 (by decide))) ((hF3671.1 174 1 (by decide))) ((hF3671.1 176 3 (by decide))) ((hF3671.1 176 4 (by decide))) ((hF3671.1 176 5 (by decide)))).1 (TKX.c q3573 ((hF3671.2.1 175 (by decide))) ((hF3671.1 174 1 (by decide))) ((hF3671.1 176 3 (by decide))) ((hF3671.1 176 4 (by decide))) ((hF3671.1 176 5 (by decide)))).2.1.le.2.1) ?_
        rintro _ _ ⟨g3699, rfl, hI3700, hF3701, rfl, hr3703⟩
        refine At.stn ?_
        have hF3704 := Fr.tr hF3674 hF3701 rfl rfl
        have tok3705_ := hr3703.2
        rw [TX.c ((hF3671.2.1 175 (by decide))), nX.c ((hF3671.1 174 1 (by decide))), rX.c (b := 5) ((hF3671.1 176 5 (by decide)))] at tok3705_
        have tok3705 := TKX.tok q3573 tok3705_
        rw [TX.c ((hF3566.2.1 175 (by decide))), nX.c ((hF3566.1 174 1 (by decide)))] at tok3705
        have hT3706 := hr3703.1
        have x3707 := rX.e hI3670 (b := 4) (((hF3671.1 176 4 (by decide)).trans hv3586))
        obtain ⟨v3708, hv3708⟩ : ∃ v, gI g3699 176 4 = v := ⟨_, rfl⟩
        have rv3708 := RgF.at hI3700.2.1 (p := 176) (b := 4) rfl
        rw [hv3708] at rv3708
        dsimp only at rv3708
        have tv3708 := congrArg Int32.toInt hv3708
        have x3709 := rX.e hI3700 (b := 4) (hv3708)
        refine At.enter rfl ?_
        refine r_aload_n e3570 ?_
        refine r_callV 64 rfl [.ref 176] [] (Nat.le_of_ble_eq_true rfl) rfl (zT_X5_readClause_176 _ hI3700 hT3706) ?_
        rintro _ _ ⟨g3710, rfl, hI3711, hF3712, rfl, hr3714⟩
        refine At.stn ?_
        have hF3715 := Fr.tr hF3704 hF3712 rfl rfl
        obtain ⟨o3716, o3717, o3718⟩ := hr3714
        rw [TX.c (((hF3701.2.1 175 (by decide)).trans ((hF3671.2.1 175 (by decide)).trans (hF3566.2.1 175 (by decide))))), nX.c (((hF3701.1 174 1 (by decide)).trans ((hF3671.1 174 1 (by decide)).trans (hF3566.1 174 1 (by decide)))))] at o3718
        have y3719 := o3717.1
        have x3720 := rX.e hI3700 (b := 2) ((((hF3701.1 176 2 (by decide)).trans (hF3671.1 176 2 (by decide))).trans hv3588))
        obtain ⟨v3721, hv3721⟩ : ∃ v, gI g3710 176 2 = v := ⟨_, rfl⟩
        have tv3721 := congrArg Int32.toInt hv3721
        have x3722 := rX.e hI3711 (b := 2) (hv3721)
        have x3723 := rX.e hI3700 (b := 4) (hv3708)
        obtain ⟨v3724, hv3724⟩ : ∃ v, gI g3710 176 4 = v := ⟨_, rfl⟩
        have rv3724 := RgF.at hI3711.2.1 (p := 176) (b := 4) rfl
        rw [hv3724] at rv3724
        dsimp only at rv3724
        have tv3724 := congrArg Int32.toInt hv3724
        have x3725 := rX.e hI3711 (b := 4) (hv3724)
        refine At.enter rfl ?_
        refine q_iinc e3571 (x3563.toInt + 1) rfl (by omega) (fun v3726 hv3726 => ?_)
        refine r_goto ?_
        have y3727 := ((PRG0.step q3573 tok3705_ (rX.c (b := 2) (((hF3701.1 176 2 (by decide)).trans (hF3671.1 176 2 (by decide))))) (by omega)).2.2 (by rw [(rX.c (b := 2) (((hF3701.1 176 2 (by decide)).trans (hF3671.1 176 2 (by decide)))))]; omega)).2
        have x3728 := rX.e hI3565 (b := 4) (hv3586)
        have x3729 := rX.e hI3565 (b := 2) (hv3588)
        have x3730 := rX.e hI3711 (b := 4) (hv3724)
        exact ih3569 (400 - v3726.toInt) _ _ ⟨v3726, by first | rfl | omega, hI3711, hF3715, (w_p1 (by decide) (Or.inr rfl) e3570), (w_e1 _ _ _), by omega, o3716, (o3718 _ (CLX.head q3574 (fun _ => by rw [show kX g3699 = kX g3564 from congrArg Int32.toInt (((hF3701.1 177 3 (by decide)).trans (hF3671.1 177 3 (by decide))))]; exact S.semi tok3705 (by omega)) (rX.c (b := 2) (((hF3701.1 176 2 (by decide)).trans (hF3671.1 176 2 (by decide))))) (rX.c (b := 6) (((hF3701.1 176 6 (by decide)).trans (hF3671.1 176 6 (by decide))))))), by omega⟩ ⟨by omega, by omega⟩

def zF_X10_law_0 : List (Nat × Nat) := [(0, 17), (1, 6), (7, 0), (7, 3), (7, 4), (16, 0), (16, 3), (16, 4), (23, 0), (23, 3), (23, 4), (30, 0), (30, 3), (30, 4), (37, 0), (37, 3), (37, 4), (44, 0), (44, 3), (44, 4), (51, 0), (51, 3), (51, 4), (65, 0), (65, 3), (65, 4), (74, 0), (74, 3), (74, 4), (81, 0), (81, 3), (81, 4), (88, 0), (88, 3), (88, 4), (95, 0), (95, 3), (95, 4), (102, 0), (102, 3), (102, 4), (109, 0), (109, 3), (109, 4), (122, 0), (122, 3), (122, 4), (131, 0), (131, 3), (131, 4), (138, 0), (138, 3), (138, 4), (145, 0), (145, 3), (145, 4), (152, 0), (152, 3), (152, 4), (159, 0), (159, 3), (159, 4), (166, 0), (166, 3), (166, 4), (174, 1), (176, 2), (176, 3), (176, 4), (176, 5), (176, 6), (177, 0), (177, 3), (177, 4)]
def zA_X10_law_0 : List Nat := [8, 9, 10, 11, 12, 13, 17, 18, 19, 20, 21, 22, 24, 25, 26, 27, 28, 29, 31, 32, 33, 34, 35, 36, 38, 39, 40, 41, 42, 43, 45, 46, 47, 48, 49, 50, 52, 53, 54, 55, 56, 57, 66, 67, 68, 69, 70, 71, 75, 76, 77, 78, 79, 80, 82, 83, 84, 85, 86, 87, 89, 90, 91, 92, 93, 94, 96, 97, 98, 99, 100, 101, 103, 104, 105, 106, 107, 108, 110, 111, 112, 113, 114, 115, 123, 124, 125, 126, 127, 128, 132, 133, 134, 135, 136, 137, 139, 140, 141, 142, 143, 144, 146, 147, 148, 149, 150, 151, 153, 154, 155, 156, 157, 158, 160, 161, 162, 163, 164, 165, 167, 168, 169, 170, 171, 172, 178, 179, 180, 181, 182, 183, 230]
set_option maxRecDepth 100000 in
set_option maxHeartbeats 4000000 in
theorem zT_X10_law_0 (d : Nat) {N : Nat} {g0 : List en_E} (hI0 : HI g0) (hB : BYX g0) : Ev (d + 423) 115 [.ref 0] (g0, N) (fun w h' => ∃ g', h' = (g', N) ∧ HI g' ∧ Fr zF_X10_law_0 zA_X10_law_0 g0 g' ∧ ∃ r : Int32, w = some (.int r) ∧ ((-6) ≤ r.toInt ∧ r.toInt ≤ 5) ∧ ((gI g' 174 1).toInt = 0 ∧ LWX g0 g' r.toInt)) := by
  have hF0 : Fr zF_X10_law_0 zA_X10_law_0 g0 g0 := Fr.rf
  refine Ev.mk rfl rfl ⟨Nat.le_of_ble_eq_true rfl, Or.inr (q_rc hI0.1 kx_0 rfl)⟩ ?_
  show At _ none _ _ (0, [(0, .ref 0)], [], (_, _)) _
  refine At.enter rfl ?_
  refine r_aload_n rfl ?_
  refine q_getR (Sh.ref hI0.1 kx_0 rfl) ?_
  obtain ⟨v93, hv93⟩ : ∃ v, gI g0 1 6 = v := ⟨_, rfl⟩
  have rv93 := RgF.at hI0.2.1 (p := 1) (b := 6) rfl
  rw [hv93] at rv93
  dsimp only at rv93
  refine q_getI (Sh.int hI0.1 kx_1 rfl) v93 hv93 ?_
  refine r_bipush 6 rfl ?_
  refine r_ics 12 rfl (fun c94 => ?_) (fun c94 => ?_)
  · have c94_ : v93.toInt < 6 := en_i_lt_t c94
    refine At.enter rfl ?_
    refine r_aload_n rfl ?_
    refine q_getR (Sh.ref hI0.1 kx_0 rfl) ?_
    refine r_callV 34 rfl [.ref 176] [] (Nat.le_of_ble_eq_true rfl) rfl (zT_X5_read_176 _ hI0 hB) ?_
    rintro _ _ ⟨g95, rfl, hI96, hF97, v98, rfl, hr99⟩
    refine At.sti ?_
    have hF100 := Fr.tr hF0 hF97 rfl rfl
    refine At.enter rfl ?_
    refine r_istore_n ([(1, .int v98), (0, .ref 0)]) rfl ?_
    refine r_aload_n rfl ?_
    refine q_getR (Sh.ref hI96.1 kx_0 rfl) ?_
    refine r_iconst 0 rfl ?_
    refine q_putI (Sh.int hI96.1 kx_174 rfl) rfl ?_
    have hI101 := HI.wI1 hI96 kx_174 rfl (p := 174) (b := 1) (v := 0) rfl (by decide)
    have hF102 := Fr.wI (p := 174) (b := 1) (v := 0) hF100 rfl
    refine r_iload_n rfl ?_
    refine r_ifs 47 rfl (fun c103 => ?_) (fun c103 => ?_)
    · have c103_ : v98.toInt ≠ 0 := en_k_ne_t c103
      refine At.enter rfl ?_
      refine r_aload_n rfl ?_
      refine r_aload_n rfl ?_
      refine q_getR (Sh.ref hI101.1 kx_0 rfl) ?_
      refine r_aload_n rfl ?_
      refine q_getR (Sh.ref hI101.1 kx_0 rfl) ?_
      refine q_getR (Sh.ref hI101.1 kx_176 rfl) ?_
      refine q_inlV 69 rfl [.ref 1, .ref 177] [.ref 0] (Nat.le_of_ble_eq_true rfl) rfl ?_
      refine Ev.mk rfl rfl ⟨Nat.le_of_ble_eq_true rfl, Or.inr (q_rc hI101.1 kx_1 rfl)⟩ ?_
      show At _ none _ _ (0, [(0, .ref 1), (1, .ref 177)], [], (_, _)) _
      refine At.enter rfl ?_
      refine r_aload_n rfl ?_
      refine q_getI (Sh.int hI101.1 kx_1 rfl) v93 (((gI_sI_ne (by decide)).trans (hF97.1 1 6 (by decide))).trans hv93) ?_
      refine r_bipush 6 rfl ?_
      refine r_ics 9 rfl (fun c104 => ?_) (fun c104 => ?_)
      · have c104_ : v93.toInt < 6 := en_i_lt_t c104
        refine At.enter rfl ?_
        refine r_aload_n rfl ?_
        refine r_aload_n rfl ?_
        refine q_getI (Sh.int hI101.1 kx_1 rfl) v93 (((gI_sI_ne (by decide)).trans (hF97.1 1 6 (by decide))).trans hv93) ?_
        refine r_callV 19 rfl [.ref 1, .int v93] [] (Nat.le_of_ble_eq_true rfl) rfl (T_X0_lawAt_1 _ hI101 v93) ?_
        rintro _ _ ⟨g105, rfl, hI106, hF107, v108, rfl, hr109⟩
        refine At.str ?_
        have hF110 := Fr.tr hF102 hF107 rfl rfl
        refine At.enter rfl ?_
        refine r_aload_n rfl ?_
        refine r_callV 23 rfl [.ref (v108), .ref 177] [] (Nat.le_of_ble_eq_true rfl) rfl (T_X4_become_law _ hI106 (v108) hr109 177 rfl) ?_
        rintro _ _ ⟨g111, rfl, hI112, hF113, rfl⟩
        refine At.stn ?_
        have hF116 := Fr.tr hF110 hF113 rfl rfl
        refine At.enter rfl ?_
        refine r_aload_n rfl ?_
        refine r_dup rfl ?_
        refine q_getI (Sh.int hI112.1 kx_1 rfl) v93 (((hF113.1 1 6 (by decide)).trans ((hF107.1 1 6 (by decide)).trans ((gI_sI_ne (by decide)).trans (hF97.1 1 6 (by decide))))).trans hv93) ?_
        refine r_iconst 1 rfl ?_
        refine q_iadd (v93.toInt + 1) rfl (by omega) (fun v117 hv117 => ?_)
        refine q_putI (Sh.int hI112.1 kx_1 rfl) rfl ?_
        have hI118 := HI.wI1 hI112 kx_1 rfl (p := 1) (b := 6) (v := v117) rfl (by dsimp only; omega)
        have hF119 := Fr.wI (p := 1) (b := 6) (v := v117) hF116 rfl
        refine r_aload_n rfl ?_
        refine q_getI (Sh.int hI118.1 kx_1 rfl) v117 (gI_sI_eq hI112.1 kx_1 rfl _) ?_
        refine r_iconst 1 rfl ?_
        refine q_isub (v117.toInt - 1) rfl (by omega) (fun v120 hv120 => ?_)
        refine q_ireti ?_
        refine At.enter rfl ?_
        refine q_inlV 72 rfl [.ref 0, .int v120] [] (Nat.le_of_ble_eq_true rfl) rfl ?_
        refine Ev.mk rfl rfl ⟨Nat.le_of_ble_eq_true rfl, Or.inr (q_rc hI118.1 kx_0 rfl)⟩ ?_
        show At _ none _ _ (0, [(0, .ref 0), (1, .int v120)], [], (_, _)) _
        refine At.enter rfl ?_
        refine r_aload_n rfl ?_
        refine r_iconst 0 rfl ?_
        refine q_putI (Sh.int hI118.1 kx_0 rfl) rfl ?_
        have hI121 := HI.wI0 hI118 kx_0 rfl (p := 0) (b := 17) (v := 0) rfl
        have hF122 := Fr.wI (p := 0) (b := 17) (v := 0) hF119 rfl
        refine r_iload_n rfl ?_
        refine q_ireti ?_
        refine At.enter rfl ?_
        refine r_ireti ?_
        have x123 := HI.eqI hI121 (p := 174) (b := 1) (((gI_sI_ne (by decide)).trans ((gI_sI_ne (by decide)).trans ((hF113.1 174 1 (by decide)).trans ((hF107.1 174 1 (by decide)).trans (gI_sI_eq hI96.1 kx_174 rfl _))))))
        have zv124 : (0 : Int32).toInt = 0 := rfl
        have x125 := HI.eqI hI121 (p := 1) (b := 6) (((gI_sI_ne (by decide)).trans (gI_sI_eq hI112.1 kx_1 rfl _)))
        have x126 := HI.eqI hI0 (p := 1) (b := 6) (hv93)
        obtain ⟨v127, hv127⟩ : ∃ v, gI g95 176 2 = v := ⟨_, rfl⟩
        have tv127 := congrArg Int32.toInt hv127
        have x128 := HI.eqI hI121 (p := 176) (b := 2) ((((gI_sI_ne (by decide)).trans ((gI_sI_ne (by decide)).trans ((hF113.1 176 2 (by decide)).trans ((hF107.1 176 2 (by decide)).trans (gI_sI_ne (by decide)))))).trans hv127))
        obtain ⟨v129, hv129⟩ : ∃ v, gI g0 176 2 = v := ⟨_, rfl⟩
        have tv129 := congrArg Int32.toInt hv129
        have x130 := HI.eqI hI0 (p := 176) (b := 2) (hv129)
        exact ⟨_, rfl, hI121, hF122, _, rfl, by omega, ⟨by omega, Or.inr ⟨show (gI g0 1 6).toInt < 6 from by omega, (RPX.rq hr99.2 (rfl) (rfl) (congrArg Int32.toInt (((gI_sI_ne (by decide)).trans ((gI_sI_ne (by decide)).trans ((hF113.1 176 2 (by decide)).trans ((hF107.1 176 2 (by decide)).trans (gI_sI_ne (by decide)))))))) (fun z => by omega) (fun z => by omega)), Or.inr ⟨show _ = (gI g0 1 6).toInt from by omega, by omega, show (gI _ 1 6).toInt = (gI g0 1 6).toInt + 1 from by omega⟩⟩⟩⟩
      · have c104_ : v93.toInt ≥ 6 := en_i_lt_f c104
        exfalso; omega
    · have c103_ : v98.toInt = 0 := en_k_ne_f c103
      refine At.enter rfl ?_
      refine r_aload_n rfl ?_
      refine r_bipush (-6) rfl ?_
      refine r_callV 53 rfl [.ref 0, .int (-6)] [] (Nat.le_of_ble_eq_true rfl) rfl (T_X10_refused_0 _ hI101 (-6) (by decide)) ?_
      rintro _ _ ⟨g131, rfl, hI132, hF133, v134, rfl, hr135⟩
      refine At.sti ?_
      have hF136 := Fr.tr hF102 hF133 rfl rfl
      have zv137 : ((-6) : Int32).toInt = (-6) := rfl
      refine At.enter rfl ?_
      refine r_ireti ?_
      have x138 := HI.eqI hI132 (p := 174) (b := 1) (((hF133.1 174 1 (by decide)).trans (gI_sI_eq hI96.1 kx_174 rfl _)))
      have zv139 : (0 : Int32).toInt = 0 := rfl
      have x140 := HI.eqI hI132 (p := 1) (b := 6) ((((hF133.1 1 6 (by decide)).trans ((gI_sI_ne (by decide)).trans (hF97.1 1 6 (by decide)))).trans hv93))
      have x141 := HI.eqI hI0 (p := 1) (b := 6) (hv93)
      obtain ⟨v142, hv142⟩ : ∃ v, gI g95 176 2 = v := ⟨_, rfl⟩
      have tv142 := congrArg Int32.toInt hv142
      have x143 := HI.eqI hI132 (p := 176) (b := 2) ((((hF133.1 176 2 (by decide)).trans (gI_sI_ne (by decide))).trans hv142))
      obtain ⟨v144, hv144⟩ : ∃ v, gI g0 176 2 = v := ⟨_, rfl⟩
      have tv144 := congrArg Int32.toInt hv144
      have x145 := HI.eqI hI0 (p := 176) (b := 2) (hv144)
      exact ⟨_, rfl, hI132, hF136, _, rfl, by omega, ⟨by omega, Or.inr ⟨show (gI g0 1 6).toInt < 6 from by omega, (RPX.rq hr99.2 (rfl) (rfl) (congrArg Int32.toInt (((hF133.1 176 2 (by decide)).trans (gI_sI_ne (by decide))))) (fun z => by omega) (fun z => by omega)), Or.inl ⟨by omega, (show (gI _ 1 6).toInt = (gI g0 1 6).toInt from by omega)⟩⟩⟩⟩
  · have c94_ : v93.toInt ≥ 6 := en_i_lt_f c94
    refine At.enter rfl ?_
    refine r_aload_n rfl ?_
    refine q_getR (Sh.ref hI0.1 kx_0 rfl) ?_
    refine r_iconst 0 rfl ?_
    refine q_putI (Sh.int hI0.1 kx_174 rfl) rfl ?_
    have hI146 := HI.wI1 hI0 kx_174 rfl (p := 174) (b := 1) (v := 0) rfl (by decide)
    have hF147 := Fr.wI (p := 174) (b := 1) (v := 0) hF0 rfl
    refine r_aload_n rfl ?_
    refine r_bipush (-5) rfl ?_
    refine r_callV 26 rfl [.ref 0, .int (-5)] [] (Nat.le_of_ble_eq_true rfl) rfl (T_X10_refused_0 _ hI146 (-5) (by decide)) ?_
    rintro _ _ ⟨g148, rfl, hI149, hF150, v151, rfl, hr152⟩
    refine At.sti ?_
    have hF153 := Fr.tr hF147 hF150 rfl rfl
    have zv154 : ((-5) : Int32).toInt = (-5) := rfl
    refine At.enter rfl ?_
    refine r_ireti ?_
    have x155 := HI.eqI hI149 (p := 174) (b := 1) (((hF150.1 174 1 (by decide)).trans (gI_sI_eq hI0.1 kx_174 rfl _)))
    have zv156 : (0 : Int32).toInt = 0 := rfl
    have x157 := HI.eqI hI149 (p := 1) (b := 6) ((((hF150.1 1 6 (by decide)).trans (gI_sI_ne (by decide))).trans hv93))
    have x158 := HI.eqI hI0 (p := 1) (b := 6) (hv93)
    obtain ⟨v159, hv159⟩ : ∃ v, gI g0 176 2 = v := ⟨_, rfl⟩
    have tv159 := congrArg Int32.toInt hv159
    have x160 := HI.eqI hI149 (p := 176) (b := 2) ((((hF150.1 176 2 (by decide)).trans (gI_sI_ne (by decide))).trans hv159))
    have x161 := HI.eqI hI0 (p := 176) (b := 2) (hv159)
    exact ⟨_, rfl, hI149, hF153, _, rfl, by omega, ⟨by omega, Or.inl ⟨show 6 ≤ (gI g0 1 6).toInt from by omega, by omega, show (gI _ 176 2).toInt = (gI g0 176 2).toInt from by omega, (show (gI _ 1 6).toInt = (gI g0 1 6).toInt from by omega)⟩⟩⟩
