def F_X5_isSingle_176 : List (Nat × Nat) := []
def A_X5_isSingle_176 : List Nat := []
set_option maxRecDepth 100000 in
set_option maxHeartbeats 4000000 in
theorem T_X5_isSingle_176 (d : Nat) {N : Nat} {g0 : List en_E} (hI0 : HI g0) (a1 : Int32) (h_a1 : 0 ≤ a1.toInt ∧ a1.toInt ≤ 127) : Ev (d + 2) 75 [.ref 176, .int a1] (g0, N) (fun w h' => ∃ g', h' = (g', N) ∧ HI g' ∧ Fr F_X5_isSingle_176 A_X5_isSingle_176 g0 g' ∧ ∃ r : Int32, w = some (.int r) ∧ (0 ≤ r.toInt ∧ r.toInt ≤ 1) ∧ (BL (rX g0 3 = 2 ∧ rX g0 4 < nX g0 ∧ TX g0 (rX g0 4) = a1.toInt) r.toInt)) := by
  have hF0 : Fr F_X5_isSingle_176 A_X5_isSingle_176 g0 g0 := Fr.rf
  refine Ev.mk rfl rfl ⟨Nat.le_of_ble_eq_true rfl, Or.inr (q_rc hI0.1 kx_176 rfl)⟩ ?_
  show At _ none _ _ (0, [(0, .ref 176), (1, .int a1)], [], (_, _)) _
  refine At.enter rfl ?_
  refine r_aload_n rfl ?_
  obtain ⟨v27, hv27⟩ : ∃ v, gI g0 176 3 = v := ⟨_, rfl⟩
  refine q_getI (Sh.int hI0.1 kx_176 rfl) v27 hv27 ?_
  refine r_iconst 2 rfl ?_
  refine r_ics 8 rfl (fun c28 => ?_) (fun c28 => ?_)
  · have c28_ : v27.toInt ≠ 2 := en_i_ne_t c28
    refine At.enter rfl ?_
    refine r_iconst 0 rfl ?_
    refine Ar.fall 28 rfl ?_
    refine At.enter rfl ?_
    refine r_iretz (by decide) ?_
    have zv29 : (0 : Int32).toInt = 0 := rfl
    obtain ⟨v30, hv30⟩ : ∃ v, gI g0 176 4 = v := ⟨_, rfl⟩
    have rv30 := RgF.at hI0.2.1 (p := 176) (b := 4) rfl
    rw [hv30] at rv30
    dsimp only at rv30
    have tv30 := congrArg Int32.toInt hv30
    exact ⟨_, rfl, hI0, hF0, _, rfl, by decide, (ISX.mk (rX.e hI0 (b := 3) (hv27)) (rX.e hI0 (b := 4) (hv30)) (by omega) (by omega) (Or.inl ⟨by omega, by omega⟩))⟩
  · have c28_ : v27.toInt = 2 := en_i_ne_f c28
    refine At.enter rfl ?_
    refine r_aload_n rfl ?_
    refine q_getR (Sh.ref hI0.1 kx_176 rfl) ?_
    refine r_aload_n rfl ?_
    obtain ⟨v31, hv31⟩ : ∃ v, gI g0 176 4 = v := ⟨_, rfl⟩
    have rv31 := RgF.at hI0.2.1 (p := 176) (b := 4) rfl
    rw [hv31] at rv31
    dsimp only at rv31
    refine q_getI (Sh.int hI0.1 kx_176 rfl) v31 hv31 ?_
    refine r_callV 19 rfl [.ref 174, .int v31] [] (Nat.le_of_ble_eq_true rfl) rfl (T_X8_at_174 _ hI0 v31) ?_
    rintro _ _ ⟨g32, rfl, hI33, hF34, v35, rfl, hr36⟩
    refine At.sti ?_
    have hF37 := Fr.tr hF0 hF34 rfl rfl
    obtain ⟨v38, hv38⟩ : ∃ v, gI g0 174 1 = v := ⟨_, rfl⟩
    have rv38 := RgF.at hI0.2.1 (p := 174) (b := 1) rfl
    rw [hv38] at rv38
    dsimp only at rv38
    have tv38 := congrArg Int32.toInt hv38
    have at40 : ATX g0 v31.toInt v35.toInt := hr36.2.2
    refine At.enter rfl ?_
    refine r_iload_n rfl ?_
    refine r_ics 23 rfl (fun c41 => ?_) (fun c41 => ?_)
    · have c41_ : v35.toInt ≠ a1.toInt := en_i_ne_t c41
      refine At.enter rfl ?_
      refine r_iconst 0 rfl ?_
      refine Ar.fall 28 rfl ?_
      refine At.enter rfl ?_
      refine r_iretz (by decide) ?_
      have zv42 : (0 : Int32).toInt = 0 := rfl
      exact ⟨_, rfl, hI33, hF37, _, rfl, by decide, (ISX.mk (rX.e hI0 (b := 3) (hv27)) (rX.e hI0 (b := 4) (hv31)) (by omega) (by omega) (Or.inr ⟨by omega, _, at40, by omega⟩))⟩
    · have c41_ : v35.toInt = a1.toInt := en_i_ne_f c41
      refine At.enter rfl ?_
      refine r_iconst 1 rfl ?_
      refine r_goto ?_
      refine At.enter rfl ?_
      refine r_iretz (by decide) ?_
      have zv43 : (1 : Int32).toInt = 1 := rfl
      exact ⟨_, rfl, hI33, hF37, _, rfl, by decide, (ISX.mk (rX.e hI0 (b := 3) (hv27)) (rX.e hI0 (b := 4) (hv31)) (by omega) (by omega) (Or.inr ⟨by omega, _, at40, by omega⟩))⟩

def F_X5_step_176 : List (Nat × Nat) := [(176, 3), (176, 4), (176, 5)]
def A_X5_step_176 : List Nat := []
theorem mf_X5_kindOf_176_4 : memF F_X5_kindOf 176 4 = false := by decide
theorem mf_X8_at_174_176_4 : memF F_X8_at_174 176 4 = false := by decide
theorem mf_X5_kindOf_176_3 : memF F_X5_kindOf 176 3 = false := by decide
theorem mf_X8_at_174_176_3 : memF F_X8_at_174 176 3 = false := by decide
theorem ma_X5_kindOf_175 : memA A_X5_kindOf 175 = false := by decide
theorem mf_X5_kindOf_174_1 : memF F_X5_kindOf 174 1 = false := by decide
set_option maxRecDepth 100000 in
set_option maxHeartbeats 4000000 in
theorem T_X5_step_176 (d : Nat) {N : Nat} {g0 : List en_E} (hI0 : HI g0) (hB : BYX g0) (hN : rX g0 5 ≤ nX g0) : Ev (d + 2) 73 [.ref 176] (g0, N) (fun w h' => ∃ g', h' = (g', N) ∧ HI g' ∧ Fr F_X5_step_176 A_X5_step_176 g0 g' ∧ w = none ∧ (TKX g' ∧ SKP (TX g0) (nX g0) (rX g0 5) (rX g' 4))) := by
  have hF0 : Fr F_X5_step_176 A_X5_step_176 g0 g0 := Fr.rf
  refine Ev.mk rfl rfl ⟨Nat.le_of_ble_eq_true rfl, Or.inr (q_rc hI0.1 kx_176 rfl)⟩ ?_
  show At _ none _ _ (0, [(0, .ref 176)], [], (_, _)) _
  refine At.enter rfl ?_
  refine r_aload_n rfl ?_
  obtain ⟨v1500, hv1500⟩ : ∃ v, gI g0 176 5 = v := ⟨_, rfl⟩
  have rv1500 := RgF.at hI0.2.1 (p := 176) (b := 5) rfl
  rw [hv1500] at rv1500
  dsimp only at rv1500
  refine q_getI (Sh.int hI0.1 kx_176 rfl) v1500 hv1500 ?_
  refine r_istore_n ([(1, .int v1500), (0, .ref 176)]) rfl ?_
  refine Ar.fall 5 rfl ?_
  have x1871 := rX.e hI0 (b := 5) (hv1500)
  obtain ⟨v1872, hv1872⟩ : ∃ v, gI g0 174 1 = v := ⟨_, rfl⟩
  have rv1872 := RgF.at hI0.2.1 (p := 174) (b := 1) rfl
  rw [hv1872] at rv1872
  dsimp only at rv1872
  have tv1872 := congrArg Int32.toInt hv1872
  have x1873 := nX.e hI0 (hv1872)
  refine w_loopI (fun n_ l_ g_ => ∃ x1858 : Int32, n_ = 400 - x1858.toInt ∧ HI g_ ∧ Fr F_X5_step_176 A_X5_step_176 g0 g_ ∧ en_get 0 l_ = some (.ref 176) ∧ en_get 1 l_ = some (.int x1858) ∧ (0 ≤ x1858.toInt ∧ x1858.toInt ≤ 400) ∧ (∀ j : Int, rX g0 5 ≤ j → j < x1858.toInt → TX g0 j = 32) ∧ (rX g0 5 ≤ x1858.toInt) ∧ (x1858.toInt ≤ nX g0)) ?_ (400 - v1500.toInt) ⟨v1500, by first | rfl | omega, hI0, hF0, rfl, rfl, by omega, (fun j h0 h1 => absurd h1 (by omega)), by omega, by omega⟩
  rintro n1863 l1862 g1859 ⟨x1858, hm1874, hI1860, hF1861, e1865, e1866, r1867, q1868, q1869, q1870⟩ ih1864
  refine At.enter rfl ?_
  refine r_iload_n e1866 ?_
  refine r_aload_n e1865 ?_
  refine q_getR (Sh.ref hI1860.1 kx_176 rfl) ?_
  refine q_getI (Sh.int hI1860.1 kx_174 rfl) v1872 ((hF1861.1 174 1 (by decide)).trans hv1872) ?_
  have bv1876 := q_bnd x1858
  have bv1877 := q_bnd v1872
  refine r_ics 16 rfl (fun c1875 => ?_) (fun c1875 => ?_)
  · have c1875_ : x1858.toInt ≥ v1872.toInt := en_i_ge_t c1875
    refine At.enter rfl ?_
    refine r_aload_n e1865 ?_
    refine r_iload_n e1866 ?_
    refine q_putI (Sh.int hI1860.1 kx_176 rfl) rfl ?_
    have hI1878 := HI.wI1 hI1860 kx_176 rfl (p := 176) (b := 4) (v := x1858) rfl (by dsimp only; omega)
    have hF1879 := Fr.wI (p := 176) (b := 4) (v := x1858) hF1861 rfl
    refine r_aload_n e1865 ?_
    refine r_aload_n e1865 ?_
    refine q_getR (Sh.ref hI1878.1 kx_176 rfl) ?_
    refine r_iload_n e1866 ?_
    refine r_callV 49 rfl [.ref 174, .int x1858] [.ref 176] (Nat.le_of_ble_eq_true rfl) rfl (T_X8_at_174 _ hI1878 x1858) ?_
    rintro _ _ ⟨g1880, rfl, hI1881, hF1882, v1883, rfl, hr1884⟩
    refine At.sti ?_
    have hF1885 := Fr.tr hF1879 hF1882 rfl rfl
    have x1886 := HI.eqI hI1878 (p := 174) (b := 1) ((((gI_sI_ne (by decide)).trans (hF1861.1 174 1 (by decide))).trans hv1872))
    have at1887 : ATX g0 x1858.toInt v1883.toInt := (hr1884.2.2).c (((gA_sI).trans (hF1861.2.1 175 (by decide)))) (((gI_sI_ne (by decide)).trans (hF1861.1 174 1 (by decide))))
    refine At.enter rfl ?_
    refine r_callS 52 rfl [.int v1883] [.ref 176] (Nat.le_of_ble_eq_true rfl) rfl (T_X5_kindOf _ hI1881 v1883) ?_
    rintro _ _ ⟨g1888, rfl, hI1889, hF1890, v1891, rfl, hr1892⟩
    refine At.sti ?_
    have hF1893 := Fr.tr hF1885 hF1890 rfl rfl
    refine At.enter rfl ?_
    refine q_putI (Sh.int hI1889.1 kx_176 rfl) rfl ?_
    have hI1894 := HI.wI0 hI1889 kx_176 rfl (p := 176) (b := 3) (v := v1891) rfl
    have hF1895 := Fr.wI (p := 176) (b := 3) (v := v1891) hF1893 rfl
    refine r_aload_n e1865 ?_
    refine q_getI (Sh.int hI1894.1 kx_176 rfl) v1891 (gI_sI_eq hI1889.1 kx_176 rfl _) ?_
    refine r_iconst 3 rfl ?_
    refine r_ics 63 rfl (fun c1896 => ?_) (fun c1896 => ?_)
    · have c1896_ : v1891.toInt = 3 := en_i_eq_t c1896
      have x1937 := nX.e hI0 (hv1872)
      refine w_loopI (fun n_ l_ g_ => ∃ x1922 : Int32, n_ = 400 - x1922.toInt ∧ HI g_ ∧ Fr F_X5_step_176 A_X5_step_176 g0 g_ ∧ gI g_ 176 3 = v1891 ∧ gI g_ 176 4 = x1858 ∧ en_get 0 l_ = some (.ref 176) ∧ en_get 1 l_ = some (.int x1922) ∧ (0 ≤ x1922.toInt ∧ x1922.toInt ≤ 400) ∧ (∀ j : Int, x1858.toInt ≤ j → j < x1922.toInt → KND (TX g0 j) v1891.toInt) ∧ (RWI v1891.toInt x1858.toInt x1922.toInt) ∧ (x1922.toInt ≤ nX g0)) ?_ (400 - x1858.toInt) ⟨x1858, by first | rfl | omega, hI1894, hF1895, (gI_sI_eq hI1889.1 kx_176 rfl _), ((gI_sI_ne (by decide)).trans ((hF1890.1 176 4 mf_X5_kindOf_176_4).trans ((hF1882.1 176 4 mf_X8_at_174_176_4).trans (gI_sI_eq hI1860.1 kx_176 rfl _)))), e1865, e1866, by omega, (ROWK.z at1887 hr1892.2.2 (by omega)), (RWI.z (by omega)), (by first | omega | (have z := (at1887).in_ (fun e => by have y := (hr1892.2.2).1 e; omega); omega))⟩
      rintro n1927 l1926 g1923 ⟨x1922, hm1938, hI1924, hF1925, e1929, e1930, e1931, e1932, r1933, q1934, q1935, q1936⟩ ih1928
      have tv1939 := congrArg Int32.toInt e1929
      have tv1940 := congrArg Int32.toInt e1930
      refine At.enter rfl ?_
      refine r_iload_n e1932 ?_
      refine r_aload_n e1931 ?_
      refine q_getR (Sh.ref hI1924.1 kx_176 rfl) ?_
      refine q_getI (Sh.int hI1924.1 kx_174 rfl) v1872 ((hF1925.1 174 1 (by decide)).trans hv1872) ?_
      have bv1942 := q_bnd x1922
      refine r_ics 77 rfl (fun c1941 => ?_) (fun c1941 => ?_)
      · have c1941_ : x1922.toInt ≥ v1872.toInt := en_i_ge_t c1941
        refine At.enter rfl ?_
        refine r_aload_n e1931 ?_
        refine r_iload_n e1932 ?_
        refine q_putI (Sh.int hI1924.1 kx_176 rfl) rfl ?_
        have hI1943 := HI.wI1 hI1924 kx_176 rfl (p := 176) (b := 5) (v := x1922) rfl (by dsimp only; omega)
        have hF1944 := Fr.wI (p := 176) (b := 5) (v := x1922) hF1925 rfl
        refine r_vret ?_
        have x1945 := rX.e hI0 (b := 5) (hv1500)
        have x1946 := nX.e hI0 (hv1872)
        exact ⟨_, rfl, hI1943, hF1944, rfl, (STEP.mk ((gA_sI).trans (hF1925.2.1 175 (by decide))) ((gI_sI_ne (by decide)).trans (hF1925.1 174 1 (by decide))) (rX.e hI1943 (b := 4) (((gI_sI_ne (by decide)).trans e1930))) (rX.e hI1943 (b := 3) (((gI_sI_ne (by decide)).trans e1929))) (rX.e hI1943 (b := 5) ((gI_sI_eq hI1924.1 kx_176 rfl _))) hB (by omega) (by omega) (by omega) (by omega) q1868 (fun hz => by omega) at1887 hr1892.2.2 q1935.1 q1935.2.1 (by omega) q1934 q1935.2.2 (fun hz1 hz2 => by omega))⟩
      · have c1941_ : x1922.toInt < v1872.toInt := en_i_ge_f c1941
        refine At.enter rfl ?_
        refine r_aload_n e1931 ?_
        refine q_getI (Sh.int hI1924.1 kx_176 rfl) v1891 e1929 ?_
        refine r_iconst 2 rfl ?_
        refine r_ics 85 rfl (fun c1947 => ?_) (fun c1947 => ?_)
        · have c1947_ : v1891.toInt = 2 := en_i_eq_t c1947
          exfalso; omega
        · have c1947_ : v1891.toInt ≠ 2 := en_i_eq_f c1947
          refine At.enter rfl ?_
          refine r_aload_n e1931 ?_
          refine q_getR (Sh.ref hI1924.1 kx_176 rfl) ?_
          refine r_iload_n e1932 ?_
          refine r_callV 93 rfl [.ref 174, .int x1922] [] (Nat.le_of_ble_eq_true rfl) rfl (T_X8_at_174 _ hI1924 x1922) ?_
          rintro _ _ ⟨g1948, rfl, hI1949, hF1950, v1951, rfl, hr1952⟩
          refine At.sti ?_
          have hF1953 := Fr.tr hF1925 hF1950 rfl rfl
          have x1954 := HI.eqI hI1924 (p := 174) (b := 1) (((hF1925.1 174 1 (by decide)).trans hv1872))
          have at1955 : ATX g0 x1922.toInt v1951.toInt := (hr1952.2.2).c ((hF1925.2.1 175 (by decide))) ((hF1925.1 174 1 (by decide)))
          refine At.enter rfl ?_
          refine r_callS 96 rfl [.int v1951] [] (Nat.le_of_ble_eq_true rfl) rfl (T_X5_kindOf _ hI1949 v1951) ?_
          rintro _ _ ⟨g1956, rfl, hI1957, hF1958, v1959, rfl, hr1960⟩
          refine At.sti ?_
          have hF1961 := Fr.tr hF1953 hF1958 rfl rfl
          refine At.enter rfl ?_
          refine r_aload_n e1931 ?_
          refine q_getI (Sh.int hI1957.1 kx_176 rfl) v1891 (((hF1958.1 176 3 mf_X5_kindOf_176_3).trans (hF1950.1 176 3 mf_X8_at_174_176_3)).trans e1929) ?_
          refine r_ics 103 rfl (fun c1962 => ?_) (fun c1962 => ?_)
          · have c1962_ : v1959.toInt ≠ v1891.toInt := en_i_ne_t c1962
            refine At.enter rfl ?_
            refine r_aload_n e1931 ?_
            refine r_iload_n e1932 ?_
            refine q_putI (Sh.int hI1957.1 kx_176 rfl) rfl ?_
            have hI1963 := HI.wI1 hI1957 kx_176 rfl (p := 176) (b := 5) (v := x1922) rfl (by dsimp only; omega)
            have hF1964 := Fr.wI (p := 176) (b := 5) (v := x1922) hF1961 rfl
            refine r_vret ?_
            have x1965 := rX.e hI0 (b := 5) (hv1500)
            have x1966 := nX.e hI0 (hv1872)
            exact ⟨_, rfl, hI1963, hF1964, rfl, (STEP.mk ((gA_sI).trans ((hF1958.2.1 175 ma_X5_kindOf_175).trans ((hF1950.2.1 175 ma_X8_at_174_175).trans (hF1925.2.1 175 (by decide))))) ((gI_sI_ne (by decide)).trans ((hF1958.1 174 1 mf_X5_kindOf_174_1).trans ((hF1950.1 174 1 mf_X8_at_174_174_1).trans (hF1925.1 174 1 (by decide))))) (rX.e hI1963 (b := 4) ((((gI_sI_ne (by decide)).trans ((hF1958.1 176 4 mf_X5_kindOf_176_4).trans (hF1950.1 176 4 mf_X8_at_174_176_4))).trans e1930))) (rX.e hI1963 (b := 3) ((((gI_sI_ne (by decide)).trans ((hF1958.1 176 3 mf_X5_kindOf_176_3).trans (hF1950.1 176 3 mf_X8_at_174_176_3))).trans e1929))) (rX.e hI1963 (b := 5) ((gI_sI_eq hI1957.1 kx_176 rfl _))) hB (by omega) (by omega) (by omega) (by omega) q1868 (fun hz => by omega) at1887 hr1892.2.2 q1935.1 q1935.2.1 (by omega) q1934 q1935.2.2 (fun hz1 hz2 => by first | (exfalso; omega) | exact KND.ne at1955 (by omega) hz2 hr1960.2.2 (by omega)))⟩
          · have c1962_ : v1959.toInt = v1891.toInt := en_i_ne_f c1962
            refine At.enter rfl ?_
            refine q_iinc e1932 (x1922.toInt + 1) rfl (by omega) (fun v1967 hv1967 => ?_)
            refine r_goto ?_
            exact ih1928 (400 - v1967.toInt) _ _ ⟨v1967, by first | rfl | omega, hI1957, hF1961, (((hF1958.1 176 3 mf_X5_kindOf_176_3).trans (hF1950.1 176 3 mf_X8_at_174_176_3)).trans e1929), (((hF1958.1 176 4 mf_X5_kindOf_176_4).trans (hF1950.1 176 4 mf_X8_at_174_176_4)).trans e1930), (w_p1 (by decide) (Or.inr rfl) e1931), (w_e1 _ _ _), by omega, (ROWK.st q1934 (show v1967.toInt = x1922.toInt + 1 from by omega) at1955 hr1960.2.2 (by omega) (fun z => ROWK.ne3 hB (by omega) (by omega) at1955 hr1960.2.2 (by omega))), (RWI.st q1935 (by omega) (fun z => ROWK.ne3 hB (by omega) (by omega) at1955 hr1960.2.2 (by omega)) (show v1967.toInt = x1922.toInt + 1 from by omega)), by omega⟩ ⟨by omega, by omega⟩
    · have c1896_ : v1891.toInt ≠ 3 := en_i_eq_f c1896
      refine At.enter rfl ?_
      refine q_iinc e1866 (x1858.toInt + 1) rfl (by omega) (fun v1968 hv1968 => ?_)
      refine Ar.fall 66 rfl ?_
      have x2011 := nX.e hI0 (hv1872)
      refine w_loopI (fun n_ l_ g_ => ∃ x1996 : Int32, n_ = 401 - x1996.toInt ∧ HI g_ ∧ Fr F_X5_step_176 A_X5_step_176 g0 g_ ∧ gI g_ 176 3 = v1891 ∧ gI g_ 176 4 = x1858 ∧ en_get 0 l_ = some (.ref 176) ∧ en_get 1 l_ = some (.int x1996) ∧ (1 ≤ x1996.toInt ∧ x1996.toInt ≤ 401) ∧ (∀ j : Int, x1858.toInt ≤ j → j < x1996.toInt → KND (TX g0 j) v1891.toInt) ∧ (RWI v1891.toInt x1858.toInt x1996.toInt) ∧ (x1996.toInt ≤ nX g0)) ?_ (401 - v1968.toInt) ⟨v1968, by first | rfl | omega, hI1894, hF1895, (gI_sI_eq hI1889.1 kx_176 rfl _), ((gI_sI_ne (by decide)).trans ((hF1890.1 176 4 mf_X5_kindOf_176_4).trans ((hF1882.1 176 4 mf_X8_at_174_176_4).trans (gI_sI_eq hI1860.1 kx_176 rfl _)))), (w_p1 (by decide) (Or.inr rfl) e1865), (w_e1 _ _ _), by omega, (ROWK.z at1887 hr1892.2.2 (by omega)), (RWI.z (by omega)), (by first | omega | (have z := (at1887).in_ (fun e => by have y := (hr1892.2.2).1 e; omega); omega))⟩
      rintro n2001 l2000 g1997 ⟨x1996, hm2012, hI1998, hF1999, e2003, e2004, e2005, e2006, r2007, q2008, q2009, q2010⟩ ih2002
      have tv2013 := congrArg Int32.toInt e2003
      have tv2014 := congrArg Int32.toInt e2004
      refine At.enter rfl ?_
      refine r_iload_n e2006 ?_
      refine r_aload_n e2005 ?_
      refine q_getR (Sh.ref hI1998.1 kx_176 rfl) ?_
      refine q_getI (Sh.int hI1998.1 kx_174 rfl) v1872 ((hF1999.1 174 1 (by decide)).trans hv1872) ?_
      have bv2016 := q_bnd x1996
      refine r_ics 77 rfl (fun c2015 => ?_) (fun c2015 => ?_)
      · have c2015_ : x1996.toInt ≥ v1872.toInt := en_i_ge_t c2015
        refine At.enter rfl ?_
        refine r_aload_n e2005 ?_
        refine r_iload_n e2006 ?_
        refine q_putI (Sh.int hI1998.1 kx_176 rfl) rfl ?_
        have hI2017 := HI.wI1 hI1998 kx_176 rfl (p := 176) (b := 5) (v := x1996) rfl (by dsimp only; omega)
        have hF2018 := Fr.wI (p := 176) (b := 5) (v := x1996) hF1999 rfl
        refine r_vret ?_
        have x2019 := rX.e hI0 (b := 5) (hv1500)
        have x2020 := nX.e hI0 (hv1872)
        exact ⟨_, rfl, hI2017, hF2018, rfl, (STEP.mk ((gA_sI).trans (hF1999.2.1 175 (by decide))) ((gI_sI_ne (by decide)).trans (hF1999.1 174 1 (by decide))) (rX.e hI2017 (b := 4) (((gI_sI_ne (by decide)).trans e2004))) (rX.e hI2017 (b := 3) (((gI_sI_ne (by decide)).trans e2003))) (rX.e hI2017 (b := 5) ((gI_sI_eq hI1998.1 kx_176 rfl _))) hB (by omega) (by omega) (by omega) (by omega) q1868 (fun hz => by omega) at1887 hr1892.2.2 q2009.1 q2009.2.1 (by omega) q2008 q2009.2.2 (fun hz1 hz2 => by omega))⟩
      · have c2015_ : x1996.toInt < v1872.toInt := en_i_ge_f c2015
        refine At.enter rfl ?_
        refine r_aload_n e2005 ?_
        refine q_getI (Sh.int hI1998.1 kx_176 rfl) v1891 e2003 ?_
        refine r_iconst 2 rfl ?_
        refine r_ics 85 rfl (fun c2021 => ?_) (fun c2021 => ?_)
        · have c2021_ : v1891.toInt = 2 := en_i_eq_t c2021
          refine At.enter rfl ?_
          refine r_aload_n e2005 ?_
          refine r_iload_n e2006 ?_
          refine q_putI (Sh.int hI1998.1 kx_176 rfl) rfl ?_
          have hI2022 := HI.wI1 hI1998 kx_176 rfl (p := 176) (b := 5) (v := x1996) rfl (by dsimp only; omega)
          have hF2023 := Fr.wI (p := 176) (b := 5) (v := x1996) hF1999 rfl
          refine r_vret ?_
          have x2024 := rX.e hI0 (b := 5) (hv1500)
          have x2025 := nX.e hI0 (hv1872)
          exact ⟨_, rfl, hI2022, hF2023, rfl, (STEP.mk ((gA_sI).trans (hF1999.2.1 175 (by decide))) ((gI_sI_ne (by decide)).trans (hF1999.1 174 1 (by decide))) (rX.e hI2022 (b := 4) (((gI_sI_ne (by decide)).trans e2004))) (rX.e hI2022 (b := 3) (((gI_sI_ne (by decide)).trans e2003))) (rX.e hI2022 (b := 5) ((gI_sI_eq hI1998.1 kx_176 rfl _))) hB (by omega) (by omega) (by omega) (by omega) q1868 (fun hz => by omega) at1887 hr1892.2.2 q2009.1 q2009.2.1 (by omega) q2008 q2009.2.2 (fun hz1 hz2 => by omega))⟩
        · have c2021_ : v1891.toInt ≠ 2 := en_i_eq_f c2021
          refine At.enter rfl ?_
          refine r_aload_n e2005 ?_
          refine q_getR (Sh.ref hI1998.1 kx_176 rfl) ?_
          refine r_iload_n e2006 ?_
          refine r_callV 93 rfl [.ref 174, .int x1996] [] (Nat.le_of_ble_eq_true rfl) rfl (T_X8_at_174 _ hI1998 x1996) ?_
          rintro _ _ ⟨g2026, rfl, hI2027, hF2028, v2029, rfl, hr2030⟩
          refine At.sti ?_
          have hF2031 := Fr.tr hF1999 hF2028 rfl rfl
          have x2032 := HI.eqI hI1998 (p := 174) (b := 1) (((hF1999.1 174 1 (by decide)).trans hv1872))
          have at2033 : ATX g0 x1996.toInt v2029.toInt := (hr2030.2.2).c ((hF1999.2.1 175 (by decide))) ((hF1999.1 174 1 (by decide)))
          refine At.enter rfl ?_
          refine r_callS 96 rfl [.int v2029] [] (Nat.le_of_ble_eq_true rfl) rfl (T_X5_kindOf _ hI2027 v2029) ?_
          rintro _ _ ⟨g2034, rfl, hI2035, hF2036, v2037, rfl, hr2038⟩
          refine At.sti ?_
          have hF2039 := Fr.tr hF2031 hF2036 rfl rfl
          refine At.enter rfl ?_
          refine r_aload_n e2005 ?_
          refine q_getI (Sh.int hI2035.1 kx_176 rfl) v1891 (((hF2036.1 176 3 mf_X5_kindOf_176_3).trans (hF2028.1 176 3 mf_X8_at_174_176_3)).trans e2003) ?_
          refine r_ics 103 rfl (fun c2040 => ?_) (fun c2040 => ?_)
          · have c2040_ : v2037.toInt ≠ v1891.toInt := en_i_ne_t c2040
            refine At.enter rfl ?_
            refine r_aload_n e2005 ?_
            refine r_iload_n e2006 ?_
            refine q_putI (Sh.int hI2035.1 kx_176 rfl) rfl ?_
            have hI2041 := HI.wI1 hI2035 kx_176 rfl (p := 176) (b := 5) (v := x1996) rfl (by dsimp only; omega)
            have hF2042 := Fr.wI (p := 176) (b := 5) (v := x1996) hF2039 rfl
            refine r_vret ?_
            have x2043 := rX.e hI0 (b := 5) (hv1500)
            have x2044 := nX.e hI0 (hv1872)
            exact ⟨_, rfl, hI2041, hF2042, rfl, (STEP.mk ((gA_sI).trans ((hF2036.2.1 175 ma_X5_kindOf_175).trans ((hF2028.2.1 175 ma_X8_at_174_175).trans (hF1999.2.1 175 (by decide))))) ((gI_sI_ne (by decide)).trans ((hF2036.1 174 1 mf_X5_kindOf_174_1).trans ((hF2028.1 174 1 mf_X8_at_174_174_1).trans (hF1999.1 174 1 (by decide))))) (rX.e hI2041 (b := 4) ((((gI_sI_ne (by decide)).trans ((hF2036.1 176 4 mf_X5_kindOf_176_4).trans (hF2028.1 176 4 mf_X8_at_174_176_4))).trans e2004))) (rX.e hI2041 (b := 3) ((((gI_sI_ne (by decide)).trans ((hF2036.1 176 3 mf_X5_kindOf_176_3).trans (hF2028.1 176 3 mf_X8_at_174_176_3))).trans e2003))) (rX.e hI2041 (b := 5) ((gI_sI_eq hI2035.1 kx_176 rfl _))) hB (by omega) (by omega) (by omega) (by omega) q1868 (fun hz => by omega) at1887 hr1892.2.2 q2009.1 q2009.2.1 (by omega) q2008 q2009.2.2 (fun hz1 hz2 => by first | (exfalso; omega) | exact KND.ne at2033 (by omega) hz2 hr2038.2.2 (by omega)))⟩
          · have c2040_ : v2037.toInt = v1891.toInt := en_i_ne_f c2040
            refine At.enter rfl ?_
            refine q_iinc e2006 (x1996.toInt + 1) rfl (by omega) (fun v2045 hv2045 => ?_)
            refine r_goto ?_
            exact ih2002 (401 - v2045.toInt) _ _ ⟨v2045, by first | rfl | omega, hI2035, hF2039, (((hF2036.1 176 3 mf_X5_kindOf_176_3).trans (hF2028.1 176 3 mf_X8_at_174_176_3)).trans e2003), (((hF2036.1 176 4 mf_X5_kindOf_176_4).trans (hF2028.1 176 4 mf_X8_at_174_176_4)).trans e2004), (w_p1 (by decide) (Or.inr rfl) e2005), (w_e1 _ _ _), by omega, (ROWK.st q2008 (show v2045.toInt = x1996.toInt + 1 from by omega) at2033 hr2038.2.2 (by omega) (fun z => ROWK.ne3 hB (by omega) (by omega) at2033 hr2038.2.2 (by omega))), (RWI.st q2009 (by omega) (fun z => ROWK.ne3 hB (by omega) (by omega) at2033 hr2038.2.2 (by omega)) (show v2045.toInt = x1996.toInt + 1 from by omega)), by omega⟩ ⟨by omega, by omega⟩
  · have c1875_ : x1858.toInt < v1872.toInt := en_i_ge_f c1875
    refine At.enter rfl ?_
    refine r_aload_n e1865 ?_
    refine q_getR (Sh.ref hI1860.1 kx_176 rfl) ?_
    refine r_iload_n e1866 ?_
    refine r_callV 24 rfl [.ref 174, .int x1858] [] (Nat.le_of_ble_eq_true rfl) rfl (T_X8_at_174 _ hI1860 x1858) ?_
    rintro _ _ ⟨g2046, rfl, hI2047, hF2048, v2049, rfl, hr2050⟩
    refine At.sti ?_
    have hF2051 := Fr.tr hF1861 hF2048 rfl rfl
    have x2052 := HI.eqI hI1860 (p := 174) (b := 1) (((hF1861.1 174 1 (by decide)).trans hv1872))
    have at2053 : ATX g0 x1858.toInt v2049.toInt := (hr2050.2.2).c ((hF1861.2.1 175 (by decide))) ((hF1861.1 174 1 (by decide)))
    refine At.enter rfl ?_
    refine r_bipush 32 rfl ?_
    refine r_ics 29 rfl (fun c2054 => ?_) (fun c2054 => ?_)
    · have c2054_ : v2049.toInt ≠ 32 := en_i_ne_t c2054
      refine At.enter rfl ?_
      refine r_aload_n e1865 ?_
      refine r_iload_n e1866 ?_
      refine q_putI (Sh.int hI2047.1 kx_176 rfl) rfl ?_
      have hI2055 := HI.wI1 hI2047 kx_176 rfl (p := 176) (b := 4) (v := x1858) rfl (by dsimp only; omega)
      have hF2056 := Fr.wI (p := 176) (b := 4) (v := x1858) hF2051 rfl
      refine r_aload_n e1865 ?_
      refine r_aload_n e1865 ?_
      refine q_getR (Sh.ref hI2055.1 kx_176 rfl) ?_
      refine r_iload_n e1866 ?_
      refine r_callV 49 rfl [.ref 174, .int x1858] [.ref 176] (Nat.le_of_ble_eq_true rfl) rfl (T_X8_at_174 _ hI2055 x1858) ?_
      rintro _ _ ⟨g2057, rfl, hI2058, hF2059, v2060, rfl, hr2061⟩
      refine At.sti ?_
      have hF2062 := Fr.tr hF2056 hF2059 rfl rfl
      have x2063 := HI.eqI hI2055 (p := 174) (b := 1) ((((gI_sI_ne (by decide)).trans ((hF2048.1 174 1 mf_X8_at_174_174_1).trans (hF1861.1 174 1 (by decide)))).trans hv1872))
      have at2064 : ATX g0 x1858.toInt v2060.toInt := (hr2061.2.2).c (((gA_sI).trans ((hF2048.2.1 175 ma_X8_at_174_175).trans (hF1861.2.1 175 (by decide))))) (((gI_sI_ne (by decide)).trans ((hF2048.1 174 1 mf_X8_at_174_174_1).trans (hF1861.1 174 1 (by decide)))))
      refine At.enter rfl ?_
      refine r_callS 52 rfl [.int v2060] [.ref 176] (Nat.le_of_ble_eq_true rfl) rfl (T_X5_kindOf _ hI2058 v2060) ?_
      rintro _ _ ⟨g2065, rfl, hI2066, hF2067, v2068, rfl, hr2069⟩
      refine At.sti ?_
      have hF2070 := Fr.tr hF2062 hF2067 rfl rfl
      refine At.enter rfl ?_
      refine q_putI (Sh.int hI2066.1 kx_176 rfl) rfl ?_
      have hI2071 := HI.wI0 hI2066 kx_176 rfl (p := 176) (b := 3) (v := v2068) rfl
      have hF2072 := Fr.wI (p := 176) (b := 3) (v := v2068) hF2070 rfl
      refine r_aload_n e1865 ?_
      refine q_getI (Sh.int hI2071.1 kx_176 rfl) v2068 (gI_sI_eq hI2066.1 kx_176 rfl _) ?_
      refine r_iconst 3 rfl ?_
      refine r_ics 63 rfl (fun c2073 => ?_) (fun c2073 => ?_)
      · have c2073_ : v2068.toInt = 3 := en_i_eq_t c2073
        have x2139 := nX.e hI0 (hv1872)
        refine w_loopI (fun n_ l_ g_ => ∃ x2124 : Int32, n_ = 400 - x2124.toInt ∧ HI g_ ∧ Fr F_X5_step_176 A_X5_step_176 g0 g_ ∧ gI g_ 176 3 = v2068 ∧ gI g_ 176 4 = x1858 ∧ en_get 0 l_ = some (.ref 176) ∧ en_get 1 l_ = some (.int x2124) ∧ (0 ≤ x2124.toInt ∧ x2124.toInt ≤ 400) ∧ (∀ j : Int, x1858.toInt ≤ j → j < x2124.toInt → KND (TX g0 j) v2068.toInt) ∧ (RWI v2068.toInt x1858.toInt x2124.toInt) ∧ (x2124.toInt ≤ nX g0)) ?_ (400 - x1858.toInt) ⟨x1858, by first | rfl | omega, hI2071, hF2072, (gI_sI_eq hI2066.1 kx_176 rfl _), ((gI_sI_ne (by decide)).trans ((hF2067.1 176 4 mf_X5_kindOf_176_4).trans ((hF2059.1 176 4 mf_X8_at_174_176_4).trans (gI_sI_eq hI2047.1 kx_176 rfl _)))), e1865, e1866, by omega, (ROWK.z at2064 hr2069.2.2 (by omega)), (RWI.z (by omega)), (by first | omega | (have z := (at2064).in_ (fun e => by have y := (hr2069.2.2).1 e; omega); omega))⟩
        rintro n2129 l2128 g2125 ⟨x2124, hm2140, hI2126, hF2127, e2131, e2132, e2133, e2134, r2135, q2136, q2137, q2138⟩ ih2130
        have tv2141 := congrArg Int32.toInt e2131
        have tv2142 := congrArg Int32.toInt e2132
        refine At.enter rfl ?_
        refine r_iload_n e2134 ?_
        refine r_aload_n e2133 ?_
        refine q_getR (Sh.ref hI2126.1 kx_176 rfl) ?_
        refine q_getI (Sh.int hI2126.1 kx_174 rfl) v1872 ((hF2127.1 174 1 (by decide)).trans hv1872) ?_
        have bv2144 := q_bnd x2124
        refine r_ics 77 rfl (fun c2143 => ?_) (fun c2143 => ?_)
        · have c2143_ : x2124.toInt ≥ v1872.toInt := en_i_ge_t c2143
          refine At.enter rfl ?_
          refine r_aload_n e2133 ?_
          refine r_iload_n e2134 ?_
          refine q_putI (Sh.int hI2126.1 kx_176 rfl) rfl ?_
          have hI2145 := HI.wI1 hI2126 kx_176 rfl (p := 176) (b := 5) (v := x2124) rfl (by dsimp only; omega)
          have hF2146 := Fr.wI (p := 176) (b := 5) (v := x2124) hF2127 rfl
          refine r_vret ?_
          have x2147 := rX.e hI0 (b := 5) (hv1500)
          have x2148 := nX.e hI0 (hv1872)
          exact ⟨_, rfl, hI2145, hF2146, rfl, (STEP.mk ((gA_sI).trans (hF2127.2.1 175 (by decide))) ((gI_sI_ne (by decide)).trans (hF2127.1 174 1 (by decide))) (rX.e hI2145 (b := 4) (((gI_sI_ne (by decide)).trans e2132))) (rX.e hI2145 (b := 3) (((gI_sI_ne (by decide)).trans e2131))) (rX.e hI2145 (b := 5) ((gI_sI_eq hI2126.1 kx_176 rfl _))) hB (by omega) (by omega) (by omega) (by omega) q1868 (fun hz => by first | (exfalso; omega) | (have y := (at2053).1 (by omega) hz; omega)) at2064 hr2069.2.2 q2137.1 q2137.2.1 (by omega) q2136 q2137.2.2 (fun hz1 hz2 => by omega))⟩
        · have c2143_ : x2124.toInt < v1872.toInt := en_i_ge_f c2143
          refine At.enter rfl ?_
          refine r_aload_n e2133 ?_
          refine q_getI (Sh.int hI2126.1 kx_176 rfl) v2068 e2131 ?_
          refine r_iconst 2 rfl ?_
          refine r_ics 85 rfl (fun c2149 => ?_) (fun c2149 => ?_)
          · have c2149_ : v2068.toInt = 2 := en_i_eq_t c2149
            exfalso; omega
          · have c2149_ : v2068.toInt ≠ 2 := en_i_eq_f c2149
            refine At.enter rfl ?_
            refine r_aload_n e2133 ?_
            refine q_getR (Sh.ref hI2126.1 kx_176 rfl) ?_
            refine r_iload_n e2134 ?_
            refine r_callV 93 rfl [.ref 174, .int x2124] [] (Nat.le_of_ble_eq_true rfl) rfl (T_X8_at_174 _ hI2126 x2124) ?_
            rintro _ _ ⟨g2150, rfl, hI2151, hF2152, v2153, rfl, hr2154⟩
            refine At.sti ?_
            have hF2155 := Fr.tr hF2127 hF2152 rfl rfl
            have x2156 := HI.eqI hI2126 (p := 174) (b := 1) (((hF2127.1 174 1 (by decide)).trans hv1872))
            have at2157 : ATX g0 x2124.toInt v2153.toInt := (hr2154.2.2).c ((hF2127.2.1 175 (by decide))) ((hF2127.1 174 1 (by decide)))
            refine At.enter rfl ?_
            refine r_callS 96 rfl [.int v2153] [] (Nat.le_of_ble_eq_true rfl) rfl (T_X5_kindOf _ hI2151 v2153) ?_
            rintro _ _ ⟨g2158, rfl, hI2159, hF2160, v2161, rfl, hr2162⟩
            refine At.sti ?_
            have hF2163 := Fr.tr hF2155 hF2160 rfl rfl
            refine At.enter rfl ?_
            refine r_aload_n e2133 ?_
            refine q_getI (Sh.int hI2159.1 kx_176 rfl) v2068 (((hF2160.1 176 3 mf_X5_kindOf_176_3).trans (hF2152.1 176 3 mf_X8_at_174_176_3)).trans e2131) ?_
            refine r_ics 103 rfl (fun c2164 => ?_) (fun c2164 => ?_)
            · have c2164_ : v2161.toInt ≠ v2068.toInt := en_i_ne_t c2164
              refine At.enter rfl ?_
              refine r_aload_n e2133 ?_
              refine r_iload_n e2134 ?_
              refine q_putI (Sh.int hI2159.1 kx_176 rfl) rfl ?_
              have hI2165 := HI.wI1 hI2159 kx_176 rfl (p := 176) (b := 5) (v := x2124) rfl (by dsimp only; omega)
              have hF2166 := Fr.wI (p := 176) (b := 5) (v := x2124) hF2163 rfl
              refine r_vret ?_
              have x2167 := rX.e hI0 (b := 5) (hv1500)
              have x2168 := nX.e hI0 (hv1872)
              exact ⟨_, rfl, hI2165, hF2166, rfl, (STEP.mk ((gA_sI).trans ((hF2160.2.1 175 ma_X5_kindOf_175).trans ((hF2152.2.1 175 ma_X8_at_174_175).trans (hF2127.2.1 175 (by decide))))) ((gI_sI_ne (by decide)).trans ((hF2160.1 174 1 mf_X5_kindOf_174_1).trans ((hF2152.1 174 1 mf_X8_at_174_174_1).trans (hF2127.1 174 1 (by decide))))) (rX.e hI2165 (b := 4) ((((gI_sI_ne (by decide)).trans ((hF2160.1 176 4 mf_X5_kindOf_176_4).trans (hF2152.1 176 4 mf_X8_at_174_176_4))).trans e2132))) (rX.e hI2165 (b := 3) ((((gI_sI_ne (by decide)).trans ((hF2160.1 176 3 mf_X5_kindOf_176_3).trans (hF2152.1 176 3 mf_X8_at_174_176_3))).trans e2131))) (rX.e hI2165 (b := 5) ((gI_sI_eq hI2159.1 kx_176 rfl _))) hB (by omega) (by omega) (by omega) (by omega) q1868 (fun hz => by first | (exfalso; omega) | (have y := (at2053).1 (by omega) hz; omega)) at2064 hr2069.2.2 q2137.1 q2137.2.1 (by omega) q2136 q2137.2.2 (fun hz1 hz2 => by first | (exfalso; omega) | exact KND.ne at2157 (by omega) hz2 hr2162.2.2 (by omega)))⟩
            · have c2164_ : v2161.toInt = v2068.toInt := en_i_ne_f c2164
              refine At.enter rfl ?_
              refine q_iinc e2134 (x2124.toInt + 1) rfl (by omega) (fun v2169 hv2169 => ?_)
              refine r_goto ?_
              exact ih2130 (400 - v2169.toInt) _ _ ⟨v2169, by first | rfl | omega, hI2159, hF2163, (((hF2160.1 176 3 mf_X5_kindOf_176_3).trans (hF2152.1 176 3 mf_X8_at_174_176_3)).trans e2131), (((hF2160.1 176 4 mf_X5_kindOf_176_4).trans (hF2152.1 176 4 mf_X8_at_174_176_4)).trans e2132), (w_p1 (by decide) (Or.inr rfl) e2133), (w_e1 _ _ _), by omega, (ROWK.st q2136 (show v2169.toInt = x2124.toInt + 1 from by omega) at2157 hr2162.2.2 (by omega) (fun z => ROWK.ne3 hB (by omega) (by omega) at2157 hr2162.2.2 (by omega))), (RWI.st q2137 (by omega) (fun z => ROWK.ne3 hB (by omega) (by omega) at2157 hr2162.2.2 (by omega)) (show v2169.toInt = x2124.toInt + 1 from by omega)), by omega⟩ ⟨by omega, by omega⟩
      · have c2073_ : v2068.toInt ≠ 3 := en_i_eq_f c2073
        refine At.enter rfl ?_
        refine q_iinc e1866 (x1858.toInt + 1) rfl (by omega) (fun v2170 hv2170 => ?_)
        refine Ar.fall 66 rfl ?_
        have x2213 := nX.e hI0 (hv1872)
        refine w_loopI (fun n_ l_ g_ => ∃ x2198 : Int32, n_ = 400 - x2198.toInt ∧ HI g_ ∧ Fr F_X5_step_176 A_X5_step_176 g0 g_ ∧ gI g_ 176 3 = v2068 ∧ gI g_ 176 4 = x1858 ∧ en_get 0 l_ = some (.ref 176) ∧ en_get 1 l_ = some (.int x2198) ∧ (1 ≤ x2198.toInt ∧ x2198.toInt ≤ 400) ∧ (∀ j : Int, x1858.toInt ≤ j → j < x2198.toInt → KND (TX g0 j) v2068.toInt) ∧ (RWI v2068.toInt x1858.toInt x2198.toInt) ∧ (x2198.toInt ≤ nX g0)) ?_ (400 - v2170.toInt) ⟨v2170, by first | rfl | omega, hI2071, hF2072, (gI_sI_eq hI2066.1 kx_176 rfl _), ((gI_sI_ne (by decide)).trans ((hF2067.1 176 4 mf_X5_kindOf_176_4).trans ((hF2059.1 176 4 mf_X8_at_174_176_4).trans (gI_sI_eq hI2047.1 kx_176 rfl _)))), (w_p1 (by decide) (Or.inr rfl) e1865), (w_e1 _ _ _), by omega, (ROWK.z at2064 hr2069.2.2 (by omega)), (RWI.z (by omega)), (by first | omega | (have z := (at2064).in_ (fun e => by have y := (hr2069.2.2).1 e; omega); omega))⟩
        rintro n2203 l2202 g2199 ⟨x2198, hm2214, hI2200, hF2201, e2205, e2206, e2207, e2208, r2209, q2210, q2211, q2212⟩ ih2204
        have tv2215 := congrArg Int32.toInt e2205
        have tv2216 := congrArg Int32.toInt e2206
        refine At.enter rfl ?_
        refine r_iload_n e2208 ?_
        refine r_aload_n e2207 ?_
        refine q_getR (Sh.ref hI2200.1 kx_176 rfl) ?_
        refine q_getI (Sh.int hI2200.1 kx_174 rfl) v1872 ((hF2201.1 174 1 (by decide)).trans hv1872) ?_
        have bv2218 := q_bnd x2198
        refine r_ics 77 rfl (fun c2217 => ?_) (fun c2217 => ?_)
        · have c2217_ : x2198.toInt ≥ v1872.toInt := en_i_ge_t c2217
          refine At.enter rfl ?_
          refine r_aload_n e2207 ?_
          refine r_iload_n e2208 ?_
          refine q_putI (Sh.int hI2200.1 kx_176 rfl) rfl ?_
          have hI2219 := HI.wI1 hI2200 kx_176 rfl (p := 176) (b := 5) (v := x2198) rfl (by dsimp only; omega)
          have hF2220 := Fr.wI (p := 176) (b := 5) (v := x2198) hF2201 rfl
          refine r_vret ?_
          have x2221 := rX.e hI0 (b := 5) (hv1500)
          have x2222 := nX.e hI0 (hv1872)
          exact ⟨_, rfl, hI2219, hF2220, rfl, (STEP.mk ((gA_sI).trans (hF2201.2.1 175 (by decide))) ((gI_sI_ne (by decide)).trans (hF2201.1 174 1 (by decide))) (rX.e hI2219 (b := 4) (((gI_sI_ne (by decide)).trans e2206))) (rX.e hI2219 (b := 3) (((gI_sI_ne (by decide)).trans e2205))) (rX.e hI2219 (b := 5) ((gI_sI_eq hI2200.1 kx_176 rfl _))) hB (by omega) (by omega) (by omega) (by omega) q1868 (fun hz => by first | (exfalso; omega) | (have y := (at2053).1 (by omega) hz; omega)) at2064 hr2069.2.2 q2211.1 q2211.2.1 (by omega) q2210 q2211.2.2 (fun hz1 hz2 => by omega))⟩
        · have c2217_ : x2198.toInt < v1872.toInt := en_i_ge_f c2217
          refine At.enter rfl ?_
          refine r_aload_n e2207 ?_
          refine q_getI (Sh.int hI2200.1 kx_176 rfl) v2068 e2205 ?_
          refine r_iconst 2 rfl ?_
          refine r_ics 85 rfl (fun c2223 => ?_) (fun c2223 => ?_)
          · have c2223_ : v2068.toInt = 2 := en_i_eq_t c2223
            refine At.enter rfl ?_
            refine r_aload_n e2207 ?_
            refine r_iload_n e2208 ?_
            refine q_putI (Sh.int hI2200.1 kx_176 rfl) rfl ?_
            have hI2224 := HI.wI1 hI2200 kx_176 rfl (p := 176) (b := 5) (v := x2198) rfl (by dsimp only; omega)
            have hF2225 := Fr.wI (p := 176) (b := 5) (v := x2198) hF2201 rfl
            refine r_vret ?_
            have x2226 := rX.e hI0 (b := 5) (hv1500)
            have x2227 := nX.e hI0 (hv1872)
            exact ⟨_, rfl, hI2224, hF2225, rfl, (STEP.mk ((gA_sI).trans (hF2201.2.1 175 (by decide))) ((gI_sI_ne (by decide)).trans (hF2201.1 174 1 (by decide))) (rX.e hI2224 (b := 4) (((gI_sI_ne (by decide)).trans e2206))) (rX.e hI2224 (b := 3) (((gI_sI_ne (by decide)).trans e2205))) (rX.e hI2224 (b := 5) ((gI_sI_eq hI2200.1 kx_176 rfl _))) hB (by omega) (by omega) (by omega) (by omega) q1868 (fun hz => by first | (exfalso; omega) | (have y := (at2053).1 (by omega) hz; omega)) at2064 hr2069.2.2 q2211.1 q2211.2.1 (by omega) q2210 q2211.2.2 (fun hz1 hz2 => by omega))⟩
          · have c2223_ : v2068.toInt ≠ 2 := en_i_eq_f c2223
            refine At.enter rfl ?_
            refine r_aload_n e2207 ?_
            refine q_getR (Sh.ref hI2200.1 kx_176 rfl) ?_
            refine r_iload_n e2208 ?_
            refine r_callV 93 rfl [.ref 174, .int x2198] [] (Nat.le_of_ble_eq_true rfl) rfl (T_X8_at_174 _ hI2200 x2198) ?_
            rintro _ _ ⟨g2228, rfl, hI2229, hF2230, v2231, rfl, hr2232⟩
            refine At.sti ?_
            have hF2233 := Fr.tr hF2201 hF2230 rfl rfl
            have x2234 := HI.eqI hI2200 (p := 174) (b := 1) (((hF2201.1 174 1 (by decide)).trans hv1872))
            have at2235 : ATX g0 x2198.toInt v2231.toInt := (hr2232.2.2).c ((hF2201.2.1 175 (by decide))) ((hF2201.1 174 1 (by decide)))
            refine At.enter rfl ?_
            refine r_callS 96 rfl [.int v2231] [] (Nat.le_of_ble_eq_true rfl) rfl (T_X5_kindOf _ hI2229 v2231) ?_
            rintro _ _ ⟨g2236, rfl, hI2237, hF2238, v2239, rfl, hr2240⟩
            refine At.sti ?_
            have hF2241 := Fr.tr hF2233 hF2238 rfl rfl
            refine At.enter rfl ?_
            refine r_aload_n e2207 ?_
            refine q_getI (Sh.int hI2237.1 kx_176 rfl) v2068 (((hF2238.1 176 3 mf_X5_kindOf_176_3).trans (hF2230.1 176 3 mf_X8_at_174_176_3)).trans e2205) ?_
            refine r_ics 103 rfl (fun c2242 => ?_) (fun c2242 => ?_)
            · have c2242_ : v2239.toInt ≠ v2068.toInt := en_i_ne_t c2242
              refine At.enter rfl ?_
              refine r_aload_n e2207 ?_
              refine r_iload_n e2208 ?_
              refine q_putI (Sh.int hI2237.1 kx_176 rfl) rfl ?_
              have hI2243 := HI.wI1 hI2237 kx_176 rfl (p := 176) (b := 5) (v := x2198) rfl (by dsimp only; omega)
              have hF2244 := Fr.wI (p := 176) (b := 5) (v := x2198) hF2241 rfl
              refine r_vret ?_
              have x2245 := rX.e hI0 (b := 5) (hv1500)
              have x2246 := nX.e hI0 (hv1872)
              exact ⟨_, rfl, hI2243, hF2244, rfl, (STEP.mk ((gA_sI).trans ((hF2238.2.1 175 ma_X5_kindOf_175).trans ((hF2230.2.1 175 ma_X8_at_174_175).trans (hF2201.2.1 175 (by decide))))) ((gI_sI_ne (by decide)).trans ((hF2238.1 174 1 mf_X5_kindOf_174_1).trans ((hF2230.1 174 1 mf_X8_at_174_174_1).trans (hF2201.1 174 1 (by decide))))) (rX.e hI2243 (b := 4) ((((gI_sI_ne (by decide)).trans ((hF2238.1 176 4 mf_X5_kindOf_176_4).trans (hF2230.1 176 4 mf_X8_at_174_176_4))).trans e2206))) (rX.e hI2243 (b := 3) ((((gI_sI_ne (by decide)).trans ((hF2238.1 176 3 mf_X5_kindOf_176_3).trans (hF2230.1 176 3 mf_X8_at_174_176_3))).trans e2205))) (rX.e hI2243 (b := 5) ((gI_sI_eq hI2237.1 kx_176 rfl _))) hB (by omega) (by omega) (by omega) (by omega) q1868 (fun hz => by first | (exfalso; omega) | (have y := (at2053).1 (by omega) hz; omega)) at2064 hr2069.2.2 q2211.1 q2211.2.1 (by omega) q2210 q2211.2.2 (fun hz1 hz2 => by first | (exfalso; omega) | exact KND.ne at2235 (by omega) hz2 hr2240.2.2 (by omega)))⟩
            · have c2242_ : v2239.toInt = v2068.toInt := en_i_ne_f c2242
              refine At.enter rfl ?_
              refine q_iinc e2208 (x2198.toInt + 1) rfl (by omega) (fun v2247 hv2247 => ?_)
              refine r_goto ?_
              exact ih2204 (400 - v2247.toInt) _ _ ⟨v2247, by first | rfl | omega, hI2237, hF2241, (((hF2238.1 176 3 mf_X5_kindOf_176_3).trans (hF2230.1 176 3 mf_X8_at_174_176_3)).trans e2205), (((hF2238.1 176 4 mf_X5_kindOf_176_4).trans (hF2230.1 176 4 mf_X8_at_174_176_4)).trans e2206), (w_p1 (by decide) (Or.inr rfl) e2207), (w_e1 _ _ _), by omega, (ROWK.st q2210 (show v2247.toInt = x2198.toInt + 1 from by omega) at2235 hr2240.2.2 (by omega) (fun z => ROWK.ne3 hB (by omega) (by omega) at2235 hr2240.2.2 (by omega))), (RWI.st q2211 (by omega) (fun z => ROWK.ne3 hB (by omega) (by omega) at2235 hr2240.2.2 (by omega)) (show v2247.toInt = x2198.toInt + 1 from by omega)), by omega⟩ ⟨by omega, by omega⟩
    · have c2054_ : v2049.toInt = 32 := en_i_ne_f c2054
      refine At.enter rfl ?_
      refine q_iinc e1866 (x1858.toInt + 1) rfl (by omega) (fun v2248 hv2248 => ?_)
      refine r_goto ?_
      exact ih1864 (400 - v2248.toInt) _ _ ⟨v2248, by first | rfl | omega, hI2047, hF2051, (w_p1 (by decide) (Or.inr rfl) e1865), (w_e1 _ _ _), by omega, (BLK.st q1868 (show v2248.toInt = x1858.toInt + 1 from by omega) at2053 (by omega)), by omega, by omega⟩ ⟨by omega, by omega⟩
