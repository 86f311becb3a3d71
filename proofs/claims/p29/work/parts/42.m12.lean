def F_X11_isStuck_231 : List (Nat × Nat) := [(231, 27), (231, 30), (231, 31), (231, 32)]
def A_X11_isStuck_231 : List Nat := []
set_option maxRecDepth 100000 in
set_option maxHeartbeats 4000000 in
theorem T_X11_isStuck_231 (d : Nat) {N : Nat} {g0 : List en_E} (hI0 : HI g0) (a1 : Int32) (h_a1 : 0 ≤ a1.toInt ∧ a1.toInt ≤ 11) : Ev (d + 6) 234 [.ref 231, .int a1] (g0, N) (fun w h' => ∃ g', h' = (g', N) ∧ HI g' ∧ Fr F_X11_isStuck_231 A_X11_isStuck_231 g0 g' ∧ ∃ r : Int32, w = some (.int r) ∧ (0 ≤ r.toInt ∧ r.toInt ≤ 1)) := by
  have hF0 : Fr F_X11_isStuck_231 A_X11_isStuck_231 g0 g0 := Fr.rf
  refine Ev.mk rfl rfl ⟨Nat.le_of_ble_eq_true rfl, Or.inr (q_rc hI0.1 kx_231 rfl)⟩ ?_
  show At _ none _ _ (0, [(0, .ref 231), (1, .int a1)], [], (_, _)) _
  refine At.enter rfl ?_
  refine r_iconst 0 rfl ?_
  refine r_istore_n ([(2, .int 0), (0, .ref 231), (1, .int a1)]) rfl ?_
  refine r_aload_n rfl ?_
  refine r_iload_n rfl ?_
  refine r_iconst 0 rfl ?_
  refine r_callV 8 rfl [.ref 231, .int a1, .int 0] [] (Nat.le_of_ble_eq_true rfl) rfl (T_X11_nextOf0_231 _ hI0 a1 (by omega)) ?_
  rintro _ _ ⟨g635, rfl, hI636, hF637, v638, rfl, hr639⟩
  refine At.sti ?_
  have hF640 := Fr.tr hF0 hF637 rfl rfl
  have zv641 : (0 : Int32).toInt = 0 := rfl
  rw [eA_c (rfl)] at hr639
  refine At.enter rfl ?_
  refine r_istore_n ([(3, .int v638), (2, .int 0), (0, .ref 231), (1, .int a1)]) rfl ?_
  refine r_iconst 0 rfl ?_
  refine r_istore ([(4, .int 0), (3, .int v638), (2, .int 0), (0, .ref 231), (1, .int a1)]) rfl ?_
  refine Ar.fall 12 rfl ?_
  have z_915 : (0 : Int32).toInt = 0 := rfl
  have z_916 : (0 : Int32).toInt = 0 := rfl
  refine w_loopI (fun n_ l_ g_ => ∃ x900 : Int32, ∃ x901 : Int32, n_ = 8 - x901.toInt ∧ HI g_ ∧ Fr F_X11_isStuck_231 A_X11_isStuck_231 g0 g_ ∧ en_get 0 l_ = some (.ref 231) ∧ en_get 1 l_ = some (.int a1) ∧ en_get 2 l_ = some (.int x900) ∧ en_get 3 l_ = some (.int v638) ∧ en_get 4 l_ = some (.int x901) ∧ (0 ≤ x900.toInt ∧ x900.toInt ≤ 1) ∧ (0 ≤ x901.toInt ∧ x901.toInt ≤ 8)) ?_ (8 - 0) ⟨0, 0, by first | rfl | omega, hI636, hF640, rfl, rfl, rfl, rfl, rfl, by decide, by decide⟩
  rintro n906 l905 g902 ⟨x900, x901, hm917, hI903, hF904, e908, e909, e910, e911, e912, r913, r914⟩ ih907
  refine At.enter rfl ?_
  refine r_iload e912 ?_
  refine r_aload_n e908 ?_
  refine q_getR (Sh.ref hI903.1 kx_231 rfl) ?_
  refine r_iconst 1 rfl ?_
  obtain ⟨v918, hv918⟩ : ∃ v, eA g0 233 1 = v := ⟨_, rfl⟩
  have tv918 := congrArg Int32.toInt hv918
  have wv918 := HI.t1 hI0
  rw [hv918] at wv918
  refine q_iald (Sh.arr hI903.1 ka_233) 1 rfl (by decide) v918 ((eA_c (hF904.2.1 233 (by decide))).trans hv918) ?_
  have bv920 := q_bnd x901
  have bv921 := q_bnd v918
  refine r_ics 23 rfl (fun c919 => ?_) (fun c919 => ?_)
  · have c919_ : x901.toInt ≥ v918.toInt := en_i_ge_t c919
    refine At.enter rfl ?_
    refine r_iload_n e910 ?_
    refine r_iretz (q_b01 (by omega)) ?_
    exact ⟨_, rfl, hI903, hF904, _, rfl, by omega⟩
  · have c919_ : x901.toInt < v918.toInt := en_i_ge_f c919
    refine At.enter rfl ?_
    refine r_iload_n e911 ?_
    refine r_iconst (-1) rfl ?_
    refine r_ics 28 rfl (fun c922 => ?_) (fun c922 => ?_)
    · have c922_ : v638.toInt = (-1) := en_i_eq_t c922
      refine At.enter rfl ?_
      refine r_iload_n e910 ?_
      refine r_iretz (q_b01 (by omega)) ?_
      exact ⟨_, rfl, hI903, hF904, _, rfl, by omega⟩
    · have c922_ : v638.toInt ≠ (-1) := en_i_eq_f c922
      refine At.enter rfl ?_
      refine r_iload_n e910 ?_
      refine r_ifs 32 rfl (fun c923 => ?_) (fun c923 => ?_)
      · have c923_ : x900.toInt ≠ 0 := en_k_ne_t c923
        refine At.enter rfl ?_
        refine r_iconst 1 rfl ?_
        refine r_goto ?_
        refine At.enter rfl ?_
        refine r_istore_n _ rfl ?_
        refine q_iinc (w_p1 (by decide) (Or.inr rfl) e912) (x901.toInt + 1) rfl (by omega) (fun v924 hv924 => ?_)
        refine r_goto ?_
        have zv925 : (1 : Int32).toInt = 1 := rfl
        exact ih907 (8 - v924.toInt) _ _ ⟨1, v924, by first | rfl | omega, hI903, hF904, (w_p1 (by decide) (Or.inr rfl) (w_p1 (by decide) (Or.inr rfl) e908)), (w_p1 (by decide) (Or.inr rfl) (w_p1 (by decide) (Or.inr rfl) e909)), (w_p1 (by decide) (Or.inr rfl) (w_e1 _ _ _)), (w_p1 (by decide) (Or.inr rfl) (w_p1 (by decide) (Or.inr rfl) e911)), (w_e1 _ _ _), by decide, by omega⟩ ⟨by omega, by omega⟩
      · have c923_ : x900.toInt = 0 := en_k_ne_f c923
        refine At.enter rfl ?_
        refine r_aload_n e908 ?_
        refine q_getR (Sh.ref hI903.1 kx_231 rfl) ?_
        refine r_iload e912 ?_
        obtain ⟨v926, hv926⟩ : ∃ v, eA g0 250 x901.toInt = v := ⟨_, rfl⟩
        have rv926 := RgA.at hI0.2.2.1 (Sh.arr hI0.1 ka_250).2 (p := 250) rfl (j := x901.toInt) (by omega)
        rw [hv926] at rv926
        dsimp only at rv926
        refine q_iald (Sh.arr hI903.1 ka_250) x901.toInt rfl (by omega) v926 ((eA_c (hF904.2.1 250 (by decide))).trans hv926) ?_
        refine r_iload_n e909 ?_
        refine r_ics 43 rfl (fun c927 => ?_) (fun c927 => ?_)
        · have c927_ : v926.toInt ≠ a1.toInt := en_i_ne_t c927
          refine At.enter rfl ?_
          refine r_iconst 0 rfl ?_
          refine Ar.fall 88 rfl ?_
          refine At.enter rfl ?_
          refine r_istore_n _ rfl ?_
          refine q_iinc (w_p1 (by decide) (Or.inr rfl) e912) (x901.toInt + 1) rfl (by omega) (fun v928 hv928 => ?_)
          refine r_goto ?_
          have zv929 : (0 : Int32).toInt = 0 := rfl
          exact ih907 (8 - v928.toInt) _ _ ⟨0, v928, by first | rfl | omega, hI903, hF904, (w_p1 (by decide) (Or.inr rfl) (w_p1 (by decide) (Or.inr rfl) e908)), (w_p1 (by decide) (Or.inr rfl) (w_p1 (by decide) (Or.inr rfl) e909)), (w_p1 (by decide) (Or.inr rfl) (w_e1 _ _ _)), (w_p1 (by decide) (Or.inr rfl) (w_p1 (by decide) (Or.inr rfl) e911)), (w_e1 _ _ _), by decide, by omega⟩ ⟨by omega, by omega⟩
        · have c927_ : v926.toInt = a1.toInt := en_i_ne_f c927
          refine At.enter rfl ?_
          refine r_iload_n e911 ?_
          refine r_aload_n e908 ?_
          refine r_iload e912 ?_
          refine r_iconst 2 rfl ?_
          refine q_inlV 51 rfl [.ref 231, .int x901, .int 2] [.int v638] (Nat.le_of_ble_eq_true rfl) rfl ?_
          refine Ev.mk rfl rfl ⟨Nat.le_of_ble_eq_true rfl, Or.inr (q_rc hI903.1 kx_231 rfl)⟩ ?_
          show At _ none _ _ (0, [(0, .ref 231), (1, .int x901), (2, .int 2)], [], (_, _)) _
          refine At.enter rfl ?_
          refine r_aload_n rfl ?_
          refine q_getR (Sh.ref hI903.1 kx_231 rfl) ?_
          refine r_bipush 46 rfl ?_
          refine r_bipush 6 rfl ?_
          refine r_iload_n rfl ?_
          refine q_imul (6 * x901.toInt) rfl (by omega) (fun v930 hv930 => ?_)
          refine q_iadd (46 + v930.toInt) rfl (by omega) (fun v931 hv931 => ?_)
          refine r_iload_n rfl ?_
          refine q_iadd (v931.toInt + 2) rfl (by omega) (fun v932 hv932 => ?_)
          obtain ⟨v933, hv933⟩ : ∃ v, eA g0 233 (6 * x901.toInt + 48) = v := ⟨_, rfl⟩
          have wv933 := HI.l2 hI0 (j := (6 * x901.toInt + 48)) (x901.toInt) (by omega) (by omega)
          rw [hv933] at wv933
          refine q_iald (Sh.arr hI903.1 ka_233) (6 * x901.toInt + 48) (by omega) (by omega) v933 ((eA_c (hF904.2.1 233 (by decide))).trans hv933) ?_
          refine q_ireti ?_
          refine At.enter rfl ?_
          refine r_ics 54 rfl (fun c934 => ?_) (fun c934 => ?_)
          · have c934_ : v638.toInt = v933.toInt := en_i_eq_t c934
            refine At.enter rfl ?_
            refine r_iconst 0 rfl ?_
            refine Ar.fall 88 rfl ?_
            refine At.enter rfl ?_
            refine r_istore_n _ rfl ?_
            refine q_iinc (w_p1 (by decide) (Or.inr rfl) e912) (x901.toInt + 1) rfl (by omega) (fun v935 hv935 => ?_)
            refine r_goto ?_
            have zv936 : (0 : Int32).toInt = 0 := rfl
            exact ih907 (8 - v935.toInt) _ _ ⟨0, v935, by first | rfl | omega, hI903, hF904, (w_p1 (by decide) (Or.inr rfl) (w_p1 (by decide) (Or.inr rfl) e908)), (w_p1 (by decide) (Or.inr rfl) (w_p1 (by decide) (Or.inr rfl) e909)), (w_p1 (by decide) (Or.inr rfl) (w_e1 _ _ _)), (w_p1 (by decide) (Or.inr rfl) (w_p1 (by decide) (Or.inr rfl) e911)), (w_e1 _ _ _), by decide, by omega⟩ ⟨by omega, by omega⟩
          · have c934_ : v638.toInt ≠ v933.toInt := en_i_eq_f c934
            refine At.enter rfl ?_
            refine r_aload_n e908 ?_
            refine r_iload e912 ?_
            refine r_iload_n e909 ?_
            refine r_bipush 99 rfl ?_
            refine r_aload_n e908 ?_
            refine q_getR (Sh.ref hI903.1 kx_231 rfl) ?_
            refine r_iload e912 ?_
            obtain ⟨v937, hv937⟩ : ∃ v, eA g0 251 x901.toInt = v := ⟨_, rfl⟩
            refine q_iald (Sh.arr hI903.1 ka_251) x901.toInt rfl (by omega) v937 ((eA_c (hF904.2.1 251 (by decide))).trans hv937) ?_
            refine r_callV 70 rfl [.ref 231, .int x901, .int a1, .int 99, .int v937] [] (Nat.le_of_ble_eq_true rfl) rfl (T_X11_isBarred_231 _ hI903 x901 (by omega) a1 (by omega) 99 v937) ?_
            rintro _ _ ⟨g938, rfl, hI939, hF940, v941, rfl, hr942⟩
            refine At.sti ?_
            have hF943 := Fr.tr hF904 hF940 rfl rfl
            refine At.enter rfl ?_
            refine r_ifs 73 rfl (fun c944 => ?_) (fun c944 => ?_)
            · have c944_ : v941.toInt ≠ 0 := en_k_ne_t c944
              refine At.enter rfl ?_
              refine r_iconst 0 rfl ?_
              refine Ar.fall 88 rfl ?_
              refine At.enter rfl ?_
              refine r_istore_n _ rfl ?_
              refine q_iinc (w_p1 (by decide) (Or.inr rfl) e912) (x901.toInt + 1) rfl (by omega) (fun v945 hv945 => ?_)
              refine r_goto ?_
              have zv946 : (0 : Int32).toInt = 0 := rfl
              exact ih907 (8 - v945.toInt) _ _ ⟨0, v945, by first | rfl | omega, hI939, hF943, (w_p1 (by decide) (Or.inr rfl) (w_p1 (by decide) (Or.inr rfl) e908)), (w_p1 (by decide) (Or.inr rfl) (w_p1 (by decide) (Or.inr rfl) e909)), (w_p1 (by decide) (Or.inr rfl) (w_e1 _ _ _)), (w_p1 (by decide) (Or.inr rfl) (w_p1 (by decide) (Or.inr rfl) e911)), (w_e1 _ _ _), by decide, by omega⟩ ⟨by omega, by omega⟩
            · have c944_ : v941.toInt = 0 := en_k_ne_f c944
              refine At.enter rfl ?_
              refine r_aload_n e908 ?_
              refine r_iload_n e911 ?_
              refine r_iload e912 ?_
              refine r_callV 80 rfl [.ref 231, .int v638, .int x901] [] (Nat.le_of_ble_eq_true rfl) rfl (T_X11_canHold_231 _ hI939 v638 (by omega) x901 (by omega)) ?_
              rintro _ _ ⟨g947, rfl, hI948, hF949, v950, rfl, hr951⟩
              refine At.sti ?_
              have hF952 := Fr.tr hF943 hF949 rfl rfl
              refine At.enter rfl ?_
              refine r_ifs 83 rfl (fun c953 => ?_) (fun c953 => ?_)
              · have c953_ : v950.toInt ≠ 0 := en_k_ne_t c953
                refine At.enter rfl ?_
                refine r_iconst 0 rfl ?_
                refine Ar.fall 88 rfl ?_
                refine At.enter rfl ?_
                refine r_istore_n _ rfl ?_
                refine q_iinc (w_p1 (by decide) (Or.inr rfl) e912) (x901.toInt + 1) rfl (by omega) (fun v954 hv954 => ?_)
                refine r_goto ?_
                have zv955 : (0 : Int32).toInt = 0 := rfl
                exact ih907 (8 - v954.toInt) _ _ ⟨0, v954, by first | rfl | omega, hI948, hF952, (w_p1 (by decide) (Or.inr rfl) (w_p1 (by decide) (Or.inr rfl) e908)), (w_p1 (by decide) (Or.inr rfl) (w_p1 (by decide) (Or.inr rfl) e909)), (w_p1 (by decide) (Or.inr rfl) (w_e1 _ _ _)), (w_p1 (by decide) (Or.inr rfl) (w_p1 (by decide) (Or.inr rfl) e911)), (w_e1 _ _ _), by decide, by omega⟩ ⟨by omega, by omega⟩
              · have c953_ : v950.toInt = 0 := en_k_ne_f c953
                refine At.enter rfl ?_
                refine r_iconst 1 rfl ?_
                refine r_goto ?_
                refine At.enter rfl ?_
                refine r_istore_n _ rfl ?_
                refine q_iinc (w_p1 (by decide) (Or.inr rfl) e912) (x901.toInt + 1) rfl (by omega) (fun v956 hv956 => ?_)
                refine r_goto ?_
                have zv957 : (1 : Int32).toInt = 1 := rfl
                exact ih907 (8 - v956.toInt) _ _ ⟨1, v956, by first | rfl | omega, hI948, hF952, (w_p1 (by decide) (Or.inr rfl) (w_p1 (by decide) (Or.inr rfl) e908)), (w_p1 (by decide) (Or.inr rfl) (w_p1 (by decide) (Or.inr rfl) e909)), (w_p1 (by decide) (Or.inr rfl) (w_e1 _ _ _)), (w_p1 (by decide) (Or.inr rfl) (w_p1 (by decide) (Or.inr rfl) e911)), (w_e1 _ _ _), by decide, by omega⟩ ⟨by omega, by omega⟩

def F_X11_choke_231 : List (Nat × Nat) := [(231, 0), (231, 27), (231, 30), (231, 31), (231, 32), (231, 36)]
def A_X11_choke_231 : List Nat := [246, 247, 248, 250, 251, 252, 253, 254, 255, 256]
theorem ma_X11_isStuck_231_233 : memA A_X11_isStuck_231 233 = false := by decide
set_option maxRecDepth 100000 in
set_option maxHeartbeats 4000000 in
theorem T_X11_choke_231 (d : Nat) {N : Nat} {g0 : List en_E} (hI0 : HI g0) : Ev (d + 9) 235 [.ref 231] (g0, N) (fun w h' => ∃ g', h' = (g', N) ∧ HI g' ∧ Fr F_X11_choke_231 A_X11_choke_231 g0 g' ∧ ∃ r : Int32, w = some (.int r) ∧ True) := by
  have hF0 : Fr F_X11_choke_231 A_X11_choke_231 g0 g0 := Fr.rf
  refine Ev.mk rfl rfl ⟨Nat.le_of_ble_eq_true rfl, Or.inr (q_rc hI0.1 kx_231 rfl)⟩ ?_
  show At _ none _ _ (0, [(0, .ref 231)], [], (_, _)) _
  refine At.enter rfl ?_
  refine r_aload_n rfl ?_
  refine r_iconst 0 rfl ?_
  refine q_putI (Sh.int hI0.1 kx_231 rfl) rfl ?_
  have hI5677 := HI.wI0 hI0 kx_231 rfl (p := 231) (b := 0) (v := 0) rfl
  have hF5678 := Fr.wI (p := 231) (b := 0) (v := 0) hF0 rfl
  refine r_aload_n rfl ?_
  refine r_callV 9 rfl [.ref 231] [] (Nat.le_of_ble_eq_true rfl) rfl (T_X11_runDay_231 _ hI5677) ?_
  rintro _ _ ⟨g5679, rfl, hI5680, hF5681, rfl⟩
  refine At.stn ?_
  have hF5684 := Fr.tr hF5678 hF5681 rfl rfl
  refine At.enter rfl ?_
  refine r_iconst 0 rfl ?_
  refine r_istore_n ([(1, .int 0), (0, .ref 231)]) rfl ?_
  refine Ar.fall 11 rfl ?_
  have z_8233 : (0 : Int32).toInt = 0 := rfl
  refine w_loopI (fun n_ l_ g_ => ∃ x8223 : Int32, n_ = 12 - x8223.toInt ∧ HI g_ ∧ Fr F_X11_choke_231 A_X11_choke_231 g0 g_ ∧ en_get 0 l_ = some (.ref 231) ∧ en_get 1 l_ = some (.int x8223) ∧ (0 ≤ x8223.toInt ∧ x8223.toInt ≤ 12)) ?_ (12 - 0) ⟨0, by first | rfl | omega, hI5680, hF5684, rfl, rfl, by decide⟩
  rintro n8228 l8227 g8224 ⟨x8223, hm8234, hI8225, hF8226, e8230, e8231, r8232⟩ ih8229
  refine At.enter rfl ?_
  refine r_iload_n e8231 ?_
  refine r_aload_n e8230 ?_
  refine q_getR (Sh.ref hI8225.1 kx_231 rfl) ?_
  refine r_iconst 0 rfl ?_
  obtain ⟨v8235, hv8235⟩ : ∃ v, eA g0 233 0 = v := ⟨_, rfl⟩
  have tv8235 := congrArg Int32.toInt hv8235
  have wv8235 := HI.t0 hI0
  rw [hv8235] at wv8235
  refine q_iald (Sh.arr hI8225.1 ka_233) 0 rfl (by decide) v8235 ((eA_c (hF8226.2.1 233 (by decide))).trans hv8235) ?_
  have bv8237 := q_bnd x8223
  have bv8238 := q_bnd v8235
  refine r_ics 21 rfl (fun c8236 => ?_) (fun c8236 => ?_)
  · have c8236_ : x8223.toInt ≥ v8235.toInt := en_i_ge_t c8236
    refine At.enter rfl ?_
    refine r_iconst 0 rfl ?_
    refine r_ireti ?_
    exact ⟨_, rfl, hI8225, hF8226, _, rfl, trivial⟩
  · have c8236_ : x8223.toInt < v8235.toInt := en_i_ge_f c8236
    refine At.enter rfl ?_
    refine r_iconst 0 rfl ?_
    refine r_istore_n _ rfl ?_
    refine r_iload_n (w_p1 (by decide) (Or.inr rfl) e8231) ?_
    refine r_istore_n _ rfl ?_
    refine r_iconst 0 rfl ?_
    refine r_istore _ rfl ?_
    refine Ar.fall 28 rfl ?_
    have z_8489 : (0 : Int32).toInt = 0 := rfl
    have z_8490 : (0 : Int32).toInt = 0 := rfl
    refine w_loopI (fun n_ l_ g_ => ∃ x8473 : Int32, ∃ x8474 : Int32, ∃ x8475 : Int32, n_ = 12 - x8475.toInt ∧ HI g_ ∧ Fr F_X11_choke_231 A_X11_choke_231 g0 g_ ∧ en_get 0 l_ = some (.ref 231) ∧ en_get 1 l_ = some (.int x8223) ∧ en_get 2 l_ = some (.int x8473) ∧ en_get 3 l_ = some (.int x8474) ∧ en_get 4 l_ = some (.int x8475) ∧ ((-1) ≤ x8474.toInt ∧ x8474.toInt ≤ 11) ∧ (0 ≤ x8475.toInt ∧ x8475.toInt ≤ 12)) ?_ (12 - 0) ⟨0, x8223, 0, by first | rfl | omega, hI8225, hF8226, (w_p1 (by decide) (Or.inr rfl) (w_p1 (by decide) (Or.inr rfl) (w_p1 (by decide) (Or.inr rfl) e8230))), (w_p1 (by decide) (Or.inr rfl) (w_p1 (by decide) (Or.inr rfl) (w_p1 (by decide) (Or.inr rfl) e8231))), (w_p1 (by decide) (Or.inr rfl) (w_p1 (by decide) (Or.inr rfl) (w_e1 _ _ _))), (w_p1 (by decide) (Or.inr rfl) (w_e1 _ _ _)), (w_e1 _ _ _), by omega, by decide⟩
    rintro n8480 l8479 g8476 ⟨x8473, x8474, x8475, hm8491, hI8477, hF8478, e8482, e8483, e8484, e8485, e8486, r8487, r8488⟩ ih8481
    refine At.enter rfl ?_
    refine r_iload e8486 ?_
    refine r_bipush 12 rfl ?_
    refine r_ics 35 rfl (fun c8492 => ?_) (fun c8492 => ?_)
    · have c8492_ : x8475.toInt ≥ 12 := en_i_ge_t c8492
      refine At.enter rfl ?_
      refine q_iinc e8483 (x8223.toInt + 1) rfl (by omega) (fun v8493 hv8493 => ?_)
      refine r_goto ?_
      exact ih8229 (12 - v8493.toInt) _ _ ⟨v8493, by first | rfl | omega, hI8477, hF8478, (w_p1 (by decide) (Or.inr rfl) e8482), (w_e1 _ _ _), by omega⟩ ⟨by omega, by omega⟩
    · have c8492_ : x8475.toInt < 12 := en_i_ge_f c8492
      refine At.enter rfl ?_
      refine r_iload_n e8485 ?_
      refine r_iconst (-1) rfl ?_
      refine r_ics 40 rfl (fun c8494 => ?_) (fun c8494 => ?_)
      · have c8494_ : x8474.toInt = (-1) := en_i_eq_t c8494
        refine At.enter rfl ?_
        refine q_iinc e8483 (x8223.toInt + 1) rfl (by omega) (fun v8495 hv8495 => ?_)
        refine r_goto ?_
        exact ih8229 (12 - v8495.toInt) _ _ ⟨v8495, by first | rfl | omega, hI8477, hF8478, (w_p1 (by decide) (Or.inr rfl) e8482), (w_e1 _ _ _), by omega⟩ ⟨by omega, by omega⟩
      · have c8494_ : x8474.toInt ≠ (-1) := en_i_eq_f c8494
        refine At.enter rfl ?_
        refine r_aload_n e8482 ?_
        refine r_iload_n e8485 ?_
        refine r_callV 45 rfl [.ref 231, .int x8474] [] (Nat.le_of_ble_eq_true rfl) rfl (T_X11_isStuck_231 _ hI8477 x8474 (by omega)) ?_
        rintro _ _ ⟨g8496, rfl, hI8497, hF8498, v8499, rfl, hr8500⟩
        refine At.sti ?_
        have hF8501 := Fr.tr hF8478 hF8498 rfl rfl
        refine At.enter rfl ?_
        refine r_ifs 48 rfl (fun c8502 => ?_) (fun c8502 => ?_)
        · have c8502_ : v8499.toInt = 0 := en_k_eq_t c8502
          refine At.enter rfl ?_
          refine q_iinc e8483 (x8223.toInt + 1) rfl (by omega) (fun v8503 hv8503 => ?_)
          refine r_goto ?_
          exact ih8229 (12 - v8503.toInt) _ _ ⟨v8503, by first | rfl | omega, hI8497, hF8501, (w_p1 (by decide) (Or.inr rfl) e8482), (w_e1 _ _ _), by omega⟩ ⟨by omega, by omega⟩
        · have c8502_ : v8499.toInt ≠ 0 := en_k_eq_f c8502
          refine At.enter rfl ?_
          refine r_iload_n e8484 ?_
          refine r_iconst 1 rfl ?_
          refine r_iload_n e8485 ?_
          refine q_ishlO (fun v8504 hv8504 => ?_)
          refine q_iorO (fun v8505 hv8505 => ?_)
          refine r_istore_n _ rfl ?_
          refine r_aload_n (w_p1 (by decide) (Or.inr rfl) e8482) ?_
          refine r_iload_n (w_p1 (by decide) (Or.inr rfl) e8485) ?_
          refine r_iconst 0 rfl ?_
          refine r_callV 60 rfl [.ref 231, .int x8474, .int 0] [] (Nat.le_of_ble_eq_true rfl) rfl (T_X11_nextOf0_231 _ hI8497 x8474 (by omega)) ?_
          rintro _ _ ⟨g8506, rfl, hI8507, hF8508, v8509, rfl, hr8510⟩
          refine At.sti ?_
          have hF8511 := Fr.tr hF8501 hF8508 rfl rfl
          have zv8512 : (0 : Int32).toInt = 0 := rfl
          rw [eA_c (((hF8498.2.1 233 ma_X11_isStuck_231_233).trans (hF8478.2.1 233 (by decide))))] at hr8510
          rw [NMo.c (((hF8498.2.1 233 ma_X11_isStuck_231_233).trans (hF8478.2.1 233 (by decide))))] at hr8510
          refine At.enter rfl ?_
          refine r_istore_n _ rfl ?_
          refine r_iload_n (w_e1 _ _ _) ?_
          refine r_iload_n (w_p1 (by decide) (Or.inr rfl) (w_p1 (by decide) (Or.inr rfl) e8483)) ?_
          refine r_ics 66 rfl (fun c8513 => ?_) (fun c8513 => ?_)
          · have c8513_ : v8509.toInt ≠ x8223.toInt := en_i_ne_t c8513
            refine At.enter rfl ?_
            refine q_iinc (w_p1 (by decide) (Or.inr rfl) (w_p1 (by decide) (Or.inr rfl) e8486)) (x8475.toInt + 1) rfl (by omega) (fun v8514 hv8514 => ?_)
            refine r_goto ?_
            have bv8515 := q_bnd v8505
            exact ih8481 (12 - v8514.toInt) _ _ ⟨v8505, v8509, v8514, by first | rfl | omega, hI8507, hF8511, (w_p1 (by decide) (Or.inr rfl) (w_p1 (by decide) (Or.inr rfl) (w_p1 (by decide) (Or.inr rfl) e8482))), (w_p1 (by decide) (Or.inr rfl) (w_p1 (by decide) (Or.inr rfl) (w_p1 (by decide) (Or.inr rfl) e8483))), (w_p1 (by decide) (Or.inr rfl) (w_p1 (by decide) (Or.inr rfl) (w_e1 _ _ _))), (w_p1 (by decide) (Or.inr rfl) (w_e1 _ _ _)), (w_e1 _ _ _), by omega, by omega⟩ ⟨by omega, by omega⟩
          · have c8513_ : v8509.toInt = x8223.toInt := en_i_ne_f c8513
            refine At.enter rfl ?_
            refine r_iload_n (w_p1 (by decide) (Or.inr rfl) (w_e1 _ _ _)) ?_
            refine r_ireti ?_
            exact ⟨_, rfl, hI8507, hF8511, _, rfl, trivial⟩
