def F_X11_isStuck_231 : List (Nat × Nat) := [(231, 27), (231, 30), (231, 31), (231, 32)]
def A_X11_isStuck_231 : List Nat := []
set_option maxRecDepth 100000 in
set_option maxHeartbeats 4000000 in
theorem T_X11_isStuck_231 (d : Nat) {N : Nat} {g0 : List en_E} (hI0 : HI g0) (a1 : Int32) (h_a1 : 0 ≤ a1.toInt ∧ a1.toInt ≤ 11) : Ev (d + 6) 234 [.ref 231, .int a1] (g0, N) (fun w h' => ∃ g', h' = (g', N) ∧ HI g' ∧ Fr F_X11_isStuck_231 A_X11_isStuck_231 g0 g' ∧ ∃ r : Int32, w = some (.int r) ∧ (0 ≤ r.toInt ∧ r.toInt ≤ 1)) := by
  have hF0 : Fr F_X11_isStuck_231 A_X11_isStuck_231 g0 g0 := Fr.rf
  refine Ev.mk rfl rfl ⟨Nat.le_of_ble_eq_true rfl, Or.inr (q_rc hI0.1 kx_231 rfl)⟩ ?_
  show At _ none _ _ (0, [(0, .ref 231), (1, .int a1)], [], (_, _)) _
  refine At.enter rfl ?_
  refine r_iconst 0 rfl ?_
  refine r_istore_n ([(2, .int 0), (0, .ref 231), (1, .int a1)]) rfl ?_
  refine r_aload_n rfl ?_
  refine r_iload_n rfl ?_
  refine r_iconst 0 rfl ?_
  refine r_callV 8 rfl [.ref 231, .int a1, .int 0] [] (Nat.le_of_ble_eq_true rfl) rfl (T_X11_nextOf0_231 _ hI0 a1 (by omega)) ?_
  rintro _ _ ⟨g635, rfl, hI636, hF637, v638, rfl, hr639⟩
  refine At.sti ?_
  have hF640 := Fr.tr hF0 hF637 rfl rfl
  have zv641 : (0 : Int32).toInt = 0 := rfl
  rw [eA_c (rfl)] at hr639
  refine At.enter rfl ?_
  refine r_istore_n ([(3, .int v638), (2, .int 0), (0, .ref 231), (1, .int a1)]) rfl ?_
  refine r_iconst 0 rfl ?_
  refine r_istore ([(4, .int 0), (3, .int v638), (2, .int 0), (0, .ref 231), (1, .int a1)]) rfl ?_
  refine Ar.fall 12 rfl ?_
  have z_915 : (0 : Int32).toInt = 0 := rfl
  have z_916 : (0 : Int32).toInt = 0 := rfl
  refine w_loopI (fun n_ l_ g_ => ∃ x900 : Int32, ∃ x901 : Int32, n_ = 8 - x901.toInt ∧ HI g_ ∧ Fr F_X11_isStuck_231 A_X11_isStuck_231 g0 g_ ∧ en_get 0 l_ = some (.ref 231) ∧ en_get 1 l_ = some (.int a1) ∧ en_get 2 l_ = some (.int x900) ∧ en_get 3 l_ = some (.int v638) ∧ en_get 4 l_ = some (.int x901) ∧ (0 ≤ x900.toInt ∧ x900.toInt ≤ 1) ∧ (0 ≤ x901.toInt ∧ x901.toInt ≤ 8)) ?_ (8 - 0) ⟨0, 0, by first | rfl | omega, hI636, hF640, rfl, rfl, rfl, rfl, rfl, by decide, by decide⟩
  rintro n906 l905 g902 ⟨x900, x901, hm917, hI903, hF904, e908, e909, e910, e911, e912, r913, r914⟩ ih907
  refine At.enter rfl ?_
  refine r_iload e912 ?_
  refine r_aload_n e908 ?_
  refine q_getR (Sh.ref hI903.1 kx_231 rfl) ?_
  refine r_iconst 1 rfl ?_
  obtain ⟨v918, hv918⟩ : ∃ v, eA g0 233 1 = v := ⟨_, rfl⟩
  have tv918 := congrArg Int32.toInt hv918
  have wv918 := HI.t1 hI0
  rw [hv918] at wv918
  refine q_iald (Sh.arr hI903.1 ka_233) 1 rfl (by decide) v918 ((eA_c (hF904.2.1 233 (by decide))).trans hv918) ?_
  have bv920 := q_bnd x901
  have bv921 := q_bnd v918
  refine r_ics 23 rfl (fun c919 => ?_) (fun c919 => ?_)
  · have c919_ : x901.toInt ≥ v918.toInt := en_i_ge_t c919
    refine At.enter rfl ?_
    refine r_iload_n e910 ?_
    refine r_iretz (q_b01 (by omega)) ?_
    exact ⟨_, rfl, hI903, hF904, _, rfl, by omega⟩
  · have c919_ : x901.toInt < v918.toInt := en_i_ge_f c919
    refine At.enter rfl ?_
    refine r_iload_n e911 ?_
    refine r_iconst (-1) rfl ?_
    refine r_ics 28 rfl (fun c922 => ?_) (fun c922 => ?_)
    · have c922_ : v638.toInt = (-1) := en_i_eq_t c922
      refine At.enter rfl ?_
      refine r_iload_n e910 ?_
      refine r_iretz (q_b01 (by omega)) ?_
      exact ⟨_, rfl, hI903, hF904, _, rfl, by omega⟩
    · have c922_ : v638.toInt ≠ (-1) := en_i_eq_f c922
      refine At.enter rfl ?_
      refine r_iload_n e910 ?_
      refine r_ifs 32 rfl (fun c923 => ?_) (fun c923 => ?_)
      · have c923_ : x900.toInt ≠ 0 := en_k_ne_t c923
        refine At.enter rfl ?_
        refine r_iconst 1 rfl ?_
        refine r_goto ?_
        refine At.enter rfl ?_
        refine r_istore_n _ rfl ?_
        refine q_iinc (w_p1 (by decide) (Or.inr rfl) e912) (x901.toInt + 1) rfl (by omega) (fun v924 hv924 => ?_)
        refine r_goto ?_
        exact ih907 (8 - v924.toInt) _ _ ⟨1, v924, by first | rfl | omega, hI903, hF904, (w_p1 (by decide) (Or.inr rfl) (w_p1 (by decide) (Or.inr rfl) e908)), (w_p1 (by decide) (Or.inr rfl) (w_p1 (by decide) (Or.inr rfl) e909)), (w_p1 (by decide) (Or.inr rfl) (w_e1 _ _ _)), (w_p1 (by decide) (Or.inr rfl) (w_p1 (by decide) (Or.inr rfl) e911)), (w_e1 _ _ _), by decide, by omega⟩ ⟨by omega, by omega⟩
      · have c923_ : x900.toInt = 0 := en_k_ne_f c923
        refine At.enter rfl ?_
        refine r_aload_n e908 ?_
        refine q_getR (Sh.ref hI903.1 kx_231 rfl) ?_
        refine r_iload e912 ?_
        obtain ⟨v925, hv925⟩ : ∃ v, eA g0 250 x901.toInt = v := ⟨_, rfl⟩
        have rv925 := RgA.at hI0.2.2.1 (Sh.arr hI0.1 ka_250).2 (p := 250) rfl (j := x901.toInt) (by omega)
        rw [hv925] at rv925
        dsimp only at rv925
        refine q_iald (Sh.arr hI903.1 ka_250) x901.toInt rfl (by omega) v925 ((eA_c (hF904.2.1 250 (by decide))).trans hv925) ?_
        refine r_iload_n e909 ?_
        refine r_ics 43 rfl (fun c926 => ?_) (fun c926 => ?_)
        · have c926_ : v925.toInt ≠ a1.toInt := en_i_ne_t c926
          refine At.enter rfl ?_
          refine r_iconst 0 rfl ?_
          refine Ar.fall 88 rfl ?_
          refine At.enter rfl ?_
          refine r_istore_n _ rfl ?_
          refine q_iinc (w_p1 (by decide) (Or.inr rfl) e912) (x901.toInt + 1) rfl (by omega) (fun v927 hv927 => ?_)
          refine r_goto ?_
          exact ih907 (8 - v927.toInt) _ _ ⟨0, v927, by first | rfl | omega, hI903, hF904, (w_p1 (by decide) (Or.inr rfl) (w_p1 (by decide) (Or.inr rfl) e908)), (w_p1 (by decide) (Or.inr rfl) (w_p1 (by decide) (Or.inr rfl) e909)), (w_p1 (by decide) (Or.inr rfl) (w_e1 _ _ _)), (w_p1 (by decide) (Or.inr rfl) (w_p1 (by decide) (Or.inr rfl) e911)), (w_e1 _ _ _), by decide, by omega⟩ ⟨by omega, by omega⟩
        · have c926_ : v925.toInt = a1.toInt := en_i_ne_f c926
          refine At.enter rfl ?_
          refine r_iload_n e911 ?_
          refine r_aload_n e908 ?_
          refine r_iload e912 ?_
          refine r_iconst 2 rfl ?_
          refine q_inlV 51 rfl [.ref 231, .int x901, .int 2] [.int v638] (Nat.le_of_ble_eq_true rfl) rfl ?_
          refine Ev.mk rfl rfl ⟨Nat.le_of_ble_eq_true rfl, Or.inr (q_rc hI903.1 kx_231 rfl)⟩ ?_
          show At _ none _ _ (0, [(0, .ref 231), (1, .int x901), (2, .int 2)], [], (_, _)) _
          refine At.enter rfl ?_
          refine r_aload_n rfl ?_
          refine q_getR (Sh.ref hI903.1 kx_231 rfl) ?_
          refine r_bipush 46 rfl ?_
          refine r_bipush 6 rfl ?_
          refine r_iload_n rfl ?_
          refine q_imul (6 * x901.toInt) rfl (by omega) (fun v928 hv928 => ?_)
          refine q_iadd (46 + v928.toInt) rfl (by omega) (fun v929 hv929 => ?_)
          refine r_iload_n rfl ?_
          refine q_iadd (v929.toInt + 2) rfl (by omega) (fun v930 hv930 => ?_)
          obtain ⟨v931, hv931⟩ : ∃ v, eA g0 233 (6 * x901.toInt + 48) = v := ⟨_, rfl⟩
          have wv931 := HI.l2 hI0 (j := (6 * x901.toInt + 48)) (x901.toInt) (by omega) (by omega)
          rw [hv931] at wv931
          refine q_iald (Sh.arr hI903.1 ka_233) (6 * x901.toInt + 48) (by omega) (by omega) v931 ((eA_c (hF904.2.1 233 (by decide))).trans hv931) ?_
          refine q_ireti ?_
          refine At.enter rfl ?_
          refine r_ics 54 rfl (fun c932 => ?_) (fun c932 => ?_)
          · have c932_ : v638.toInt = v931.toInt := en_i_eq_t c932
            refine At.enter rfl ?_
            refine r_iconst 0 rfl ?_
            refine Ar.fall 88 rfl ?_
            refine At.enter rfl ?_
            refine r_istore_n _ rfl ?_
            refine q_iinc (w_p1 (by decide) (Or.inr rfl) e912) (x901.toInt + 1) rfl (by omega) (fun v933 hv933 => ?_)
            refine r_goto ?_
            exact ih907 (8 - v933.toInt) _ _ ⟨0, v933, by first | rfl | omega, hI903, hF904, (w_p1 (by decide) (Or.inr rfl) (w_p1 (by decide) (Or.inr rfl) e908)), (w_p1 (by decide) (Or.inr rfl) (w_p1 (by decide) (Or.inr rfl) e909)), (w_p1 (by decide) (Or.inr rfl) (w_e1 _ _ _)), (w_p1 (by decide) (Or.inr rfl) (w_p1 (by decide) (Or.inr rfl) e911)), (w_e1 _ _ _), by decide, by omega⟩ ⟨by omega, by omega⟩
          · have c932_ : v638.toInt ≠ v931.toInt := en_i_eq_f c932
            refine At.enter rfl ?_
            refine r_aload_n e908 ?_
            refine r_iload e912 ?_
            refine r_iload_n e909 ?_
            refine r_bipush 99 rfl ?_
            refine r_aload_n e908 ?_
            refine q_getR (Sh.ref hI903.1 kx_231 rfl) ?_
            refine r_iload e912 ?_
            obtain ⟨v934, hv934⟩ : ∃ v, eA g0 251 x901.toInt = v := ⟨_, rfl⟩
            refine q_iald (Sh.arr hI903.1 ka_251) x901.toInt rfl (by omega) v934 ((eA_c (hF904.2.1 251 (by decide))).trans hv934) ?_
            refine r_callV 70 rfl [.ref 231, .int x901, .int a1, .int 99, .int v934] [] (Nat.le_of_ble_eq_true rfl) rfl (T_X11_isBarred_231 _ hI903 x901 (by omega) a1 (by omega) 99 v934) ?_
            rintro _ _ ⟨g935, rfl, hI936, hF937, v938, rfl, hr939⟩
            refine At.sti ?_
            have hF940 := Fr.tr hF904 hF937 rfl rfl
            refine At.enter rfl ?_
            refine r_ifs 73 rfl (fun c941 => ?_) (fun c941 => ?_)
            · have c941_ : v938.toInt ≠ 0 := en_k_ne_t c941
              refine At.enter rfl ?_
              refine r_iconst 0 rfl ?_
              refine Ar.fall 88 rfl ?_
              refine At.enter rfl ?_
              refine r_istore_n _ rfl ?_
              refine q_iinc (w_p1 (by decide) (Or.inr rfl) e912) (x901.toInt + 1) rfl (by omega) (fun v942 hv942 => ?_)
              refine r_goto ?_
              exact ih907 (8 - v942.toInt) _ _ ⟨0, v942, by first | rfl | omega, hI936, hF940, (w_p1 (by decide) (Or.inr rfl) (w_p1 (by decide) (Or.inr rfl) e908)), (w_p1 (by decide) (Or.inr rfl) (w_p1 (by decide) (Or.inr rfl) e909)), (w_p1 (by decide) (Or.inr rfl) (w_e1 _ _ _)), (w_p1 (by decide) (Or.inr rfl) (w_p1 (by decide) (Or.inr rfl) e911)), (w_e1 _ _ _), by decide, by omega⟩ ⟨by omega, by omega⟩
            · have c941_ : v938.toInt = 0 := en_k_ne_f c941
              refine At.enter rfl ?_
              refine r_aload_n e908 ?_
              refine r_iload_n e911 ?_
              refine r_iload e912 ?_
              refine r_callV 80 rfl [.ref 231, .int v638, .int x901] [] (Nat.le_of_ble_eq_true rfl) rfl (T_X11_canHold_231 _ hI936 v638 (by omega) x901 (by omega)) ?_
              rintro _ _ ⟨g943, rfl, hI944, hF945, v946, rfl, hr947⟩
              refine At.sti ?_
              have hF948 := Fr.tr hF940 hF945 rfl rfl
              refine At.enter rfl ?_
              refine r_ifs 83 rfl (fun c949 => ?_) (fun c949 => ?_)
              · have c949_ : v946.toInt ≠ 0 := en_k_ne_t c949
                refine At.enter rfl ?_
                refine r_iconst 0 rfl ?_
                refine Ar.fall 88 rfl ?_
                refine At.enter rfl ?_
                refine r_istore_n _ rfl ?_
                refine q_iinc (w_p1 (by decide) (Or.inr rfl) e912) (x901.toInt + 1) rfl (by omega) (fun v950 hv950 => ?_)
                refine r_goto ?_
                exact ih907 (8 - v950.toInt) _ _ ⟨0, v950, by first | rfl | omega, hI944, hF948, (w_p1 (by decide) (Or.inr rfl) (w_p1 (by decide) (Or.inr rfl) e908)), (w_p1 (by decide) (Or.inr rfl) (w_p1 (by decide) (Or.inr rfl) e909)), (w_p1 (by decide) (Or.inr rfl) (w_e1 _ _ _)), (w_p1 (by decide) (Or.inr rfl) (w_p1 (by decide) (Or.inr rfl) e911)), (w_e1 _ _ _), by decide, by omega⟩ ⟨by omega, by omega⟩
              · have c949_ : v946.toInt = 0 := en_k_ne_f c949
                refine At.enter rfl ?_
                refine r_iconst 1 rfl ?_
                refine r_goto ?_
                refine At.enter rfl ?_
                refine r_istore_n _ rfl ?_
                refine q_iinc (w_p1 (by decide) (Or.inr rfl) e912) (x901.toInt + 1) rfl (by omega) (fun v951 hv951 => ?_)
                refine r_goto ?_
                exact ih907 (8 - v951.toInt) _ _ ⟨1, v951, by first | rfl | omega, hI944, hF948, (w_p1 (by decide) (Or.inr rfl) (w_p1 (by decide) (Or.inr rfl) e908)), (w_p1 (by decide) (Or.inr rfl) (w_p1 (by decide) (Or.inr rfl) e909)), (w_p1 (by decide) (Or.inr rfl) (w_e1 _ _ _)), (w_p1 (by decide) (Or.inr rfl) (w_p1 (by decide) (Or.inr rfl) e911)), (w_e1 _ _ _), by decide, by omega⟩ ⟨by omega, by omega⟩

def F_X11_choke_231 : List (Nat × Nat) := [(231, 0), (231, 27), (231, 30), (231, 31), (231, 32), (231, 36)]
def A_X11_choke_231 : List Nat := [246, 247, 248, 250, 251, 252, 253, 254, 255, 256]
set_option maxRecDepth 100000 in
set_option maxHeartbeats 4000000 in
theorem T_X11_choke_231 (d : Nat) {N : Nat} {g0 : List en_E} (hI0 : HI g0) : Ev (d + 9) 235 [.ref 231] (g0, N) (fun w h' => ∃ g', h' = (g', N) ∧ HI g' ∧ Fr F_X11_choke_231 A_X11_choke_231 g0 g' ∧ ∃ r : Int32, w = some (.int r) ∧ True) := by
  have hF0 : Fr F_X11_choke_231 A_X11_choke_231 g0 g0 := Fr.rf
  refine Ev.mk rfl rfl ⟨Nat.le_of_ble_eq_true rfl, Or.inr (q_rc hI0.1 kx_231 rfl)⟩ ?_
  show At _ none _ _ (0, [(0, .ref 231)], [], (_, _)) _
  refine At.enter rfl ?_
  refine r_aload_n rfl ?_
  refine r_iconst 0 rfl ?_
  refine q_putI (Sh.int hI0.1 kx_231 rfl) rfl ?_
  have hI5677 := HI.wI0 hI0 kx_231 rfl (p := 231) (b := 0) (v := 0) rfl
  have hF5678 := Fr.wI (p := 231) (b := 0) (v := 0) hF0 rfl
  refine r_aload_n rfl ?_
  refine r_callV 9 rfl [.ref 231] [] (Nat.le_of_ble_eq_true rfl) rfl (T_X11_runDay_231 _ hI5677) ?_
  rintro _ _ ⟨g5679, rfl, hI5680, hF5681, rfl⟩
  refine At.stn ?_
  have hF5684 := Fr.tr hF5678 hF5681 rfl rfl
  refine At.enter rfl ?_
  refine r_iconst 0 rfl ?_
  refine r_istore_n ([(1, .int 0), (0, .ref 231)]) rfl ?_
  refine Ar.fall 11 rfl ?_
  have z_8233 : (0 : Int32).toInt = 0 := rfl
  refine w_loopI (fun n_ l_ g_ => ∃ x8223 : Int32, n_ = 12 - x8223.toInt ∧ HI g_ ∧ Fr F_X11_choke_231 A_X11_choke_231 g0 g_ ∧ en_get 0 l_ = some (.ref 231) ∧ en_get 1 l_ = some (.int x8223) ∧ (0 ≤ x8223.toInt ∧ x8223.toInt ≤ 12)) ?_ (12 - 0) ⟨0, by first | rfl | omega, hI5680, hF5684, rfl, rfl, by decide⟩
  rintro n8228 l8227 g8224 ⟨x8223, hm8234, hI8225, hF8226, e8230, e8231, r8232⟩ ih8229
  refine At.enter rfl ?_
  refine r_iload_n e8231 ?_
  refine r_aload_n e8230 ?_
  refine q_getR (Sh.ref hI8225.1 kx_231 rfl) ?_
  refine r_iconst 0 rfl ?_
  obtain ⟨v8235, hv8235⟩ : ∃ v, eA g0 233 0 = v := ⟨_, rfl⟩
  have tv8235 := congrArg Int32.toInt hv8235
  have wv8235 := HI.t0 hI0
  rw [hv8235] at wv8235
  refine q_iald (Sh.arr hI8225.1 ka_233) 0 rfl (by decide) v8235 ((eA_c (hF8226.2.1 233 (by decide))).trans hv8235) ?_
  have bv8237 := q_bnd x8223
  have bv8238 := q_bnd v8235
  refine r_ics 21 rfl (fun c8236 => ?_) (fun c8236 => ?_)
  · have c8236_ : x8223.toInt ≥ v8235.toInt := en_i_ge_t c8236
    refine At.enter rfl ?_
    refine r_iconst 0 rfl ?_
    refine r_ireti ?_
    exact ⟨_, rfl, hI8225, hF8226, _, rfl, trivial⟩
  · have c8236_ : x8223.toInt < v8235.toInt := en_i_ge_f c8236
    refine At.enter rfl ?_
    refine r_iconst 0 rfl ?_
    refine r_istore_n _ rfl ?_
    refine r_iload_n (w_p1 (by decide) (Or.inr rfl) e8231) ?_
    refine r_istore_n _ rfl ?_
    refine r_iconst 0 rfl ?_
    refine r_istore _ rfl ?_
    refine Ar.fall 28 rfl ?_
    have z_8489 : (0 : Int32).toInt = 0 := rfl
    have z_8490 : (0 : Int32).toInt = 0 := rfl
    refine w_loopI (fun n_ l_ g_ => ∃ x8473 : Int32, ∃ x8474 : Int32, ∃ x8475 : Int32, n_ = 12 - x8475.toInt ∧ HI g_ ∧ Fr F_X11_choke_231 A_X11_choke_231 g0 g_ ∧ en_get 0 l_ = some (.ref 231) ∧ en_get 1 l_ = some (.int x8223) ∧ en_get 2 l_ = some (.int x8473) ∧ en_get 3 l_ = some (.int x8474) ∧ en_get 4 l_ = some (.int x8475) ∧ ((-1) ≤ x8474.toInt ∧ x8474.toInt ≤ 11) ∧ (0 ≤ x8475.toInt ∧ x8475.toInt ≤ 12)) ?_ (12 - 0) ⟨0, x8223, 0, by first | rfl | omega, hI8225, hF8226, (w_p1 (by decide) (Or.inr rfl) (w_p1 (by decide) (Or.inr rfl) (w_p1 (by decide) (Or.inr rfl) e8230))), (w_p1 (by decide) (Or.inr rfl) (w_p1 (by decide) (Or.inr rfl) (w_p1 (by decide) (Or.inr rfl) e8231))), (w_p1 (by decide) (Or.inr rfl) (w_p1 (by decide) (Or.inr rfl) (w_e1 _ _ _))), (w_p1 (by decide) (Or.inr rfl) (w_e1 _ _ _)), (w_e1 _ _ _), by omega, by decide⟩
    rintro n8480 l8479 g8476 ⟨x8473, x8474, x8475, hm8491, hI8477, hF8478, e8482, e8483, e8484, e8485, e8486, r8487, r8488⟩ ih8481
    refine At.enter rfl ?_
    refine r_iload e8486 ?_
    refine r_bipush 12 rfl ?_
    refine r_ics 35 rfl (fun c8492 => ?_) (fun c8492 => ?_)
    · have c8492_ : x8475.toInt ≥ 12 := en_i_ge_t c8492
      refine At.enter rfl ?_
      refine q_iinc e8483 (x8223.toInt + 1) rfl (by omega) (fun v8493 hv8493 => ?_)
      refine r_goto ?_
      exact ih8229 (12 - v8493.toInt) _ _ ⟨v8493, by first | rfl | omega, hI8477, hF8478, (w_p1 (by decide) (Or.inr rfl) e8482), (w_e1 _ _ _), by omega⟩ ⟨by omega, by omega⟩
    · have c8492_ : x8475.toInt < 12 := en_i_ge_f c8492
      refine At.enter rfl ?_
      refine r_iload_n e8485 ?_
      refine r_iconst (-1) rfl ?_
      refine r_ics 40 rfl (fun c8494 => ?_) (fun c8494 => ?_)
      · have c8494_ : x8474.toInt = (-1) := en_i_eq_t c8494
        refine At.enter rfl ?_
        refine q_iinc e8483 (x8223.toInt + 1) rfl (by omega) (fun v8495 hv8495 => ?_)
        refine r_goto ?_
        exact ih8229 (12 - v8495.toInt) _ _ ⟨v8495, by first | rfl | omega, hI8477, hF8478, (w_p1 (by decide) (Or.inr rfl) e8482), (w_e1 _ _ _), by omega⟩ ⟨by omega, by omega⟩
      · have c8494_ : x8474.toInt ≠ (-1) := en_i_eq_f c8494
        refine At.enter rfl ?_
        refine r_aload_n e8482 ?_
        refine r_iload_n e8485 ?_
        refine r_callV 45 rfl [.ref 231, .int x8474] [] (Nat.le_of_ble_eq_true rfl) rfl (T_X11_isStuck_231 _ hI8477 x8474 (by omega)) ?_
        rintro _ _ ⟨g8496, rfl, hI8497, hF8498, v8499, rfl, hr8500⟩
        refine At.sti ?_
        have hF8501 := Fr.tr hF8478 hF8498 rfl rfl
        refine At.enter rfl ?_
        refine r_ifs 48 rfl (fun c8502 => ?_) (fun c8502 => ?_)
        · have c8502_ : v8499.toInt = 0 := en_k_eq_t c8502
          refine At.enter rfl ?_
          refine q_iinc e8483 (x8223.toInt + 1) rfl (by omega) (fun v8503 hv8503 => ?_)
          refine r_goto ?_
          exact ih8229 (12 - v8503.toInt) _ _ ⟨v8503, by first | rfl | omega, hI8497, hF8501, (w_p1 (by decide) (Or.inr rfl) e8482), (w_e1 _ _ _), by omega⟩ ⟨by omega, by omega⟩
        · have c8502_ : v8499.toInt ≠ 0 := en_k_eq_f c8502
          refine At.enter rfl ?_
          refine r_iload_n e8484 ?_
          refine r_iconst 1 rfl ?_
          refine r_iload_n e8485 ?_
          refine q_ishlO (fun v8504 hv8504 => ?_)
          refine q_iorO (fun v8505 hv8505 => ?_)
          refine r_istore_n _ rfl ?_
          refine r_aload_n (w_p1 (by decide) (Or.inr rfl) e8482) ?_
          refine r_iload_n (w_p1 (by decide) (Or.inr rfl) e8485) ?_
          refine r_iconst 0 rfl ?_
          refine r_callV 60 rfl [.ref 231, .int x8474, .int 0] [] (Nat.le_of_ble_eq_true rfl) rfl (T_X11_nextOf0_231 _ hI8497 x8474 (by omega)) ?_
          rintro _ _ ⟨g8506, rfl, hI8507, hF8508, v8509, rfl, hr8510⟩
          refine At.sti ?_
          have hF8511 := Fr.tr hF8501 hF8508 rfl rfl
          have zv8512 : (0 : Int32).toInt = 0 := rfl
          rw [eA_c (((hF8498.2.1 233 (by decide)).trans (hF8478.2.1 233 (by decide))))] at hr8510
          rw [NMo.c (((hF8498.2.1 233 (by decide)).trans (hF8478.2.1 233 (by decide))))] at hr8510
          refine At.enter rfl ?_
          refine r_istore_n _ rfl ?_
          refine r_iload_n (w_e1 _ _ _) ?_
          refine r_iload_n (w_p1 (by decide) (Or.inr rfl) (w_p1 (by decide) (Or.inr rfl) e8483)) ?_
          refine r_ics 66 rfl (fun c8513 => ?_) (fun c8513 => ?_)
          · have c8513_ : v8509.toInt ≠ x8223.toInt := en_i_ne_t c8513
            refine At.enter rfl ?_
            refine q_iinc (w_p1 (by decide) (Or.inr rfl) (w_p1 (by decide) (Or.inr rfl) e8486)) (x8475.toInt + 1) rfl (by omega) (fun v8514 hv8514 => ?_)
            refine r_goto ?_
            have bv8515 := q_bnd v8505
            exact ih8481 (12 - v8514.toInt) _ _ ⟨v8505, v8509, v8514, by first | rfl | omega, hI8507, hF8511, (w_p1 (by decide) (Or.inr rfl) (w_p1 (by decide) (Or.inr rfl) (w_p1 (by decide) (Or.inr rfl) e8482))), (w_p1 (by decide) (Or.inr rfl) (w_p1 (by decide) (Or.inr rfl) (w_p1 (by decide) (Or.inr rfl) e8483))), (w_p1 (by decide) (Or.inr rfl) (w_p1 (by decide) (Or.inr rfl) (w_e1 _ _ _))), (w_p1 (by decide) (Or.inr rfl) (w_e1 _ _ _)), (w_e1 _ _ _), by omega, by omega⟩ ⟨by omega, by omega⟩
          · have c8513_ : v8509.toInt = x8223.toInt := en_i_ne_f c8513
            refine At.enter rfl ?_
            refine r_iload_n (w_p1 (by decide) (Or.inr rfl) (w_e1 _ _ _)) ?_
            refine r_ireti ?_
            exact ⟨_, rfl, hI8507, hF8511, _, rfl, trivial⟩

def F_X11_swapAt_231 : List (Nat × Nat) := []
def A_X11_swapAt_231 : List Nat := [246, 247]
set_option maxRecDepth 100000 in
set_option maxHeartbeats 4000000 in
theorem T_X11_swapAt_231 (d : Nat) {N : Nat} {g0 : List en_E} (hI0 : HI g0) (a1 : Int32) (h_a1 : 0 ≤ a1.toInt ∧ a1.toInt ≤ 11) (a2 : Int32) (h_a2 : 0 ≤ a2.toInt ∧ a2.toInt ≤ 11) : Ev (d + 1) 236 [.ref 231, .int a1, .int a2] (g0, N) (fun w h' => ∃ g', h' = (g', N) ∧ HI g' ∧ Fr F_X11_swapAt_231 A_X11_swapAt_231 g0 g' ∧ w = none) := by
  have hF0 : Fr F_X11_swapAt_231 A_X11_swapAt_231 g0 g0 := Fr.rf
  refine Ev.mk rfl rfl ⟨Nat.le_of_ble_eq_true rfl, Or.inr (q_rc hI0.1 kx_231 rfl)⟩ ?_
  show At _ none _ _ (0, [(0, .ref 231), (1, .int a1), (2, .int a2)], [], (_, _)) _
  refine At.enter rfl ?_
  refine r_aload_n rfl ?_
  refine q_getR (Sh.ref hI0.1 kx_231 rfl) ?_
  refine r_iload_n rfl ?_
  obtain ⟨v25, hv25⟩ : ∃ v, eA g0 246 a1.toInt = v := ⟨_, rfl⟩
  refine q_iald (Sh.arr hI0.1 ka_246) a1.toInt rfl (by omega) v25 hv25 ?_
  refine r_istore_n ([(3, .int v25), (0, .ref 231), (1, .int a1), (2, .int a2)]) rfl ?_
  refine r_aload_n rfl ?_
  refine q_getR (Sh.ref hI0.1 kx_231 rfl) ?_
  refine r_iload_n rfl ?_
  obtain ⟨v26, hv26⟩ : ∃ v, eA g0 247 a1.toInt = v := ⟨_, rfl⟩
  refine q_iald (Sh.arr hI0.1 ka_247) a1.toInt rfl (by omega) v26 hv26 ?_
  refine r_istore ([(4, .int v26), (3, .int v25), (0, .ref 231), (1, .int a1), (2, .int a2)]) rfl ?_
  refine r_aload_n rfl ?_
  refine q_getR (Sh.ref hI0.1 kx_231 rfl) ?_
  refine r_iload_n rfl ?_
  refine r_aload_n rfl ?_
  refine q_getR (Sh.ref hI0.1 kx_231 rfl) ?_
  refine r_iload_n rfl ?_
  obtain ⟨v27, hv27⟩ : ∃ v, eA g0 246 a2.toInt = v := ⟨_, rfl⟩
  refine q_iald (Sh.arr hI0.1 ka_246) a2.toInt rfl (by omega) v27 hv27 ?_
  refine q_iast (Sh.arr hI0.1 ka_246) (a1.toInt) rfl (by omega) ?_
  have hI28 := HI.wA0 hI0 ka_246 (p := 246) rfl rfl (a1.toInt) (v27)
  have hF29 := Fr.wA (p := 246) (j := a1.toInt) (v := v27) hF0 rfl
  refine r_aload_n rfl ?_
  refine q_getR (Sh.ref hI28.1 kx_231 rfl) ?_
  refine r_iload_n rfl ?_
  refine r_aload_n rfl ?_
  refine q_getR (Sh.ref hI28.1 kx_231 rfl) ?_
  refine r_iload_n rfl ?_
  obtain ⟨v30, hv30⟩ : ∃ v, eA g0 247 a2.toInt = v := ⟨_, rfl⟩
  refine q_iald (Sh.arr hI28.1 ka_247) a2.toInt rfl (by omega) v30 ((eA_c (gA_sA_ne (by decide))).trans hv30) ?_
  refine q_iast (Sh.arr hI28.1 ka_247) (a1.toInt) rfl (by omega) ?_
  have hI31 := HI.wA0 hI28 ka_247 (p := 247) rfl rfl (a1.toInt) (v30)
  have hF32 := Fr.wA (p := 247) (j := a1.toInt) (v := v30) hF29 rfl
  refine r_aload_n rfl ?_
  refine q_getR (Sh.ref hI31.1 kx_231 rfl) ?_
  refine r_iload_n rfl ?_
  refine r_iload_n rfl ?_
  refine q_iast (Sh.arr hI31.1 ka_246) (a2.toInt) rfl (by omega) ?_
  have hI33 := HI.wA0 hI31 ka_246 (p := 246) rfl rfl (a2.toInt) (v25)
  have hF34 := Fr.wA (p := 246) (j := a2.toInt) (v := v25) hF32 rfl
  refine r_aload_n rfl ?_
  refine q_getR (Sh.ref hI33.1 kx_231 rfl) ?_
  refine r_iload_n rfl ?_
  refine r_iload rfl ?_
  refine q_iast (Sh.arr hI33.1 ka_247) (a2.toInt) rfl (by omega) ?_
  have hI35 := HI.wA0 hI33 ka_247 (p := 247) rfl rfl (a2.toInt) (v26)
  have hF36 := Fr.wA (p := 247) (j := a2.toInt) (v := v26) hF34 rfl
  refine r_vret ?_
  exact ⟨_, rfl, hI35, hF36, rfl⟩

def F_X11_allCome_231 : List (Nat × Nat) := [(231, 27), (231, 30), (231, 31), (231, 32)]
def A_X11_allCome_231 : List Nat := [250, 251, 252, 253, 254, 255, 256]
set_option maxRecDepth 100000 in
set_option maxHeartbeats 4000000 in
theorem T_X11_allCome_231 (d : Nat) {N : Nat} {g0 : List en_E} (hI0 : HI g0) (a1 : Int32) (a2 : Int32) : Ev (d + 8) 237 [.ref 231, .int a1, .int a2] (g0, N) (fun w h' => ∃ g', h' = (g', N) ∧ HI g' ∧ Fr F_X11_allCome_231 A_X11_allCome_231 g0 g' ∧ ∃ r : Int32, w = some (.int r) ∧ (0 ≤ r.toInt ∧ r.toInt ≤ 1)) := by
  have hF0 : Fr F_X11_allCome_231 A_X11_allCome_231 g0 g0 := Fr.rf
  refine Ev.mk rfl rfl ⟨Nat.le_of_ble_eq_true rfl, Or.inr (q_rc hI0.1 kx_231 rfl)⟩ ?_
  show At _ none _ _ (0, [(0, .ref 231), (1, .int a1), (2, .int a2)], [], (_, _)) _
  refine At.enter rfl ?_
  refine r_aload_n rfl ?_
  refine r_callV 4 rfl [.ref 231] [] (Nat.le_of_ble_eq_true rfl) rfl (T_X11_run_231 _ hI0) ?_
  rintro _ _ ⟨g377, rfl, hI378, hF379, rfl⟩
  refine At.stn ?_
  have hF382 := Fr.tr hF0 hF379 rfl rfl
  refine At.enter rfl ?_
  refine r_iconst 1 rfl ?_
  refine r_istore_n ([(3, .int 1), (0, .ref 231), (1, .int a1), (2, .int a2)]) rfl ?_
  refine r_iconst 0 rfl ?_
  refine r_istore ([(4, .int 0), (3, .int 1), (0, .ref 231), (1, .int a1), (2, .int a2)]) rfl ?_
  refine Ar.fall 9 rfl ?_
  have z_544 : (1 : Int32).toInt = 1 := rfl
  have z_545 : (0 : Int32).toInt = 0 := rfl
  refine w_loopI (fun n_ l_ g_ => ∃ x529 : Int32, ∃ x530 : Int32, n_ = 8 - x530.toInt ∧ HI g_ ∧ Fr F_X11_allCome_231 A_X11_allCome_231 g0 g_ ∧ en_get 0 l_ = some (.ref 231) ∧ en_get 1 l_ = some (.int a1) ∧ en_get 2 l_ = some (.int a2) ∧ en_get 3 l_ = some (.int x529) ∧ en_get 4 l_ = some (.int x530) ∧ (0 ≤ x529.toInt ∧ x529.toInt ≤ 1) ∧ (0 ≤ x530.toInt ∧ x530.toInt ≤ 8)) ?_ (8 - 0) ⟨1, 0, by first | rfl | omega, hI378, hF382, rfl, rfl, rfl, rfl, rfl, by decide, by decide⟩
  rintro n535 l534 g531 ⟨x529, x530, hm546, hI532, hF533, e537, e538, e539, e540, e541, r542, r543⟩ ih536
  refine At.enter rfl ?_
  refine r_iload e541 ?_
  refine r_aload_n e537 ?_
  refine q_getR (Sh.ref hI532.1 kx_231 rfl) ?_
  refine r_iconst 1 rfl ?_
  obtain ⟨v547, hv547⟩ : ∃ v, eA g0 233 1 = v := ⟨_, rfl⟩
  have tv547 := congrArg Int32.toInt hv547
  have wv547 := HI.t1 hI0
  rw [hv547] at wv547
  refine q_iald (Sh.arr hI532.1 ka_233) 1 rfl (by decide) v547 ((eA_c (hF533.2.1 233 (by decide))).trans hv547) ?_
  have bv549 := q_bnd x530
  have bv550 := q_bnd v547
  refine r_ics 20 rfl (fun c548 => ?_) (fun c548 => ?_)
  · have c548_ : x530.toInt ≥ v547.toInt := en_i_ge_t c548
    refine At.enter rfl ?_
    refine r_iload_n e540 ?_
    refine r_iretz (q_b01 (by omega)) ?_
    exact ⟨_, rfl, hI532, hF533, _, rfl, by omega⟩
  · have c548_ : x530.toInt < v547.toInt := en_i_ge_f c548
    refine At.enter rfl ?_
    refine r_iload_n e540 ?_
    refine r_ifs 24 rfl (fun c551 => ?_) (fun c551 => ?_)
    · have c551_ : x529.toInt = 0 := en_k_eq_t c551
      refine At.enter rfl ?_
      refine r_iconst 0 rfl ?_
      refine Ar.fall 60 rfl ?_
      refine At.enter rfl ?_
      refine r_istore_n _ rfl ?_
      refine q_iinc (w_p1 (by decide) (Or.inr rfl) e541) (x530.toInt + 1) rfl (by omega) (fun v552 hv552 => ?_)
      refine r_goto ?_
      exact ih536 (8 - v552.toInt) _ _ ⟨0, v552, by first | rfl | omega, hI532, hF533, (w_p1 (by decide) (Or.inr rfl) (w_p1 (by decide) (Or.inr rfl) e537)), (w_p1 (by decide) (Or.inr rfl) (w_p1 (by decide) (Or.inr rfl) e538)), (w_p1 (by decide) (Or.inr rfl) (w_p1 (by decide) (Or.inr rfl) e539)), (w_p1 (by decide) (Or.inr rfl) (w_e1 _ _ _)), (w_e1 _ _ _), by decide, by omega⟩ ⟨by omega, by omega⟩
    · have c551_ : x529.toInt ≠ 0 := en_k_eq_f c551
      refine At.enter rfl ?_
      refine r_iload_n e538 ?_
      refine r_iload e541 ?_
      refine q_inlS 30 rfl [.int a1, .int x530] [] (Nat.le_of_ble_eq_true rfl) rfl ?_
      refine Ev.mk rfl rfl ⟨Nat.le_of_ble_eq_true rfl, Or.inl rfl⟩ ?_
      show At _ none _ _ (0, [(0, .int a1), (1, .int x530)], [], (_, _)) _
      refine At.enter rfl ?_
      refine r_iload_n rfl ?_
      refine r_iload_n rfl ?_
      refine q_ishrO (fun v553 hv553 => ?_)
      refine r_iconst 1 rfl ?_
      refine q_iandO (fun v554 hv554 => ?_)
      refine r_iconst 1 rfl ?_
      refine r_ics 9 rfl (fun c555 => ?_) (fun c555 => ?_)
      · have c555_ : v554.toInt ≠ 1 := en_i_ne_t c555
        refine At.enter rfl ?_
        refine r_iconst 0 rfl ?_
        refine Ar.fall 14 rfl ?_
        refine At.enter rfl ?_
        refine q_iretz (by decide) ?_
        refine At.enter rfl ?_
        refine r_ift (by decide) ?_
        refine At.enter rfl ?_
        refine r_iconst 1 rfl ?_
        refine r_goto ?_
        refine At.enter rfl ?_
        refine r_istore_n _ rfl ?_
        refine q_iinc (w_p1 (by decide) (Or.inr rfl) e541) (x530.toInt + 1) rfl (by omega) (fun v556 hv556 => ?_)
        refine r_goto ?_
        exact ih536 (8 - v556.toInt) _ _ ⟨1, v556, by first | rfl | omega, hI532, hF533, (w_p1 (by decide) (Or.inr rfl) (w_p1 (by decide) (Or.inr rfl) e537)), (w_p1 (by decide) (Or.inr rfl) (w_p1 (by decide) (Or.inr rfl) e538)), (w_p1 (by decide) (Or.inr rfl) (w_p1 (by decide) (Or.inr rfl) e539)), (w_p1 (by decide) (Or.inr rfl) (w_e1 _ _ _)), (w_e1 _ _ _), by decide, by omega⟩ ⟨by omega, by omega⟩
      · have c555_ : v554.toInt = 1 := en_i_ne_f c555
        refine At.enter rfl ?_
        refine r_iconst 1 rfl ?_
        refine r_goto ?_
        refine At.enter rfl ?_
        refine q_iretz (by decide) ?_
        refine At.enter rfl ?_
        refine r_iff 33 rfl (by decide) ?_
        refine At.enter rfl ?_
        refine r_aload_n e537 ?_
        refine q_getR (Sh.ref hI532.1 kx_231 rfl) ?_
        refine r_iload e541 ?_
        obtain ⟨v557, hv557⟩ : ∃ v, eA g531 253 x530.toInt = v := ⟨_, rfl⟩
        refine q_iald (Sh.arr hI532.1 ka_253) x530.toInt rfl (by omega) v557 hv557 ?_
        refine r_iconst (-1) rfl ?_
        refine r_ics 44 rfl (fun c558 => ?_) (fun c558 => ?_)
        · have c558_ : v557.toInt = (-1) := en_i_eq_t c558
          refine At.enter rfl ?_
          refine r_iconst 0 rfl ?_
          refine Ar.fall 60 rfl ?_
          refine At.enter rfl ?_
          refine r_istore_n _ rfl ?_
          refine q_iinc (w_p1 (by decide) (Or.inr rfl) e541) (x530.toInt + 1) rfl (by omega) (fun v559 hv559 => ?_)
          refine r_goto ?_
          exact ih536 (8 - v559.toInt) _ _ ⟨0, v559, by first | rfl | omega, hI532, hF533, (w_p1 (by decide) (Or.inr rfl) (w_p1 (by decide) (Or.inr rfl) e537)), (w_p1 (by decide) (Or.inr rfl) (w_p1 (by decide) (Or.inr rfl) e538)), (w_p1 (by decide) (Or.inr rfl) (w_p1 (by decide) (Or.inr rfl) e539)), (w_p1 (by decide) (Or.inr rfl) (w_e1 _ _ _)), (w_e1 _ _ _), by decide, by omega⟩ ⟨by omega, by omega⟩
        · have c558_ : v557.toInt ≠ (-1) := en_i_eq_f c558
          refine At.enter rfl ?_
          refine r_aload_n e537 ?_
          refine q_getR (Sh.ref hI532.1 kx_231 rfl) ?_
          refine r_iload e541 ?_
          refine q_iald (Sh.arr hI532.1 ka_253) x530.toInt rfl (by omega) v557 hv557 ?_
          refine r_iload_n e539 ?_
          have bv561 := q_bnd v557
          have bv562 := q_bnd a2
          refine r_ics 55 rfl (fun c560 => ?_) (fun c560 => ?_)
          · have c560_ : v557.toInt > a2.toInt := en_i_gt_t c560
            refine At.enter rfl ?_
            refine r_iconst 0 rfl ?_
            refine Ar.fall 60 rfl ?_
            refine At.enter rfl ?_
            refine r_istore_n _ rfl ?_
            refine q_iinc (w_p1 (by decide) (Or.inr rfl) e541) (x530.toInt + 1) rfl (by omega) (fun v563 hv563 => ?_)
            refine r_goto ?_
            exact ih536 (8 - v563.toInt) _ _ ⟨0, v563, by first | rfl | omega, hI532, hF533, (w_p1 (by decide) (Or.inr rfl) (w_p1 (by decide) (Or.inr rfl) e537)), (w_p1 (by decide) (Or.inr rfl) (w_p1 (by decide) (Or.inr rfl) e538)), (w_p1 (by decide) (Or.inr rfl) (w_p1 (by decide) (Or.inr rfl) e539)), (w_p1 (by decide) (Or.inr rfl) (w_e1 _ _ _)), (w_e1 _ _ _), by decide, by omega⟩ ⟨by omega, by omega⟩
          · have c560_ : v557.toInt ≤ a2.toInt := en_i_gt_f c560
            refine At.enter rfl ?_
            refine r_iconst 1 rfl ?_
            refine r_goto ?_
            refine At.enter rfl ?_
            refine r_istore_n _ rfl ?_
            refine q_iinc (w_p1 (by decide) (Or.inr rfl) e541) (x530.toInt + 1) rfl (by omega) (fun v564 hv564 => ?_)
            refine r_goto ?_
            exact ih536 (8 - v564.toInt) _ _ ⟨1, v564, by first | rfl | omega, hI532, hF533, (w_p1 (by decide) (Or.inr rfl) (w_p1 (by decide) (Or.inr rfl) e537)), (w_p1 (by decide) (Or.inr rfl) (w_p1 (by decide) (Or.inr rfl) e538)), (w_p1 (by decide) (Or.inr rfl) (w_p1 (by decide) (Or.inr rfl) e539)), (w_p1 (by decide) (Or.inr rfl) (w_e1 _ _ _)), (w_e1 _ _ _), by decide, by omega⟩ ⟨by omega, by omega⟩

def F_X11_findSwaps_231 : List (Nat × Nat) := [(231, 27), (231, 30), (231, 31), (231, 32), (231, 36), (231, 45), (231, 46)]
def A_X11_findSwaps_231 : List Nat := [246, 247, 248, 250, 251, 252, 253, 254, 255, 256]
set_option maxRecDepth 100000 in
set_option maxHeartbeats 4000000 in
theorem T_X11_findSwaps_231 (d : Nat) {N : Nat} {g0 : List en_E} (hI0 : HI g0) (a1 : Int32) (a2 : Int32) (h_a2 : 0 ≤ a2.toInt ∧ a2.toInt ≤ 2) : Ev (d + 9) 238 [.ref 231, .int a1, .int a2] (g0, N) (fun w h' => ∃ g', h' = (g', N) ∧ HI g' ∧ Fr F_X11_findSwaps_231 A_X11_findSwaps_231 g0 g' ∧ w = none) := by
  have hF0 : Fr F_X11_findSwaps_231 A_X11_findSwaps_231 g0 g0 := Fr.rf
  refine Ev.mk rfl rfl ⟨Nat.le_of_ble_eq_true rfl, Or.inr (q_rc hI0.1 kx_231 rfl)⟩ ?_
  show At _ none _ _ (0, [(0, .ref 231), (1, .int a1), (2, .int a2)], [], (_, _)) _
  refine At.enter rfl ?_
  refine r_aload_n rfl ?_
  refine r_iconst 0 rfl ?_
  refine q_putI (Sh.int hI0.1 kx_231 rfl) rfl ?_
  have hI3917 := HI.wI0 hI0 kx_231 rfl (p := 231) (b := 45) (v := 0) rfl
  have hF3918 := Fr.wI (p := 231) (b := 45) (v := 0) hF0 rfl
  refine r_aload_n rfl ?_
  refine r_iconst (-1) rfl ?_
  refine q_putI (Sh.int hI3917.1 kx_231 rfl) rfl ?_
  have hI3919 := HI.wI0 hI3917 kx_231 rfl (p := 231) (b := 46) (v := (-1)) rfl
  have hF3920 := Fr.wI (p := 231) (b := 46) (v := (-1)) hF3918 rfl
  refine r_iload_n rfl ?_
  refine r_ifs 14 rfl (fun c3921 => ?_) (fun c3921 => ?_)
  · have c3921_ : a2.toInt ≠ 0 := en_k_ne_t c3921
    refine At.enter rfl ?_
    refine r_iload_n rfl ?_
    refine r_iconst 1 rfl ?_
    refine r_ics 23 rfl (fun c3922 => ?_) (fun c3922 => ?_)
    · have c3922_ : a2.toInt ≠ 1 := en_i_ne_t c3922
      refine At.enter rfl ?_
      refine r_sipush 20736 rfl ?_
      refine Ar.fall 32 rfl ?_
      refine At.enter rfl ?_
      refine r_istore_n ([(3, .int 20736), (0, .ref 231), (1, .int a1), (2, .int a2)]) rfl ?_
      refine r_iconst 0 rfl ?_
      refine r_istore ([(4, .int 0), (3, .int 20736), (0, .ref 231), (1, .int a1), (2, .int a2)]) rfl ?_
      refine Ar.fall 36 rfl ?_
      have z_4628 : (0 : Int32).toInt = 0 := rfl
      refine w_loopI (fun n_ l_ g_ => ∃ x4615 : Int32, n_ = 20736 - x4615.toInt ∧ HI g_ ∧ Fr F_X11_findSwaps_231 A_X11_findSwaps_231 g0 g_ ∧ en_get 0 l_ = some (.ref 231) ∧ en_get 1 l_ = some (.int a1) ∧ en_get 2 l_ = some (.int a2) ∧ en_get 3 l_ = some (.int 20736) ∧ en_get 4 l_ = some (.int x4615) ∧ (0 ≤ x4615.toInt ∧ x4615.toInt ≤ 20736)) ?_ (20736 - 0) ⟨0, by first | rfl | omega, hI3919, hF3920, rfl, rfl, rfl, rfl, rfl, by decide⟩
      rintro n4620 l4619 g4616 ⟨x4615, hm4629, hI4617, hF4618, e4622, e4623, e4624, e4625, e4626, r4627⟩ ih4621
      refine At.enter rfl ?_
      refine r_iload e4626 ?_
      refine r_iload_n e4625 ?_
      refine r_ics 42 rfl (fun c4630 => ?_) (fun c4630 => ?_)
      · have c4630_ : x4615.toInt ≥ 20736 := en_i_ge_t c4630
        refine At.enter rfl ?_
        refine r_vret ?_
        exact ⟨_, rfl, hI4617, hF4618, rfl⟩
      · have c4630_ : x4615.toInt < 20736 := en_i_ge_f c4630
        refine At.enter rfl ?_
        refine r_iload e4626 ?_
        refine r_iload_n e4624 ?_
        refine r_iconst 2 rfl ?_
        refine r_ics 49 rfl (fun c4631 => ?_) (fun c4631 => ?_)
        · have c4631_ : a2.toInt ≠ 2 := en_i_ne_t c4631
          exfalso; omega
        · have c4631_ : a2.toInt = 2 := en_i_ne_f c4631
          refine At.enter rfl ?_
          refine r_sipush 1728 rfl ?_
          refine r_goto ?_
          refine At.enter rfl ?_
          refine q_idiv 1728 rfl (by decide) (by omega) (fun v4632 hv4632 => ?_)
          refine r_istore _ rfl ?_
          refine r_iload (w_p1 (by decide) (Or.inr rfl) e4626) ?_
          refine r_iload_n (w_p1 (by decide) (Or.inr rfl) e4624) ?_
          refine r_iconst 2 rfl ?_
          refine r_ics 67 rfl (fun c4633 => ?_) (fun c4633 => ?_)
          · have c4633_ : a2.toInt ≠ 2 := en_i_ne_t c4633
            exfalso; omega
          · have c4633_ : a2.toInt = 2 := en_i_ne_f c4633
            refine At.enter rfl ?_
            refine r_sipush 144 rfl ?_
            refine r_goto ?_
            refine At.enter rfl ?_
            refine q_idiv 144 rfl (by decide) (by omega) (fun v4634 hv4634 => ?_)
            refine r_bipush 12 rfl ?_
            refine q_irem 12 rfl (by decide) (by omega) (fun v4635 hv4635 => ?_)
            refine r_istore _ rfl ?_
            refine r_iload (w_p1 (by decide) (Or.inr rfl) (w_p1 (by decide) (Or.inr rfl) e4626)) ?_
            refine r_bipush 12 rfl ?_
            refine q_idiv 12 rfl (by decide) (by omega) (fun v4636 hv4636 => ?_)
            refine r_bipush 12 rfl ?_
            refine q_irem 12 rfl (by decide) (by omega) (fun v4637 hv4637 => ?_)
            refine r_istore _ rfl ?_
            refine r_iload (w_p1 (by decide) (Or.inr rfl) (w_p1 (by decide) (Or.inr rfl) (w_p1 (by decide) (Or.inr rfl) e4626))) ?_
            refine r_bipush 12 rfl ?_
            refine q_irem 12 rfl (by decide) (by omega) (fun v4638 hv4638 => ?_)
            refine r_istore _ rfl ?_
            refine r_iload_n (w_p1 (by decide) (Or.inr rfl) (w_p1 (by decide) (Or.inr rfl) (w_p1 (by decide) (Or.inr rfl) (w_p1 (by decide) (Or.inr rfl) e4624)))) ?_
            refine r_ifs 101 rfl (fun c4639 => ?_) (fun c4639 => ?_)
            · have c4639_ : a2.toInt = 0 := en_k_eq_t c4639
              exfalso; omega
            · have c4639_ : a2.toInt ≠ 0 := en_k_eq_f c4639
              refine At.enter rfl ?_
              refine r_iload (w_p1 (by decide) (Or.inr rfl) (w_p1 (by decide) (Or.inr rfl) (w_p1 (by decide) (Or.inr rfl) (w_e1 _ _ _)))) ?_
              refine r_iload (w_p1 (by decide) (Or.inr rfl) (w_p1 (by decide) (Or.inr rfl) (w_e1 _ _ _))) ?_
              have bv4641 := q_bnd v4632
              have bv4642 := q_bnd v4635
              refine r_ics 108 rfl (fun c4640 => ?_) (fun c4640 => ?_)
              · have c4640_ : v4632.toInt ≥ v4635.toInt := en_i_ge_t c4640
                refine At.enter rfl ?_
                refine r_iconst 0 rfl ?_
                refine Ar.fall 122 rfl ?_
                refine At.enter rfl ?_
                refine r_istore _ rfl ?_
                refine r_iload (w_e1 _ _ _) ?_
                refine r_ift (by decide) ?_
                refine At.enter rfl ?_
                refine r_iconst 0 rfl ?_
                refine Ar.fall 155 rfl ?_
                refine At.enter rfl ?_
                refine r_istore _ rfl ?_
                refine r_iload (w_e1 _ _ _) ?_
                refine r_ift (by decide) ?_
                refine At.enter rfl ?_
                refine q_iinc (w_p1 (by decide) (Or.inr rfl) (w_p1 (by decide) (Or.inr rfl) (w_p1 (by decide) (Or.inr rfl) (w_p1 (by decide) (Or.inr rfl) (w_p1 (by decide) (Or.inr rfl) (w_p1 (by decide) (Or.inr rfl) e4626)))))) (x4615.toInt + 1) rfl (by omega) (fun v4643 hv4643 => ?_)
                refine r_goto ?_
                exact ih4621 (20736 - v4643.toInt) _ _ ⟨v4643, by first | rfl | omega, hI4617, hF4618, (w_p1 (by decide) (Or.inr rfl) (w_p1 (by decide) (Or.inr rfl) (w_p1 (by decide) (Or.inr rfl) (w_p1 (by decide) (Or.inr rfl) (w_p1 (by decide) (Or.inr rfl) (w_p1 (by decide) (Or.inr rfl) (w_p1 (by decide) (Or.inr rfl) e4622))))))), (w_p1 (by decide) (Or.inr rfl) (w_p1 (by decide) (Or.inr rfl) (w_p1 (by decide) (Or.inr rfl) (w_p1 (by decide) (Or.inr rfl) (w_p1 (by decide) (Or.inr rfl) (w_p1 (by decide) (Or.inr rfl) (w_p1 (by decide) (Or.inr rfl) e4623))))))), (w_p1 (by decide) (Or.inr rfl) (w_p1 (by decide) (Or.inr rfl) (w_p1 (by decide) (Or.inr rfl) (w_p1 (by decide) (Or.inr rfl) (w_p1 (by decide) (Or.inr rfl) (w_p1 (by decide) (Or.inr rfl) (w_p1 (by decide) (Or.inr rfl) e4624))))))), (w_p1 (by decide) (Or.inr rfl) (w_p1 (by decide) (Or.inr rfl) (w_p1 (by decide) (Or.inr rfl) (w_p1 (by decide) (Or.inr rfl) (w_p1 (by decide) (Or.inr rfl) (w_p1 (by decide) (Or.inr rfl) (w_p1 (by decide) (Or.inr rfl) e4625))))))), (w_e1 _ _ _), by omega⟩ ⟨by omega, by omega⟩
              · have c4640_ : v4632.toInt < v4635.toInt := en_i_ge_f c4640
                refine At.enter rfl ?_
                refine r_aload_n (w_p1 (by decide) (Or.inr rfl) (w_p1 (by decide) (Or.inr rfl) (w_p1 (by decide) (Or.inr rfl) (w_p1 (by decide) (Or.inr rfl) e4622)))) ?_
                refine r_iload (w_p1 (by decide) (Or.inr rfl) (w_p1 (by decide) (Or.inr rfl) (w_e1 _ _ _))) ?_
                refine q_inlV 114 rfl [.ref 231, .int v4635] [] (Nat.le_of_ble_eq_true rfl) rfl ?_
                refine Ev.mk rfl rfl ⟨Nat.le_of_ble_eq_true rfl, Or.inr (q_rc hI4617.1 kx_231 rfl)⟩ ?_
                show At _ none _ _ (0, [(0, .ref 231), (1, .int v4635)], [], (_, _)) _
                refine At.enter rfl ?_
                refine r_iload_n rfl ?_
                refine q_i2l (fun v4644 hv4644 => ?_)
                refine r_lconst 0 rfl ?_
                refine r_aload_n rfl ?_
                refine q_getR (Sh.ref hI4617.1 kx_231 rfl) ?_
                refine r_iconst 0 rfl ?_
                obtain ⟨v4645, hv4645⟩ : ∃ v, eA g0 233 0 = v := ⟨_, rfl⟩
                have tv4645 := congrArg Int32.toInt hv4645
                have wv4645 := HI.t0 hI0
                rw [hv4645] at wv4645
                refine q_iald (Sh.arr hI4617.1 ka_233) 0 rfl (by decide) v4645 ((eA_c (hF4618.2.1 233 (by decide))).trans hv4645) ?_
                refine q_i2l (fun v4646 hv4646 => ?_)
                refine r_lconst 1 rfl ?_
                refine q_lsub (v4646.toInt - 1) rfl (by omega) (fun v4647 hv4647 => ?_)
                refine q_inlS 15 rfl [.long v4644, .long 0, .long v4647] [] (Nat.le_of_ble_eq_true rfl) rfl ?_
                refine Ev.mk rfl rfl ⟨Nat.le_of_ble_eq_true rfl, Or.inl rfl⟩ ?_
                show At _ none _ _ (0, [(0, .long v4644), (2, .long 0), (4, .long v4647)], [], (_, _)) _
                refine At.enter rfl ?_
                refine r_lload_n rfl ?_
                refine r_lload_n rfl ?_
                refine r_lcmp _ rfl ?_
                refine r_ifs 6 rfl (fun c4648 => ?_) (fun c4648 => ?_)
                · have c4648_ : v4644.toInt < 0 := en_j_lt_t c4648
                  exfalso; omega
                · have c4648_ : v4644.toInt ≥ 0 := en_j_lt_f c4648
                  refine At.enter rfl ?_
                  refine r_lload_n rfl ?_
                  refine r_lload rfl ?_
                  refine r_lcmp _ rfl ?_
                  refine r_ifs 13 rfl (fun c4649 => ?_) (fun c4649 => ?_)
                  · have c4649_ : v4644.toInt > v4647.toInt := en_j_gt_t c4649
                    refine At.enter rfl ?_
                    refine r_iconst 0 rfl ?_
                    refine Ar.fall 18 rfl ?_
                    refine At.enter rfl ?_
                    refine q_iretz (by decide) ?_
                    refine At.enter rfl ?_
                    refine q_iretz (by decide) ?_
                    refine At.enter rfl ?_
                    refine r_ift (by decide) ?_
                    refine At.enter rfl ?_
                    refine r_iconst 0 rfl ?_
                    refine Ar.fall 122 rfl ?_
                    refine At.enter rfl ?_
                    refine r_istore _ rfl ?_
                    refine r_iload (w_e1 _ _ _) ?_
                    refine r_ift (by decide) ?_
                    refine At.enter rfl ?_
                    refine r_iconst 0 rfl ?_
                    refine Ar.fall 155 rfl ?_
                    refine At.enter rfl ?_
                    refine r_istore _ rfl ?_
                    refine r_iload (w_e1 _ _ _) ?_
                    refine r_ift (by decide) ?_
                    refine At.enter rfl ?_
                    refine q_iinc (w_p1 (by decide) (Or.inr rfl) (w_p1 (by decide) (Or.inr rfl) (w_p1 (by decide) (Or.inr rfl) (w_p1 (by decide) (Or.inr rfl) (w_p1 (by decide) (Or.inr rfl) (w_p1 (by decide) (Or.inr rfl) e4626)))))) (x4615.toInt + 1) rfl (by omega) (fun v4650 hv4650 => ?_)
                    refine r_goto ?_
                    exact ih4621 (20736 - v4650.toInt) _ _ ⟨v4650, by first | rfl | omega, hI4617, hF4618, (w_p1 (by decide) (Or.inr rfl) (w_p1 (by decide) (Or.inr rfl) (w_p1 (by decide) (Or.inr rfl) (w_p1 (by decide) (Or.inr rfl) (w_p1 (by decide) (Or.inr rfl) (w_p1 (by decide) (Or.inr rfl) (w_p1 (by decide) (Or.inr rfl) e4622))))))), (w_p1 (by decide) (Or.inr rfl) (w_p1 (by decide) (Or.inr rfl) (w_p1 (by decide) (Or.inr rfl) (w_p1 (by decide) (Or.inr rfl) (w_p1 (by decide) (Or.inr rfl) (w_p1 (by decide) (Or.inr rfl) (w_p1 (by decide) (Or.inr rfl) e4623))))))), (w_p1 (by decide) (Or.inr rfl) (w_p1 (by decide) (Or.inr rfl) (w_p1 (by decide) (Or.inr rfl) (w_p1 (by decide) (Or.inr rfl) (w_p1 (by decide) (Or.inr rfl) (w_p1 (by decide) (Or.inr rfl) (w_p1 (by decide) (Or.inr rfl) e4624))))))), (w_p1 (by decide) (Or.inr rfl) (w_p1 (by decide) (Or.inr rfl) (w_p1 (by decide) (Or.inr rfl) (w_p1 (by decide) (Or.inr rfl) (w_p1 (by decide) (Or.inr rfl) (w_p1 (by decide) (Or.inr rfl) (w_p1 (by decide) (Or.inr rfl) e4625))))))), (w_e1 _ _ _), by omega⟩ ⟨by omega, by omega⟩
                  · have c4649_ : v4644.toInt ≤ v4647.toInt := en_j_gt_f c4649
                    refine At.enter rfl ?_
                    refine r_iconst 1 rfl ?_
                    refine r_goto ?_
                    refine At.enter rfl ?_
                    refine q_iretz (by decide) ?_
                    refine At.enter rfl ?_
                    refine q_iretz (by decide) ?_
                    refine At.enter rfl ?_
                    refine r_iff 117 rfl (by decide) ?_
                    refine At.enter rfl ?_
                    refine r_iconst 1 rfl ?_
                    refine r_goto ?_
                    refine At.enter rfl ?_
                    refine r_istore _ rfl ?_
                    refine r_iload (w_e1 _ _ _) ?_
                    refine r_iff 129 rfl (by decide) ?_
                    refine At.enter rfl ?_
                    refine r_iload_n (w_p1 (by decide) (Or.inr rfl) (w_p1 (by decide) (Or.inr rfl) (w_p1 (by decide) (Or.inr rfl) (w_p1 (by decide) (Or.inr rfl) (w_p1 (by decide) (Or.inr rfl) e4624))))) ?_
                    refine r_iconst 2 rfl ?_
                    refine r_ics 134 rfl (fun c4651 => ?_) (fun c4651 => ?_)
                    · have c4651_ : a2.toInt < 2 := en_i_lt_t c4651
                      exfalso; omega
                    · have c4651_ : a2.toInt ≥ 2 := en_i_lt_f c4651
                      refine At.enter rfl ?_
                      refine r_iload (w_p1 (by decide) (Or.inr rfl) (w_p1 (by decide) (Or.inr rfl) (w_e1 _ _ _))) ?_
                      refine r_iload (w_p1 (by decide) (Or.inr rfl) (w_e1 _ _ _)) ?_
                      have bv4653 := q_bnd v4637
                      have bv4654 := q_bnd v4638
                      refine r_ics 141 rfl (fun c4652 => ?_) (fun c4652 => ?_)
                      · have c4652_ : v4637.toInt ≥ v4638.toInt := en_i_ge_t c4652
                        refine At.enter rfl ?_
                        refine r_iconst 0 rfl ?_
                        refine Ar.fall 155 rfl ?_
                        refine At.enter rfl ?_
                        refine r_istore _ rfl ?_
                        refine r_iload (w_e1 _ _ _) ?_
                        refine r_ift (by decide) ?_
                        refine At.enter rfl ?_
                        refine q_iinc (w_p1 (by decide) (Or.inr rfl) (w_p1 (by decide) (Or.inr rfl) (w_p1 (by decide) (Or.inr rfl) (w_p1 (by decide) (Or.inr rfl) (w_p1 (by decide) (Or.inr rfl) (w_p1 (by decide) (Or.inr rfl) e4626)))))) (x4615.toInt + 1) rfl (by omega) (fun v4655 hv4655 => ?_)
                        refine r_goto ?_
                        exact ih4621 (20736 - v4655.toInt) _ _ ⟨v4655, by first | rfl | omega, hI4617, hF4618, (w_p1 (by decide) (Or.inr rfl) (w_p1 (by decide) (Or.inr rfl) (w_p1 (by decide) (Or.inr rfl) (w_p1 (by decide) (Or.inr rfl) (w_p1 (by decide) (Or.inr rfl) (w_p1 (by decide) (Or.inr rfl) (w_p1 (by decide) (Or.inr rfl) e4622))))))), (w_p1 (by decide) (Or.inr rfl) (w_p1 (by decide) (Or.inr rfl) (w_p1 (by decide) (Or.inr rfl) (w_p1 (by decide) (Or.inr rfl) (w_p1 (by decide) (Or.inr rfl) (w_p1 (by decide) (Or.inr rfl) (w_p1 (by decide) (Or.inr rfl) e4623))))))), (w_p1 (by decide) (Or.inr rfl) (w_p1 (by decide) (Or.inr rfl) (w_p1 (by decide) (Or.inr rfl) (w_p1 (by decide) (Or.inr rfl) (w_p1 (by decide) (Or.inr rfl) (w_p1 (by decide) (Or.inr rfl) (w_p1 (by decide) (Or.inr rfl) e4624))))))), (w_p1 (by decide) (Or.inr rfl) (w_p1 (by decide) (Or.inr rfl) (w_p1 (by decide) (Or.inr rfl) (w_p1 (by decide) (Or.inr rfl) (w_p1 (by decide) (Or.inr rfl) (w_p1 (by decide) (Or.inr rfl) (w_p1 (by decide) (Or.inr rfl) e4625))))))), (w_e1 _ _ _), by omega⟩ ⟨by omega, by omega⟩
                      · have c4652_ : v4637.toInt < v4638.toInt := en_i_ge_f c4652
                        refine At.enter rfl ?_
                        refine r_aload_n (w_p1 (by decide) (Or.inr rfl) (w_p1 (by decide) (Or.inr rfl) (w_p1 (by decide) (Or.inr rfl) (w_p1 (by decide) (Or.inr rfl) (w_p1 (by decide) (Or.inr rfl) e4622))))) ?_
                        refine r_iload (w_p1 (by decide) (Or.inr rfl) (w_e1 _ _ _)) ?_
                        refine q_inlV 147 rfl [.ref 231, .int v4638] [] (Nat.le_of_ble_eq_true rfl) rfl ?_
                        refine Ev.mk rfl rfl ⟨Nat.le_of_ble_eq_true rfl, Or.inr (q_rc hI4617.1 kx_231 rfl)⟩ ?_
                        show At _ none _ _ (0, [(0, .ref 231), (1, .int v4638)], [], (_, _)) _
                        refine At.enter rfl ?_
                        refine r_iload_n rfl ?_
                        refine q_i2l (fun v4656 hv4656 => ?_)
                        refine r_lconst 0 rfl ?_
                        refine r_aload_n rfl ?_
                        refine q_getR (Sh.ref hI4617.1 kx_231 rfl) ?_
                        refine r_iconst 0 rfl ?_
                        refine q_iald (Sh.arr hI4617.1 ka_233) 0 rfl (by decide) v4645 ((eA_c (hF4618.2.1 233 (by decide))).trans hv4645) ?_
                        refine q_i2l (fun v4657 hv4657 => ?_)
                        refine r_lconst 1 rfl ?_
                        refine q_lsub (v4657.toInt - 1) rfl (by omega) (fun v4658 hv4658 => ?_)
                        refine q_inlS 15 rfl [.long v4656, .long 0, .long v4658] [] (Nat.le_of_ble_eq_true rfl) rfl ?_
                        refine Ev.mk rfl rfl ⟨Nat.le_of_ble_eq_true rfl, Or.inl rfl⟩ ?_
                        show At _ none _ _ (0, [(0, .long v4656), (2, .long 0), (4, .long v4658)], [], (_, _)) _
                        refine At.enter rfl ?_
                        refine r_lload_n rfl ?_
                        refine r_lload_n rfl ?_
                        refine r_lcmp _ rfl ?_
                        refine r_ifs 6 rfl (fun c4659 => ?_) (fun c4659 => ?_)
                        · have c4659_ : v4656.toInt < 0 := en_j_lt_t c4659
                          exfalso; omega
                        · have c4659_ : v4656.toInt ≥ 0 := en_j_lt_f c4659
                          refine At.enter rfl ?_
                          refine r_lload_n rfl ?_
                          refine r_lload rfl ?_
                          refine r_lcmp _ rfl ?_
                          refine r_ifs 13 rfl (fun c4660 => ?_) (fun c4660 => ?_)
                          · have c4660_ : v4656.toInt > v4658.toInt := en_j_gt_t c4660
                            refine At.enter rfl ?_
                            refine r_iconst 0 rfl ?_
                            refine Ar.fall 18 rfl ?_
                            refine At.enter rfl ?_
                            refine q_iretz (by decide) ?_
                            refine At.enter rfl ?_
                            refine q_iretz (by decide) ?_
                            refine At.enter rfl ?_
                            refine r_ift (by decide) ?_
                            refine At.enter rfl ?_
                            refine r_iconst 0 rfl ?_
                            refine Ar.fall 155 rfl ?_
                            refine At.enter rfl ?_
                            refine r_istore _ rfl ?_
                            refine r_iload (w_e1 _ _ _) ?_
                            refine r_ift (by decide) ?_
                            refine At.enter rfl ?_
                            refine q_iinc (w_p1 (by decide) (Or.inr rfl) (w_p1 (by decide) (Or.inr rfl) (w_p1 (by decide) (Or.inr rfl) (w_p1 (by decide) (Or.inr rfl) (w_p1 (by decide) (Or.inr rfl) (w_p1 (by decide) (Or.inr rfl) e4626)))))) (x4615.toInt + 1) rfl (by omega) (fun v4661 hv4661 => ?_)
                            refine r_goto ?_
                            exact ih4621 (20736 - v4661.toInt) _ _ ⟨v4661, by first | rfl | omega, hI4617, hF4618, (w_p1 (by decide) (Or.inr rfl) (w_p1 (by decide) (Or.inr rfl) (w_p1 (by decide) (Or.inr rfl) (w_p1 (by decide) (Or.inr rfl) (w_p1 (by decide) (Or.inr rfl) (w_p1 (by decide) (Or.inr rfl) (w_p1 (by decide) (Or.inr rfl) e4622))))))), (w_p1 (by decide) (Or.inr rfl) (w_p1 (by decide) (Or.inr rfl) (w_p1 (by decide) (Or.inr rfl) (w_p1 (by decide) (Or.inr rfl) (w_p1 (by decide) (Or.inr rfl) (w_p1 (by decide) (Or.inr rfl) (w_p1 (by decide) (Or.inr rfl) e4623))))))), (w_p1 (by decide) (Or.inr rfl) (w_p1 (by decide) (Or.inr rfl) (w_p1 (by decide) (Or.inr rfl) (w_p1 (by decide) (Or.inr rfl) (w_p1 (by decide) (Or.inr rfl) (w_p1 (by decide) (Or.inr rfl) (w_p1 (by decide) (Or.inr rfl) e4624))))))), (w_p1 (by decide) (Or.inr rfl) (w_p1 (by decide) (Or.inr rfl) (w_p1 (by decide) (Or.inr rfl) (w_p1 (by decide) (Or.inr rfl) (w_p1 (by decide) (Or.inr rfl) (w_p1 (by decide) (Or.inr rfl) (w_p1 (by decide) (Or.inr rfl) e4625))))))), (w_e1 _ _ _), by omega⟩ ⟨by omega, by omega⟩
                          · have c4660_ : v4656.toInt ≤ v4658.toInt := en_j_gt_f c4660
                            refine At.enter rfl ?_
                            refine r_iconst 1 rfl ?_
                            refine r_goto ?_
                            refine At.enter rfl ?_
                            refine q_iretz (by decide) ?_
                            refine At.enter rfl ?_
                            refine q_iretz (by decide) ?_
                            refine At.enter rfl ?_
                            refine r_iff 150 rfl (by decide) ?_
                            refine At.enter rfl ?_
                            refine r_iconst 1 rfl ?_
                            refine r_goto ?_
                            refine At.enter rfl ?_
                            refine r_istore _ rfl ?_
                            refine r_iload (w_e1 _ _ _) ?_
                            refine r_iff 162 rfl (by decide) ?_
                            refine At.enter rfl ?_
                            refine r_aload_n (w_p1 (by decide) (Or.inr rfl) (w_p1 (by decide) (Or.inr rfl) (w_p1 (by decide) (Or.inr rfl) (w_p1 (by decide) (Or.inr rfl) (w_p1 (by decide) (Or.inr rfl) (w_p1 (by decide) (Or.inr rfl) e4622)))))) ?_
                            refine r_callV 166 rfl [.ref 231] [] (Nat.le_of_ble_eq_true rfl) rfl (T_X11_asIs_231 _ hI4617) ?_
                            rintro _ _ ⟨g4662, rfl, hI4663, hF4664, rfl⟩
                            refine At.stn ?_
                            have hF4667 := Fr.tr hF4618 hF4664 rfl rfl
                            refine At.enter rfl ?_
                            refine r_iload_n (w_p1 (by decide) (Or.inr rfl) (w_p1 (by decide) (Or.inr rfl) (w_p1 (by decide) (Or.inr rfl) (w_p1 (by decide) (Or.inr rfl) (w_p1 (by decide) (Or.inr rfl) (w_p1 (by decide) (Or.inr rfl) e4624)))))) ?_
                            refine r_ifs 170 rfl (fun c4668 => ?_) (fun c4668 => ?_)
                            · have c4668_ : a2.toInt ≤ 0 := en_k_le_t c4668
                              exfalso; omega
                            · have c4668_ : a2.toInt > 0 := en_k_le_f c4668
                              refine At.enter rfl ?_
                              refine r_aload_n (w_p1 (by decide) (Or.inr rfl) (w_p1 (by decide) (Or.inr rfl) (w_p1 (by decide) (Or.inr rfl) (w_p1 (by decide) (Or.inr rfl) (w_p1 (by decide) (Or.inr rfl) (w_p1 (by decide) (Or.inr rfl) e4622)))))) ?_
                              refine r_iload (w_p1 (by decide) (Or.inr rfl) (w_p1 (by decide) (Or.inr rfl) (w_p1 (by decide) (Or.inr rfl) (w_p1 (by decide) (Or.inr rfl) (w_p1 (by decide) (Or.inr rfl) (w_e1 _ _ _)))))) ?_
                              refine r_iload (w_p1 (by decide) (Or.inr rfl) (w_p1 (by decide) (Or.inr rfl) (w_p1 (by decide) (Or.inr rfl) (w_p1 (by decide) (Or.inr rfl) (w_e1 _ _ _))))) ?_
                              refine r_callV 178 rfl [.ref 231, .int v4632, .int v4635] [] (Nat.le_of_ble_eq_true rfl) rfl (T_X11_swapAt_231 _ hI4663 v4632 (by omega) v4635 (by omega)) ?_
                              rintro _ _ ⟨g4669, rfl, hI4670, hF4671, rfl⟩
                              refine At.stn ?_
                              have hF4674 := Fr.tr hF4667 hF4671 rfl rfl
                              refine At.enter rfl ?_
                              refine r_iload_n (w_p1 (by decide) (Or.inr rfl) (w_p1 (by decide) (Or.inr rfl) (w_p1 (by decide) (Or.inr rfl) (w_p1 (by decide) (Or.inr rfl) (w_p1 (by decide) (Or.inr rfl) (w_p1 (by decide) (Or.inr rfl) e4624)))))) ?_
                              refine r_iconst 1 rfl ?_
                              refine r_ics 183 rfl (fun c4675 => ?_) (fun c4675 => ?_)
                              · have c4675_ : a2.toInt ≤ 1 := en_i_le_t c4675
                                exfalso; omega
                              · have c4675_ : a2.toInt > 1 := en_i_le_f c4675
                                refine At.enter rfl ?_
                                refine r_aload_n (w_p1 (by decide) (Or.inr rfl) (w_p1 (by decide) (Or.inr rfl) (w_p1 (by decide) (Or.inr rfl) (w_p1 (by decide) (Or.inr rfl) (w_p1 (by decide) (Or.inr rfl) (w_p1 (by decide) (Or.inr rfl) e4622)))))) ?_
                                refine r_iload (w_p1 (by decide) (Or.inr rfl) (w_p1 (by decide) (Or.inr rfl) (w_p1 (by decide) (Or.inr rfl) (w_e1 _ _ _)))) ?_
                                refine r_iload (w_p1 (by decide) (Or.inr rfl) (w_p1 (by decide) (Or.inr rfl) (w_e1 _ _ _))) ?_
                                refine r_callV 191 rfl [.ref 231, .int v4637, .int v4638] [] (Nat.le_of_ble_eq_true rfl) rfl (T_X11_swapAt_231 _ hI4670 v4637 (by omega) v4638 (by omega)) ?_
                                rintro _ _ ⟨g4676, rfl, hI4677, hF4678, rfl⟩
                                refine At.stn ?_
                                have hF4681 := Fr.tr hF4674 hF4678 rfl rfl
                                refine At.enter rfl ?_
                                refine r_aload_n (w_p1 (by decide) (Or.inr rfl) (w_p1 (by decide) (Or.inr rfl) (w_p1 (by decide) (Or.inr rfl) (w_p1 (by decide) (Or.inr rfl) (w_p1 (by decide) (Or.inr rfl) (w_p1 (by decide) (Or.inr rfl) e4622)))))) ?_
                                refine r_iload_n (w_p1 (by decide) (Or.inr rfl) (w_p1 (by decide) (Or.inr rfl) (w_p1 (by decide) (Or.inr rfl) (w_p1 (by decide) (Or.inr rfl) (w_p1 (by decide) (Or.inr rfl) (w_p1 (by decide) (Or.inr rfl) e4623)))))) ?_
                                refine r_aload_n (w_p1 (by decide) (Or.inr rfl) (w_p1 (by decide) (Or.inr rfl) (w_p1 (by decide) (Or.inr rfl) (w_p1 (by decide) (Or.inr rfl) (w_p1 (by decide) (Or.inr rfl) (w_p1 (by decide) (Or.inr rfl) e4622)))))) ?_
                                refine q_getR (Sh.ref hI4677.1 kx_231 rfl) ?_
                                refine r_iconst 5 rfl ?_
                                obtain ⟨v4682, hv4682⟩ : ∃ v, eA g0 233 5 = v := ⟨_, rfl⟩
                                have wv4682 := HI.t5 hI0
                                rw [hv4682] at wv4682
                                refine q_iald (Sh.arr hI4677.1 ka_233) 5 rfl (by decide) v4682 ((eA_c ((hF4678.2.1 233 (by decide)).trans ((hF4671.2.1 233 (by decide)).trans ((hF4664.2.1 233 (by decide)).trans (hF4618.2.1 233 (by decide)))))).trans hv4682) ?_
                                refine r_callV 202 rfl [.ref 231, .int a1, .int v4682] [] (Nat.le_of_ble_eq_true rfl) rfl (T_X11_allCome_231 _ hI4677 a1 v4682) ?_
                                rintro _ _ ⟨g4683, rfl, hI4684, hF4685, v4686, rfl, hr4687⟩
                                refine At.sti ?_
                                have hF4688 := Fr.tr hF4681 hF4685 rfl rfl
                                refine At.enter rfl ?_
                                refine r_ifs 205 rfl (fun c4689 => ?_) (fun c4689 => ?_)
                                · have c4689_ : v4686.toInt = 0 := en_k_eq_t c4689
                                  refine At.enter rfl ?_
                                  refine q_iinc (w_p1 (by decide) (Or.inr rfl) (w_p1 (by decide) (Or.inr rfl) (w_p1 (by decide) (Or.inr rfl) (w_p1 (by decide) (Or.inr rfl) (w_p1 (by decide) (Or.inr rfl) (w_p1 (by decide) (Or.inr rfl) e4626)))))) (x4615.toInt + 1) rfl (by omega) (fun v4690 hv4690 => ?_)
                                  refine r_goto ?_
                                  exact ih4621 (20736 - v4690.toInt) _ _ ⟨v4690, by first | rfl | omega, hI4684, hF4688, (w_p1 (by decide) (Or.inr rfl) (w_p1 (by decide) (Or.inr rfl) (w_p1 (by decide) (Or.inr rfl) (w_p1 (by decide) (Or.inr rfl) (w_p1 (by decide) (Or.inr rfl) (w_p1 (by decide) (Or.inr rfl) (w_p1 (by decide) (Or.inr rfl) e4622))))))), (w_p1 (by decide) (Or.inr rfl) (w_p1 (by decide) (Or.inr rfl) (w_p1 (by decide) (Or.inr rfl) (w_p1 (by decide) (Or.inr rfl) (w_p1 (by decide) (Or.inr rfl) (w_p1 (by decide) (Or.inr rfl) (w_p1 (by decide) (Or.inr rfl) e4623))))))), (w_p1 (by decide) (Or.inr rfl) (w_p1 (by decide) (Or.inr rfl) (w_p1 (by decide) (Or.inr rfl) (w_p1 (by decide) (Or.inr rfl) (w_p1 (by decide) (Or.inr rfl) (w_p1 (by decide) (Or.inr rfl) (w_p1 (by decide) (Or.inr rfl) e4624))))))), (w_p1 (by decide) (Or.inr rfl) (w_p1 (by decide) (Or.inr rfl) (w_p1 (by decide) (Or.inr rfl) (w_p1 (by decide) (Or.inr rfl) (w_p1 (by decide) (Or.inr rfl) (w_p1 (by decide) (Or.inr rfl) (w_p1 (by decide) (Or.inr rfl) e4625))))))), (w_e1 _ _ _), by omega⟩ ⟨by omega, by omega⟩
                                · have c4689_ : v4686.toInt ≠ 0 := en_k_eq_f c4689
                                  refine At.enter rfl ?_
                                  refine r_aload_n (w_p1 (by decide) (Or.inr rfl) (w_p1 (by decide) (Or.inr rfl) (w_p1 (by decide) (Or.inr rfl) (w_p1 (by decide) (Or.inr rfl) (w_p1 (by decide) (Or.inr rfl) (w_p1 (by decide) (Or.inr rfl) e4622)))))) ?_
                                  refine r_aload_n (w_p1 (by decide) (Or.inr rfl) (w_p1 (by decide) (Or.inr rfl) (w_p1 (by decide) (Or.inr rfl) (w_p1 (by decide) (Or.inr rfl) (w_p1 (by decide) (Or.inr rfl) (w_p1 (by decide) (Or.inr rfl) e4622)))))) ?_
                                  obtain ⟨v4691, hv4691⟩ : ∃ v, gI g4616 231 45 = v := ⟨_, rfl⟩
                                  refine q_getI (Sh.int hI4684.1 kx_231 rfl) v4691 (((hF4685.1 231 45 (by decide)).trans ((hF4678.1 231 45 (by decide)).trans ((hF4671.1 231 45 (by decide)).trans (hF4664.1 231 45 (by decide))))).trans hv4691) ?_
                                  refine r_ifs 213 rfl (fun c4692 => ?_) (fun c4692 => ?_)
                                  · have c4692_ : v4691.toInt ≠ 0 := en_k_ne_t c4692
                                    refine At.enter rfl ?_
                                    refine r_aload_n (w_p1 (by decide) (Or.inr rfl) (w_p1 (by decide) (Or.inr rfl) (w_p1 (by decide) (Or.inr rfl) (w_p1 (by decide) (Or.inr rfl) (w_p1 (by decide) (Or.inr rfl) (w_p1 (by decide) (Or.inr rfl) e4622)))))) ?_
                                    obtain ⟨v4693, hv4693⟩ : ∃ v, gI g4616 231 46 = v := ⟨_, rfl⟩
                                    refine q_getI (Sh.int hI4684.1 kx_231 rfl) v4693 (((hF4685.1 231 46 (by decide)).trans ((hF4678.1 231 46 (by decide)).trans ((hF4671.1 231 46 (by decide)).trans (hF4664.1 231 46 (by decide))))).trans hv4693) ?_
                                    refine Ar.fall 222 rfl ?_
                                    refine At.enter rfl ?_
                                    refine q_putI (Sh.int hI4684.1 kx_231 rfl) rfl ?_
                                    have hI4694 := HI.wI0 hI4684 kx_231 rfl (p := 231) (b := 46) (v := v4693) rfl
                                    have hF4695 := Fr.wI (p := 231) (b := 46) (v := v4693) hF4688 rfl
                                    refine r_aload_n (w_p1 (by decide) (Or.inr rfl) (w_p1 (by decide) (Or.inr rfl) (w_p1 (by decide) (Or.inr rfl) (w_p1 (by decide) (Or.inr rfl) (w_p1 (by decide) (Or.inr rfl) (w_p1 (by decide) (Or.inr rfl) e4622)))))) ?_
                                    refine r_dup rfl ?_
                                    refine q_getI (Sh.int hI4694.1 kx_231 rfl) v4691 (((gI_sI_ne (by decide)).trans ((hF4685.1 231 45 (by decide)).trans ((hF4678.1 231 45 (by decide)).trans ((hF4671.1 231 45 (by decide)).trans (hF4664.1 231 45 (by decide)))))).trans hv4691) ?_
                                    refine r_iconst 1 rfl ?_
                                    refine q_iaddO (fun v4696 _ => ?_)
                                    refine q_putI (Sh.int hI4694.1 kx_231 rfl) rfl ?_
                                    have hI4697 := HI.wI0 hI4694 kx_231 rfl (p := 231) (b := 45) (v := v4696) rfl
                                    have hF4698 := Fr.wI (p := 231) (b := 45) (v := v4696) hF4695 rfl
                                    refine Ar.fall 235 rfl ?_
                                    refine At.enter rfl ?_
                                    refine q_iinc (w_p1 (by decide) (Or.inr rfl) (w_p1 (by decide) (Or.inr rfl) (w_p1 (by decide) (Or.inr rfl) (w_p1 (by decide) (Or.inr rfl) (w_p1 (by decide) (Or.inr rfl) (w_p1 (by decide) (Or.inr rfl) e4626)))))) (x4615.toInt + 1) rfl (by omega) (fun v4699 hv4699 => ?_)
                                    refine r_goto ?_
                                    exact ih4621 (20736 - v4699.toInt) _ _ ⟨v4699, by first | rfl | omega, hI4697, hF4698, (w_p1 (by decide) (Or.inr rfl) (w_p1 (by decide) (Or.inr rfl) (w_p1 (by decide) (Or.inr rfl) (w_p1 (by decide) (Or.inr rfl) (w_p1 (by decide) (Or.inr rfl) (w_p1 (by decide) (Or.inr rfl) (w_p1 (by decide) (Or.inr rfl) e4622))))))), (w_p1 (by decide) (Or.inr rfl) (w_p1 (by decide) (Or.inr rfl) (w_p1 (by decide) (Or.inr rfl) (w_p1 (by decide) (Or.inr rfl) (w_p1 (by decide) (Or.inr rfl) (w_p1 (by decide) (Or.inr rfl) (w_p1 (by decide) (Or.inr rfl) e4623))))))), (w_p1 (by decide) (Or.inr rfl) (w_p1 (by decide) (Or.inr rfl) (w_p1 (by decide) (Or.inr rfl) (w_p1 (by decide) (Or.inr rfl) (w_p1 (by decide) (Or.inr rfl) (w_p1 (by decide) (Or.inr rfl) (w_p1 (by decide) (Or.inr rfl) e4624))))))), (w_p1 (by decide) (Or.inr rfl) (w_p1 (by decide) (Or.inr rfl) (w_p1 (by decide) (Or.inr rfl) (w_p1 (by decide) (Or.inr rfl) (w_p1 (by decide) (Or.inr rfl) (w_p1 (by decide) (Or.inr rfl) (w_p1 (by decide) (Or.inr rfl) e4625))))))), (w_e1 _ _ _), by omega⟩ ⟨by omega, by omega⟩
                                  · have c4692_ : v4691.toInt = 0 := en_k_ne_f c4692
                                    refine At.enter rfl ?_
                                    refine r_iload (w_p1 (by decide) (Or.inr rfl) (w_p1 (by decide) (Or.inr rfl) (w_p1 (by decide) (Or.inr rfl) (w_p1 (by decide) (Or.inr rfl) (w_p1 (by decide) (Or.inr rfl) (w_p1 (by decide) (Or.inr rfl) e4626)))))) ?_
                                    refine r_goto ?_
                                    refine At.enter rfl ?_
                                    refine q_putI (Sh.int hI4684.1 kx_231 rfl) rfl ?_
                                    have hI4700 := HI.wI0 hI4684 kx_231 rfl (p := 231) (b := 46) (v := x4615) rfl
                                    have hF4701 := Fr.wI (p := 231) (b := 46) (v := x4615) hF4688 rfl
                                    refine r_aload_n (w_p1 (by decide) (Or.inr rfl) (w_p1 (by decide) (Or.inr rfl) (w_p1 (by decide) (Or.inr rfl) (w_p1 (by decide) (Or.inr rfl) (w_p1 (by decide) (Or.inr rfl) (w_p1 (by decide) (Or.inr rfl) e4622)))))) ?_
                                    refine r_dup rfl ?_
                                    refine q_getI (Sh.int hI4700.1 kx_231 rfl) v4691 (((gI_sI_ne (by decide)).trans ((hF4685.1 231 45 (by decide)).trans ((hF4678.1 231 45 (by decide)).trans ((hF4671.1 231 45 (by decide)).trans (hF4664.1 231 45 (by decide)))))).trans hv4691) ?_
                                    refine r_iconst 1 rfl ?_
                                    refine q_iadd (v4691.toInt + 1) rfl (by omega) (fun v4702 hv4702 => ?_)
                                    refine q_putI (Sh.int hI4700.1 kx_231 rfl) rfl ?_
                                    have hI4703 := HI.wI0 hI4700 kx_231 rfl (p := 231) (b := 45) (v := v4702) rfl
                                    have hF4704 := Fr.wI (p := 231) (b := 45) (v := v4702) hF4701 rfl
                                    refine Ar.fall 235 rfl ?_
                                    refine At.enter rfl ?_
                                    refine q_iinc (w_p1 (by decide) (Or.inr rfl) (w_p1 (by decide) (Or.inr rfl) (w_p1 (by decide) (Or.inr rfl) (w_p1 (by decide) (Or.inr rfl) (w_p1 (by decide) (Or.inr rfl) (w_p1 (by decide) (Or.inr rfl) e4626)))))) (x4615.toInt + 1) rfl (by omega) (fun v4705 hv4705 => ?_)
                                    refine r_goto ?_
                                    exact ih4621 (20736 - v4705.toInt) _ _ ⟨v4705, by first | rfl | omega, hI4703, hF4704, (w_p1 (by decide) (Or.inr rfl) (w_p1 (by decide) (Or.inr rfl) (w_p1 (by decide) (Or.inr rfl) (w_p1 (by decide) (Or.inr rfl) (w_p1 (by decide) (Or.inr rfl) (w_p1 (by decide) (Or.inr rfl) (w_p1 (by decide) (Or.inr rfl) e4622))))))), (w_p1 (by decide) (Or.inr rfl) (w_p1 (by decide) (Or.inr rfl) (w_p1 (by decide) (Or.inr rfl) (w_p1 (by decide) (Or.inr rfl) (w_p1 (by decide) (Or.inr rfl) (w_p1 (by decide) (Or.inr rfl) (w_p1 (by decide) (Or.inr rfl) e4623))))))), (w_p1 (by decide) (Or.inr rfl) (w_p1 (by decide) (Or.inr rfl) (w_p1 (by decide) (Or.inr rfl) (w_p1 (by decide) (Or.inr rfl) (w_p1 (by decide) (Or.inr rfl) (w_p1 (by decide) (Or.inr rfl) (w_p1 (by decide) (Or.inr rfl) e4624))))))), (w_p1 (by decide) (Or.inr rfl) (w_p1 (by decide) (Or.inr rfl) (w_p1 (by decide) (Or.inr rfl) (w_p1 (by decide) (Or.inr rfl) (w_p1 (by decide) (Or.inr rfl) (w_p1 (by decide) (Or.inr rfl) (w_p1 (by decide) (Or.inr rfl) e4625))))))), (w_e1 _ _ _), by omega⟩ ⟨by omega, by omega⟩
    · have c3922_ : a2.toInt = 1 := en_i_ne_f c3922
      refine At.enter rfl ?_
      refine r_sipush 144 rfl ?_
      refine r_goto ?_
      refine At.enter rfl ?_
      refine r_istore_n ([(3, .int 144), (0, .ref 231), (1, .int a1), (2, .int a2)]) rfl ?_
      refine r_iconst 0 rfl ?_
      refine r_istore ([(4, .int 0), (3, .int 144), (0, .ref 231), (1, .int a1), (2, .int a2)]) rfl ?_
      refine Ar.fall 36 rfl ?_
      have z_5665 : (0 : Int32).toInt = 0 := rfl
      refine w_loopI (fun n_ l_ g_ => ∃ x5652 : Int32, n_ = 144 - x5652.toInt ∧ HI g_ ∧ Fr F_X11_findSwaps_231 A_X11_findSwaps_231 g0 g_ ∧ en_get 0 l_ = some (.ref 231) ∧ en_get 1 l_ = some (.int a1) ∧ en_get 2 l_ = some (.int a2) ∧ en_get 3 l_ = some (.int 144) ∧ en_get 4 l_ = some (.int x5652) ∧ (0 ≤ x5652.toInt ∧ x5652.toInt ≤ 144)) ?_ (144 - 0) ⟨0, by first | rfl | omega, hI3919, hF3920, rfl, rfl, rfl, rfl, rfl, by decide⟩
      rintro n5657 l5656 g5653 ⟨x5652, hm5666, hI5654, hF5655, e5659, e5660, e5661, e5662, e5663, r5664⟩ ih5658
      refine At.enter rfl ?_
      refine r_iload e5663 ?_
      refine r_iload_n e5662 ?_
      refine r_ics 42 rfl (fun c5667 => ?_) (fun c5667 => ?_)
      · have c5667_ : x5652.toInt ≥ 144 := en_i_ge_t c5667
        refine At.enter rfl ?_
        refine r_vret ?_
        exact ⟨_, rfl, hI5654, hF5655, rfl⟩
      · have c5667_ : x5652.toInt < 144 := en_i_ge_f c5667
        refine At.enter rfl ?_
        refine r_iload e5663 ?_
        refine r_iload_n e5661 ?_
        refine r_iconst 2 rfl ?_
        refine r_ics 49 rfl (fun c5668 => ?_) (fun c5668 => ?_)
        · have c5668_ : a2.toInt ≠ 2 := en_i_ne_t c5668
          refine At.enter rfl ?_
          refine r_bipush 12 rfl ?_
          refine Ar.fall 57 rfl ?_
          refine At.enter rfl ?_
          refine q_idiv 12 rfl (by decide) (by omega) (fun v5669 hv5669 => ?_)
          refine r_istore _ rfl ?_
          refine r_iload (w_p1 (by decide) (Or.inr rfl) e5663) ?_
          refine r_iload_n (w_p1 (by decide) (Or.inr rfl) e5661) ?_
          refine r_iconst 2 rfl ?_
          refine r_ics 67 rfl (fun c5670 => ?_) (fun c5670 => ?_)
          · have c5670_ : a2.toInt ≠ 2 := en_i_ne_t c5670
            refine At.enter rfl ?_
            refine r_iconst 1 rfl ?_
            refine Ar.fall 74 rfl ?_
            refine At.enter rfl ?_
            refine q_idiv 1 rfl (by decide) (by omega) (fun v5671 hv5671 => ?_)
            refine r_bipush 12 rfl ?_
            refine q_irem 12 rfl (by decide) (by omega) (fun v5672 hv5672 => ?_)
            refine r_istore _ rfl ?_
            refine r_iload (w_p1 (by decide) (Or.inr rfl) (w_p1 (by decide) (Or.inr rfl) e5663)) ?_
            refine r_bipush 12 rfl ?_
            refine q_idiv 12 rfl (by decide) (by omega) (fun v5673 hv5673 => ?_)
            refine r_bipush 12 rfl ?_
            refine q_irem 12 rfl (by decide) (by omega) (fun v5674 hv5674 => ?_)
            refine r_istore _ rfl ?_
            refine r_iload (w_p1 (by decide) (Or.inr rfl) (w_p1 (by decide) (Or.inr rfl) (w_p1 (by decide) (Or.inr rfl) e5663))) ?_
            refine r_bipush 12 rfl ?_
            refine q_irem 12 rfl (by decide) (by omega) (fun v5675 hv5675 => ?_)
            refine r_istore _ rfl ?_
            refine r_iload_n (w_p1 (by decide) (Or.inr rfl) (w_p1 (by decide) (Or.inr rfl) (w_p1 (by decide) (Or.inr rfl) (w_p1 (by decide) (Or.inr rfl) e5661)))) ?_
            refine r_ifs 101 rfl (fun c5676 => ?_) (fun c5676 => ?_)
            · have c5676_ : a2.toInt = 0 := en_k_eq_t c5676
              exfalso; omega
            · have c5676_ : a2.toInt ≠ 0 := en_k_eq_f c5676
              refine At.enter rfl ?_
              refine r_iload (w_p1 (by decide) (Or.inr rfl) (w_p1 (by decide) (Or.inr rfl) (w_p1 (by decide) (Or.inr rfl) (w_e1 _ _ _)))) ?_
              refine r_iload (w_p1 (by decide) (Or.inr rfl) (w_p1 (by decide) (Or.inr rfl) (w_e1 _ _ _))) ?_
              have bv5678 := q_bnd v5669
              have bv5679 := q_bnd v5672
              refine r_ics 108 rfl (fun c5677 => ?_) (fun c5677 => ?_)
              · have c5677_ : v5669.toInt ≥ v5672.toInt := en_i_ge_t c5677
                refine At.enter rfl ?_
                refine r_iconst 0 rfl ?_
                refine Ar.fall 122 rfl ?_
                refine At.enter rfl ?_
                refine r_istore _ rfl ?_
                refine r_iload (w_e1 _ _ _) ?_
                refine r_ift (by decide) ?_
                refine At.enter rfl ?_
                refine r_iconst 0 rfl ?_
                refine Ar.fall 155 rfl ?_
                refine At.enter rfl ?_
                refine r_istore _ rfl ?_
                refine r_iload (w_e1 _ _ _) ?_
                refine r_ift (by decide) ?_
                refine At.enter rfl ?_
                refine q_iinc (w_p1 (by decide) (Or.inr rfl) (w_p1 (by decide) (Or.inr rfl) (w_p1 (by decide) (Or.inr rfl) (w_p1 (by decide) (Or.inr rfl) (w_p1 (by decide) (Or.inr rfl) (w_p1 (by decide) (Or.inr rfl) e5663)))))) (x5652.toInt + 1) rfl (by omega) (fun v5680 hv5680 => ?_)
                refine r_goto ?_
                exact ih5658 (144 - v5680.toInt) _ _ ⟨v5680, by first | rfl | omega, hI5654, hF5655, (w_p1 (by decide) (Or.inr rfl) (w_p1 (by decide) (Or.inr rfl) (w_p1 (by decide) (Or.inr rfl) (w_p1 (by decide) (Or.inr rfl) (w_p1 (by decide) (Or.inr rfl) (w_p1 (by decide) (Or.inr rfl) (w_p1 (by decide) (Or.inr rfl) e5659))))))), (w_p1 (by decide) (Or.inr rfl) (w_p1 (by decide) (Or.inr rfl) (w_p1 (by decide) (Or.inr rfl) (w_p1 (by decide) (Or.inr rfl) (w_p1 (by decide) (Or.inr rfl) (w_p1 (by decide) (Or.inr rfl) (w_p1 (by decide) (Or.inr rfl) e5660))))))), (w_p1 (by decide) (Or.inr rfl) (w_p1 (by decide) (Or.inr rfl) (w_p1 (by decide) (Or.inr rfl) (w_p1 (by decide) (Or.inr rfl) (w_p1 (by decide) (Or.inr rfl) (w_p1 (by decide) (Or.inr rfl) (w_p1 (by decide) (Or.inr rfl) e5661))))))), (w_p1 (by decide) (Or.inr rfl) (w_p1 (by decide) (Or.inr rfl) (w_p1 (by decide) (Or.inr rfl) (w_p1 (by decide) (Or.inr rfl) (w_p1 (by decide) (Or.inr rfl) (w_p1 (by decide) (Or.inr rfl) (w_p1 (by decide) (Or.inr rfl) e5662))))))), (w_e1 _ _ _), by omega⟩ ⟨by omega, by omega⟩
              · have c5677_ : v5669.toInt < v5672.toInt := en_i_ge_f c5677
                refine At.enter rfl ?_
                refine r_aload_n (w_p1 (by decide) (Or.inr rfl) (w_p1 (by decide) (Or.inr rfl) (w_p1 (by decide) (Or.inr rfl) (w_p1 (by decide) (Or.inr rfl) e5659)))) ?_
                refine r_iload (w_p1 (by decide) (Or.inr rfl) (w_p1 (by decide) (Or.inr rfl) (w_e1 _ _ _))) ?_
                refine q_inlV 114 rfl [.ref 231, .int v5672] [] (Nat.le_of_ble_eq_true rfl) rfl ?_
                refine Ev.mk rfl rfl ⟨Nat.le_of_ble_eq_true rfl, Or.inr (q_rc hI5654.1 kx_231 rfl)⟩ ?_
                show At _ none _ _ (0, [(0, .ref 231), (1, .int v5672)], [], (_, _)) _
                refine At.enter rfl ?_
                refine r_iload_n rfl ?_
                refine q_i2l (fun v5681 hv5681 => ?_)
                refine r_lconst 0 rfl ?_
                refine r_aload_n rfl ?_
                refine q_getR (Sh.ref hI5654.1 kx_231 rfl) ?_
                refine r_iconst 0 rfl ?_
                obtain ⟨v5682, hv5682⟩ : ∃ v, eA g0 233 0 = v := ⟨_, rfl⟩
                have tv5682 := congrArg Int32.toInt hv5682
                have wv5682 := HI.t0 hI0
                rw [hv5682] at wv5682
                refine q_iald (Sh.arr hI5654.1 ka_233) 0 rfl (by decide) v5682 ((eA_c (hF5655.2.1 233 (by decide))).trans hv5682) ?_
                refine q_i2l (fun v5683 hv5683 => ?_)
                refine r_lconst 1 rfl ?_
                refine q_lsub (v5683.toInt - 1) rfl (by omega) (fun v5684 hv5684 => ?_)
                refine q_inlS 15 rfl [.long v5681, .long 0, .long v5684] [] (Nat.le_of_ble_eq_true rfl) rfl ?_
                refine Ev.mk rfl rfl ⟨Nat.le_of_ble_eq_true rfl, Or.inl rfl⟩ ?_
                show At _ none _ _ (0, [(0, .long v5681), (2, .long 0), (4, .long v5684)], [], (_, _)) _
                refine At.enter rfl ?_
                refine r_lload_n rfl ?_
                refine r_lload_n rfl ?_
                refine r_lcmp _ rfl ?_
                refine r_ifs 6 rfl (fun c5685 => ?_) (fun c5685 => ?_)
                · have c5685_ : v5681.toInt < 0 := en_j_lt_t c5685
                  exfalso; omega
                · have c5685_ : v5681.toInt ≥ 0 := en_j_lt_f c5685
                  refine At.enter rfl ?_
                  refine r_lload_n rfl ?_
                  refine r_lload rfl ?_
                  refine r_lcmp _ rfl ?_
                  refine r_ifs 13 rfl (fun c5686 => ?_) (fun c5686 => ?_)
                  · have c5686_ : v5681.toInt > v5684.toInt := en_j_gt_t c5686
                    refine At.enter rfl ?_
                    refine r_iconst 0 rfl ?_
                    refine Ar.fall 18 rfl ?_
                    refine At.enter rfl ?_
                    refine q_iretz (by decide) ?_
                    refine At.enter rfl ?_
                    refine q_iretz (by decide) ?_
                    refine At.enter rfl ?_
                    refine r_ift (by decide) ?_
                    refine At.enter rfl ?_
                    refine r_iconst 0 rfl ?_
                    refine Ar.fall 122 rfl ?_
                    refine At.enter rfl ?_
                    refine r_istore _ rfl ?_
                    refine r_iload (w_e1 _ _ _) ?_
                    refine r_ift (by decide) ?_
                    refine At.enter rfl ?_
                    refine r_iconst 0 rfl ?_
                    refine Ar.fall 155 rfl ?_
                    refine At.enter rfl ?_
                    refine r_istore _ rfl ?_
                    refine r_iload (w_e1 _ _ _) ?_
                    refine r_ift (by decide) ?_
                    refine At.enter rfl ?_
                    refine q_iinc (w_p1 (by decide) (Or.inr rfl) (w_p1 (by decide) (Or.inr rfl) (w_p1 (by decide) (Or.inr rfl) (w_p1 (by decide) (Or.inr rfl) (w_p1 (by decide) (Or.inr rfl) (w_p1 (by decide) (Or.inr rfl) e5663)))))) (x5652.toInt + 1) rfl (by omega) (fun v5687 hv5687 => ?_)
                    refine r_goto ?_
                    exact ih5658 (144 - v5687.toInt) _ _ ⟨v5687, by first | rfl | omega, hI5654, hF5655, (w_p1 (by decide) (Or.inr rfl) (w_p1 (by decide) (Or.inr rfl) (w_p1 (by decide) (Or.inr rfl) (w_p1 (by decide) (Or.inr rfl) (w_p1 (by decide) (Or.inr rfl) (w_p1 (by decide) (Or.inr rfl) (w_p1 (by decide) (Or.inr rfl) e5659))))))), (w_p1 (by decide) (Or.inr rfl) (w_p1 (by decide) (Or.inr rfl) (w_p1 (by decide) (Or.inr rfl) (w_p1 (by decide) (Or.inr rfl) (w_p1 (by decide) (Or.inr rfl) (w_p1 (by decide) (Or.inr rfl) (w_p1 (by decide) (Or.inr rfl) e5660))))))), (w_p1 (by decide) (Or.inr rfl) (w_p1 (by decide) (Or.inr rfl) (w_p1 (by decide) (Or.inr rfl) (w_p1 (by decide) (Or.inr rfl) (w_p1 (by decide) (Or.inr rfl) (w_p1 (by decide) (Or.inr rfl) (w_p1 (by decide) (Or.inr rfl) e5661))))))), (w_p1 (by decide) (Or.inr rfl) (w_p1 (by decide) (Or.inr rfl) (w_p1 (by decide) (Or.inr rfl) (w_p1 (by decide) (Or.inr rfl) (w_p1 (by decide) (Or.inr rfl) (w_p1 (by decide) (Or.inr rfl) (w_p1 (by decide) (Or.inr rfl) e5662))))))), (w_e1 _ _ _), by omega⟩ ⟨by omega, by omega⟩
                  · have c5686_ : v5681.toInt ≤ v5684.toInt := en_j_gt_f c5686
                    refine At.enter rfl ?_
                    refine r_iconst 1 rfl ?_
                    refine r_goto ?_
                    refine At.enter rfl ?_
                    refine q_iretz (by decide) ?_
                    refine At.enter rfl ?_
                    refine q_iretz (by decide) ?_
                    refine At.enter rfl ?_
                    refine r_iff 117 rfl (by decide) ?_
                    refine At.enter rfl ?_
                    refine r_iconst 1 rfl ?_
                    refine r_goto ?_
                    refine At.enter rfl ?_
                    refine r_istore _ rfl ?_
                    refine r_iload (w_e1 _ _ _) ?_
                    refine r_iff 129 rfl (by decide) ?_
                    refine At.enter rfl ?_
                    refine r_iload_n (w_p1 (by decide) (Or.inr rfl) (w_p1 (by decide) (Or.inr rfl) (w_p1 (by decide) (Or.inr rfl) (w_p1 (by decide) (Or.inr rfl) (w_p1 (by decide) (Or.inr rfl) e5661))))) ?_
                    refine r_iconst 2 rfl ?_
                    refine r_ics 134 rfl (fun c5688 => ?_) (fun c5688 => ?_)
                    · have c5688_ : a2.toInt < 2 := en_i_lt_t c5688
                      refine At.enter rfl ?_
                      refine r_iconst 1 rfl ?_
                      refine r_goto ?_
                      refine At.enter rfl ?_
                      refine r_istore _ rfl ?_
                      refine r_iload (w_e1 _ _ _) ?_
                      refine r_iff 162 rfl (by decide) ?_
                      refine At.enter rfl ?_
                      refine r_aload_n (w_p1 (by decide) (Or.inr rfl) (w_p1 (by decide) (Or.inr rfl) (w_p1 (by decide) (Or.inr rfl) (w_p1 (by decide) (Or.inr rfl) (w_p1 (by decide) (Or.inr rfl) (w_p1 (by decide) (Or.inr rfl) e5659)))))) ?_
                      refine r_callV 166 rfl [.ref 231] [] (Nat.le_of_ble_eq_true rfl) rfl (T_X11_asIs_231 _ hI5654) ?_
                      rintro _ _ ⟨g5689, rfl, hI5690, hF5691, rfl⟩
                      refine At.stn ?_
                      have hF5694 := Fr.tr hF5655 hF5691 rfl rfl
                      refine At.enter rfl ?_
                      refine r_iload_n (w_p1 (by decide) (Or.inr rfl) (w_p1 (by decide) (Or.inr rfl) (w_p1 (by decide) (Or.inr rfl) (w_p1 (by decide) (Or.inr rfl) (w_p1 (by decide) (Or.inr rfl) (w_p1 (by decide) (Or.inr rfl) e5661)))))) ?_
                      refine r_ifs 170 rfl (fun c5695 => ?_) (fun c5695 => ?_)
                      · have c5695_ : a2.toInt ≤ 0 := en_k_le_t c5695
                        exfalso; omega
                      · have c5695_ : a2.toInt > 0 := en_k_le_f c5695
                        refine At.enter rfl ?_
                        refine r_aload_n (w_p1 (by decide) (Or.inr rfl) (w_p1 (by decide) (Or.inr rfl) (w_p1 (by decide) (Or.inr rfl) (w_p1 (by decide) (Or.inr rfl) (w_p1 (by decide) (Or.inr rfl) (w_p1 (by decide) (Or.inr rfl) e5659)))))) ?_
                        refine r_iload (w_p1 (by decide) (Or.inr rfl) (w_p1 (by decide) (Or.inr rfl) (w_p1 (by decide) (Or.inr rfl) (w_p1 (by decide) (Or.inr rfl) (w_p1 (by decide) (Or.inr rfl) (w_e1 _ _ _)))))) ?_
                        refine r_iload (w_p1 (by decide) (Or.inr rfl) (w_p1 (by decide) (Or.inr rfl) (w_p1 (by decide) (Or.inr rfl) (w_p1 (by decide) (Or.inr rfl) (w_e1 _ _ _))))) ?_
                        refine r_callV 178 rfl [.ref 231, .int v5669, .int v5672] [] (Nat.le_of_ble_eq_true rfl) rfl (T_X11_swapAt_231 _ hI5690 v5669 (by omega) v5672 (by omega)) ?_
                        rintro _ _ ⟨g5696, rfl, hI5697, hF5698, rfl⟩
                        refine At.stn ?_
                        have hF5701 := Fr.tr hF5694 hF5698 rfl rfl
                        refine At.enter rfl ?_
                        refine r_iload_n (w_p1 (by decide) (Or.inr rfl) (w_p1 (by decide) (Or.inr rfl) (w_p1 (by decide) (Or.inr rfl) (w_p1 (by decide) (Or.inr rfl) (w_p1 (by decide) (Or.inr rfl) (w_p1 (by decide) (Or.inr rfl) e5661)))))) ?_
                        refine r_iconst 1 rfl ?_
                        refine r_ics 183 rfl (fun c5702 => ?_) (fun c5702 => ?_)
                        · have c5702_ : a2.toInt ≤ 1 := en_i_le_t c5702
                          refine At.enter rfl ?_
                          refine r_aload_n (w_p1 (by decide) (Or.inr rfl) (w_p1 (by decide) (Or.inr rfl) (w_p1 (by decide) (Or.inr rfl) (w_p1 (by decide) (Or.inr rfl) (w_p1 (by decide) (Or.inr rfl) (w_p1 (by decide) (Or.inr rfl) e5659)))))) ?_
                          refine r_iload_n (w_p1 (by decide) (Or.inr rfl) (w_p1 (by decide) (Or.inr rfl) (w_p1 (by decide) (Or.inr rfl) (w_p1 (by decide) (Or.inr rfl) (w_p1 (by decide) (Or.inr rfl) (w_p1 (by decide) (Or.inr rfl) e5660)))))) ?_
                          refine r_aload_n (w_p1 (by decide) (Or.inr rfl) (w_p1 (by decide) (Or.inr rfl) (w_p1 (by decide) (Or.inr rfl) (w_p1 (by decide) (Or.inr rfl) (w_p1 (by decide) (Or.inr rfl) (w_p1 (by decide) (Or.inr rfl) e5659)))))) ?_
                          refine q_getR (Sh.ref hI5697.1 kx_231 rfl) ?_
                          refine r_iconst 5 rfl ?_
                          obtain ⟨v5703, hv5703⟩ : ∃ v, eA g0 233 5 = v := ⟨_, rfl⟩
                          have wv5703 := HI.t5 hI0
                          rw [hv5703] at wv5703
                          refine q_iald (Sh.arr hI5697.1 ka_233) 5 rfl (by decide) v5703 ((eA_c ((hF5698.2.1 233 (by decide)).trans ((hF5691.2.1 233 (by decide)).trans (hF5655.2.1 233 (by decide))))).trans hv5703) ?_
                          refine r_callV 202 rfl [.ref 231, .int a1, .int v5703] [] (Nat.le_of_ble_eq_true rfl) rfl (T_X11_allCome_231 _ hI5697 a1 v5703) ?_
                          rintro _ _ ⟨g5704, rfl, hI5705, hF5706, v5707, rfl, hr5708⟩
                          refine At.sti ?_
                          have hF5709 := Fr.tr hF5701 hF5706 rfl rfl
                          refine At.enter rfl ?_
                          refine r_ifs 205 rfl (fun c5710 => ?_) (fun c5710 => ?_)
                          · have c5710_ : v5707.toInt = 0 := en_k_eq_t c5710
                            refine At.enter rfl ?_
                            refine q_iinc (w_p1 (by decide) (Or.inr rfl) (w_p1 (by decide) (Or.inr rfl) (w_p1 (by decide) (Or.inr rfl) (w_p1 (by decide) (Or.inr rfl) (w_p1 (by decide) (Or.inr rfl) (w_p1 (by decide) (Or.inr rfl) e5663)))))) (x5652.toInt + 1) rfl (by omega) (fun v5711 hv5711 => ?_)
                            refine r_goto ?_
                            exact ih5658 (144 - v5711.toInt) _ _ ⟨v5711, by first | rfl | omega, hI5705, hF5709, (w_p1 (by decide) (Or.inr rfl) (w_p1 (by decide) (Or.inr rfl) (w_p1 (by decide) (Or.inr rfl) (w_p1 (by decide) (Or.inr rfl) (w_p1 (by decide) (Or.inr rfl) (w_p1 (by decide) (Or.inr rfl) (w_p1 (by decide) (Or.inr rfl) e5659))))))), (w_p1 (by decide) (Or.inr rfl) (w_p1 (by decide) (Or.inr rfl) (w_p1 (by decide) (Or.inr rfl) (w_p1 (by decide) (Or.inr rfl) (w_p1 (by decide) (Or.inr rfl) (w_p1 (by decide) (Or.inr rfl) (w_p1 (by decide) (Or.inr rfl) e5660))))))), (w_p1 (by decide) (Or.inr rfl) (w_p1 (by decide) (Or.inr rfl) (w_p1 (by decide) (Or.inr rfl) (w_p1 (by decide) (Or.inr rfl) (w_p1 (by decide) (Or.inr rfl) (w_p1 (by decide) (Or.inr rfl) (w_p1 (by decide) (Or.inr rfl) e5661))))))), (w_p1 (by decide) (Or.inr rfl) (w_p1 (by decide) (Or.inr rfl) (w_p1 (by decide) (Or.inr rfl) (w_p1 (by decide) (Or.inr rfl) (w_p1 (by decide) (Or.inr rfl) (w_p1 (by decide) (Or.inr rfl) (w_p1 (by decide) (Or.inr rfl) e5662))))))), (w_e1 _ _ _), by omega⟩ ⟨by omega, by omega⟩
                          · have c5710_ : v5707.toInt ≠ 0 := en_k_eq_f c5710
                            refine At.enter rfl ?_
                            refine r_aload_n (w_p1 (by decide) (Or.inr rfl) (w_p1 (by decide) (Or.inr rfl) (w_p1 (by decide) (Or.inr rfl) (w_p1 (by decide) (Or.inr rfl) (w_p1 (by decide) (Or.inr rfl) (w_p1 (by decide) (Or.inr rfl) e5659)))))) ?_
                            refine r_aload_n (w_p1 (by decide) (Or.inr rfl) (w_p1 (by decide) (Or.inr rfl) (w_p1 (by decide) (Or.inr rfl) (w_p1 (by decide) (Or.inr rfl) (w_p1 (by decide) (Or.inr rfl) (w_p1 (by decide) (Or.inr rfl) e5659)))))) ?_
                            obtain ⟨v5712, hv5712⟩ : ∃ v, gI g5653 231 45 = v := ⟨_, rfl⟩
                            refine q_getI (Sh.int hI5705.1 kx_231 rfl) v5712 (((hF5706.1 231 45 (by decide)).trans ((hF5698.1 231 45 (by decide)).trans (hF5691.1 231 45 (by decide)))).trans hv5712) ?_
                            refine r_ifs 213 rfl (fun c5713 => ?_) (fun c5713 => ?_)
                            · have c5713_ : v5712.toInt ≠ 0 := en_k_ne_t c5713
                              refine At.enter rfl ?_
                              refine r_aload_n (w_p1 (by decide) (Or.inr rfl) (w_p1 (by decide) (Or.inr rfl) (w_p1 (by decide) (Or.inr rfl) (w_p1 (by decide) (Or.inr rfl) (w_p1 (by decide) (Or.inr rfl) (w_p1 (by decide) (Or.inr rfl) e5659)))))) ?_
                              obtain ⟨v5714, hv5714⟩ : ∃ v, gI g5653 231 46 = v := ⟨_, rfl⟩
                              refine q_getI (Sh.int hI5705.1 kx_231 rfl) v5714 (((hF5706.1 231 46 (by decide)).trans ((hF5698.1 231 46 (by decide)).trans (hF5691.1 231 46 (by decide)))).trans hv5714) ?_
                              refine Ar.fall 222 rfl ?_
                              refine At.enter rfl ?_
                              refine q_putI (Sh.int hI5705.1 kx_231 rfl) rfl ?_
                              have hI5715 := HI.wI0 hI5705 kx_231 rfl (p := 231) (b := 46) (v := v5714) rfl
                              have hF5716 := Fr.wI (p := 231) (b := 46) (v := v5714) hF5709 rfl
                              refine r_aload_n (w_p1 (by decide) (Or.inr rfl) (w_p1 (by decide) (Or.inr rfl) (w_p1 (by decide) (Or.inr rfl) (w_p1 (by decide) (Or.inr rfl) (w_p1 (by decide) (Or.inr rfl) (w_p1 (by decide) (Or.inr rfl) e5659)))))) ?_
                              refine r_dup rfl ?_
                              refine q_getI (Sh.int hI5715.1 kx_231 rfl) v5712 (((gI_sI_ne (by decide)).trans ((hF5706.1 231 45 (by decide)).trans ((hF5698.1 231 45 (by decide)).trans (hF5691.1 231 45 (by decide))))).trans hv5712) ?_
                              refine r_iconst 1 rfl ?_
                              refine q_iaddO (fun v5717 _ => ?_)
                              refine q_putI (Sh.int hI5715.1 kx_231 rfl) rfl ?_
                              have hI5718 := HI.wI0 hI5715 kx_231 rfl (p := 231) (b := 45) (v := v5717) rfl
                              have hF5719 := Fr.wI (p := 231) (b := 45) (v := v5717) hF5716 rfl
                              refine Ar.fall 235 rfl ?_
                              refine At.enter rfl ?_
                              refine q_iinc (w_p1 (by decide) (Or.inr rfl) (w_p1 (by decide) (Or.inr rfl) (w_p1 (by decide) (Or.inr rfl) (w_p1 (by decide) (Or.inr rfl) (w_p1 (by decide) (Or.inr rfl) (w_p1 (by decide) (Or.inr rfl) e5663)))))) (x5652.toInt + 1) rfl (by omega) (fun v5720 hv5720 => ?_)
                              refine r_goto ?_
                              exact ih5658 (144 - v5720.toInt) _ _ ⟨v5720, by first | rfl | omega, hI5718, hF5719, (w_p1 (by decide) (Or.inr rfl) (w_p1 (by decide) (Or.inr rfl) (w_p1 (by decide) (Or.inr rfl) (w_p1 (by decide) (Or.inr rfl) (w_p1 (by decide) (Or.inr rfl) (w_p1 (by decide) (Or.inr rfl) (w_p1 (by decide) (Or.inr rfl) e5659))))))), (w_p1 (by decide) (Or.inr rfl) (w_p1 (by decide) (Or.inr rfl) (w_p1 (by decide) (Or.inr rfl) (w_p1 (by decide) (Or.inr rfl) (w_p1 (by decide) (Or.inr rfl) (w_p1 (by decide) (Or.inr rfl) (w_p1 (by decide) (Or.inr rfl) e5660))))))), (w_p1 (by decide) (Or.inr rfl) (w_p1 (by decide) (Or.inr rfl) (w_p1 (by decide) (Or.inr rfl) (w_p1 (by decide) (Or.inr rfl) (w_p1 (by decide) (Or.inr rfl) (w_p1 (by decide) (Or.inr rfl) (w_p1 (by decide) (Or.inr rfl) e5661))))))), (w_p1 (by decide) (Or.inr rfl) (w_p1 (by decide) (Or.inr rfl) (w_p1 (by decide) (Or.inr rfl) (w_p1 (by decide) (Or.inr rfl) (w_p1 (by decide) (Or.inr rfl) (w_p1 (by decide) (Or.inr rfl) (w_p1 (by decide) (Or.inr rfl) e5662))))))), (w_e1 _ _ _), by omega⟩ ⟨by omega, by omega⟩
                            · have c5713_ : v5712.toInt = 0 := en_k_ne_f c5713
                              refine At.enter rfl ?_
                              refine r_iload (w_p1 (by decide) (Or.inr rfl) (w_p1 (by decide) (Or.inr rfl) (w_p1 (by decide) (Or.inr rfl) (w_p1 (by decide) (Or.inr rfl) (w_p1 (by decide) (Or.inr rfl) (w_p1 (by decide) (Or.inr rfl) e5663)))))) ?_
                              refine r_goto ?_
                              refine At.enter rfl ?_
                              refine q_putI (Sh.int hI5705.1 kx_231 rfl) rfl ?_
                              have hI5721 := HI.wI0 hI5705 kx_231 rfl (p := 231) (b := 46) (v := x5652) rfl
                              have hF5722 := Fr.wI (p := 231) (b := 46) (v := x5652) hF5709 rfl
                              refine r_aload_n (w_p1 (by decide) (Or.inr rfl) (w_p1 (by decide) (Or.inr rfl) (w_p1 (by decide) (Or.inr rfl) (w_p1 (by decide) (Or.inr rfl) (w_p1 (by decide) (Or.inr rfl) (w_p1 (by decide) (Or.inr rfl) e5659)))))) ?_
                              refine r_dup rfl ?_
                              refine q_getI (Sh.int hI5721.1 kx_231 rfl) v5712 (((gI_sI_ne (by decide)).trans ((hF5706.1 231 45 (by decide)).trans ((hF5698.1 231 45 (by decide)).trans (hF5691.1 231 45 (by decide))))).trans hv5712) ?_
                              refine r_iconst 1 rfl ?_
                              refine q_iadd (v5712.toInt + 1) rfl (by omega) (fun v5723 hv5723 => ?_)
                              refine q_putI (Sh.int hI5721.1 kx_231 rfl) rfl ?_
                              have hI5724 := HI.wI0 hI5721 kx_231 rfl (p := 231) (b := 45) (v := v5723) rfl
                              have hF5725 := Fr.wI (p := 231) (b := 45) (v := v5723) hF5722 rfl
                              refine Ar.fall 235 rfl ?_
                              refine At.enter rfl ?_
                              refine q_iinc (w_p1 (by decide) (Or.inr rfl) (w_p1 (by decide) (Or.inr rfl) (w_p1 (by decide) (Or.inr rfl) (w_p1 (by decide) (Or.inr rfl) (w_p1 (by decide) (Or.inr rfl) (w_p1 (by decide) (Or.inr rfl) e5663)))))) (x5652.toInt + 1) rfl (by omega) (fun v5726 hv5726 => ?_)
                              refine r_goto ?_
                              exact ih5658 (144 - v5726.toInt) _ _ ⟨v5726, by first | rfl | omega, hI5724, hF5725, (w_p1 (by decide) (Or.inr rfl) (w_p1 (by decide) (Or.inr rfl) (w_p1 (by decide) (Or.inr rfl) (w_p1 (by decide) (Or.inr rfl) (w_p1 (by decide) (Or.inr rfl) (w_p1 (by decide) (Or.inr rfl) (w_p1 (by decide) (Or.inr rfl) e5659))))))), (w_p1 (by decide) (Or.inr rfl) (w_p1 (by decide) (Or.inr rfl) (w_p1 (by decide) (Or.inr rfl) (w_p1 (by decide) (Or.inr rfl) (w_p1 (by decide) (Or.inr rfl) (w_p1 (by decide) (Or.inr rfl) (w_p1 (by decide) (Or.inr rfl) e5660))))))), (w_p1 (by decide) (Or.inr rfl) (w_p1 (by decide) (Or.inr rfl) (w_p1 (by decide) (Or.inr rfl) (w_p1 (by decide) (Or.inr rfl) (w_p1 (by decide) (Or.inr rfl) (w_p1 (by decide) (Or.inr rfl) (w_p1 (by decide) (Or.inr rfl) e5661))))))), (w_p1 (by decide) (Or.inr rfl) (w_p1 (by decide) (Or.inr rfl) (w_p1 (by decide) (Or.inr rfl) (w_p1 (by decide) (Or.inr rfl) (w_p1 (by decide) (Or.inr rfl) (w_p1 (by decide) (Or.inr rfl) (w_p1 (by decide) (Or.inr rfl) e5662))))))), (w_e1 _ _ _), by omega⟩ ⟨by omega, by omega⟩
                        · have c5702_ : a2.toInt > 1 := en_i_le_f c5702
                          exfalso; omega
                    · have c5688_ : a2.toInt ≥ 2 := en_i_lt_f c5688
                      exfalso; omega
          · have c5670_ : a2.toInt = 2 := en_i_ne_f c5670
            exfalso; omega
        · have c5668_ : a2.toInt = 2 := en_i_ne_f c5668
          exfalso; omega
  · have c3921_ : a2.toInt = 0 := en_k_ne_f c3921
    refine At.enter rfl ?_
    refine r_iconst 1 rfl ?_
    refine r_goto ?_
    refine At.enter rfl ?_
    refine r_istore_n ([(3, .int 1), (0, .ref 231), (1, .int a1), (2, .int a2)]) rfl ?_
    refine r_iconst 0 rfl ?_
    refine r_istore ([(4, .int 0), (3, .int 1), (0, .ref 231), (1, .int a1), (2, .int a2)]) rfl ?_
    refine Ar.fall 36 rfl ?_
    have z_5830 : (0 : Int32).toInt = 0 := rfl
    refine w_loopI (fun n_ l_ g_ => ∃ x5817 : Int32, n_ = 1 - x5817.toInt ∧ HI g_ ∧ Fr F_X11_findSwaps_231 A_X11_findSwaps_231 g0 g_ ∧ en_get 0 l_ = some (.ref 231) ∧ en_get 1 l_ = some (.int a1) ∧ en_get 2 l_ = some (.int a2) ∧ en_get 3 l_ = some (.int 1) ∧ en_get 4 l_ = some (.int x5817) ∧ (0 ≤ x5817.toInt ∧ x5817.toInt ≤ 1)) ?_ (1 - 0) ⟨0, by first | rfl | omega, hI3919, hF3920, rfl, rfl, rfl, rfl, rfl, by decide⟩
    rintro n5822 l5821 g5818 ⟨x5817, hm5831, hI5819, hF5820, e5824, e5825, e5826, e5827, e5828, r5829⟩ ih5823
    refine At.enter rfl ?_
    refine r_iload e5828 ?_
    refine r_iload_n e5827 ?_
    refine r_ics 42 rfl (fun c5832 => ?_) (fun c5832 => ?_)
    · have c5832_ : x5817.toInt ≥ 1 := en_i_ge_t c5832
      refine At.enter rfl ?_
      refine r_vret ?_
      exact ⟨_, rfl, hI5819, hF5820, rfl⟩
    · have c5832_ : x5817.toInt < 1 := en_i_ge_f c5832
      refine At.enter rfl ?_
      refine r_iload e5828 ?_
      refine r_iload_n e5826 ?_
      refine r_iconst 2 rfl ?_
      refine r_ics 49 rfl (fun c5833 => ?_) (fun c5833 => ?_)
      · have c5833_ : a2.toInt ≠ 2 := en_i_ne_t c5833
        refine At.enter rfl ?_
        refine r_bipush 12 rfl ?_
        refine Ar.fall 57 rfl ?_
        refine At.enter rfl ?_
        refine q_idiv 12 rfl (by decide) (by omega) (fun v5834 hv5834 => ?_)
        refine r_istore _ rfl ?_
        refine r_iload (w_p1 (by decide) (Or.inr rfl) e5828) ?_
        refine r_iload_n (w_p1 (by decide) (Or.inr rfl) e5826) ?_
        refine r_iconst 2 rfl ?_
        refine r_ics 67 rfl (fun c5835 => ?_) (fun c5835 => ?_)
        · have c5835_ : a2.toInt ≠ 2 := en_i_ne_t c5835
          refine At.enter rfl ?_
          refine r_iconst 1 rfl ?_
          refine Ar.fall 74 rfl ?_
          refine At.enter rfl ?_
          refine q_idiv 1 rfl (by decide) (by omega) (fun v5836 hv5836 => ?_)
          refine r_bipush 12 rfl ?_
          refine q_irem 12 rfl (by decide) (by omega) (fun v5837 hv5837 => ?_)
          refine r_istore _ rfl ?_
          refine r_iload (w_p1 (by decide) (Or.inr rfl) (w_p1 (by decide) (Or.inr rfl) e5828)) ?_
          refine r_bipush 12 rfl ?_
          refine q_idiv 12 rfl (by decide) (by omega) (fun v5838 hv5838 => ?_)
          refine r_bipush 12 rfl ?_
          refine q_irem 12 rfl (by decide) (by omega) (fun v5839 hv5839 => ?_)
          refine r_istore _ rfl ?_
          refine r_iload (w_p1 (by decide) (Or.inr rfl) (w_p1 (by decide) (Or.inr rfl) (w_p1 (by decide) (Or.inr rfl) e5828))) ?_
          refine r_bipush 12 rfl ?_
          refine q_irem 12 rfl (by decide) (by omega) (fun v5840 hv5840 => ?_)
          refine r_istore _ rfl ?_
          refine r_iload_n (w_p1 (by decide) (Or.inr rfl) (w_p1 (by decide) (Or.inr rfl) (w_p1 (by decide) (Or.inr rfl) (w_p1 (by decide) (Or.inr rfl) e5826)))) ?_
          refine r_ifs 101 rfl (fun c5841 => ?_) (fun c5841 => ?_)
          · have c5841_ : a2.toInt = 0 := en_k_eq_t c5841
            refine At.enter rfl ?_
            refine r_iconst 1 rfl ?_
            refine r_goto ?_
            refine At.enter rfl ?_
            refine r_istore _ rfl ?_
            refine r_iload (w_e1 _ _ _) ?_
            refine r_iff 129 rfl (by decide) ?_
            refine At.enter rfl ?_
            refine r_iload_n (w_p1 (by decide) (Or.inr rfl) (w_p1 (by decide) (Or.inr rfl) (w_p1 (by decide) (Or.inr rfl) (w_p1 (by decide) (Or.inr rfl) (w_p1 (by decide) (Or.inr rfl) e5826))))) ?_
            refine r_iconst 2 rfl ?_
            refine r_ics 134 rfl (fun c5842 => ?_) (fun c5842 => ?_)
            · have c5842_ : a2.toInt < 2 := en_i_lt_t c5842
              refine At.enter rfl ?_
              refine r_iconst 1 rfl ?_
              refine r_goto ?_
              refine At.enter rfl ?_
              refine r_istore _ rfl ?_
              refine r_iload (w_e1 _ _ _) ?_
              refine r_iff 162 rfl (by decide) ?_
              refine At.enter rfl ?_
              refine r_aload_n (w_p1 (by decide) (Or.inr rfl) (w_p1 (by decide) (Or.inr rfl) (w_p1 (by decide) (Or.inr rfl) (w_p1 (by decide) (Or.inr rfl) (w_p1 (by decide) (Or.inr rfl) (w_p1 (by decide) (Or.inr rfl) e5824)))))) ?_
              refine r_callV 166 rfl [.ref 231] [] (Nat.le_of_ble_eq_true rfl) rfl (T_X11_asIs_231 _ hI5819) ?_
              rintro _ _ ⟨g5843, rfl, hI5844, hF5845, rfl⟩
              refine At.stn ?_
              have hF5848 := Fr.tr hF5820 hF5845 rfl rfl
              refine At.enter rfl ?_
              refine r_iload_n (w_p1 (by decide) (Or.inr rfl) (w_p1 (by decide) (Or.inr rfl) (w_p1 (by decide) (Or.inr rfl) (w_p1 (by decide) (Or.inr rfl) (w_p1 (by decide) (Or.inr rfl) (w_p1 (by decide) (Or.inr rfl) e5826)))))) ?_
              refine r_ifs 170 rfl (fun c5849 => ?_) (fun c5849 => ?_)
              · have c5849_ : a2.toInt ≤ 0 := en_k_le_t c5849
                refine At.enter rfl ?_
                refine r_iload_n (w_p1 (by decide) (Or.inr rfl) (w_p1 (by decide) (Or.inr rfl) (w_p1 (by decide) (Or.inr rfl) (w_p1 (by decide) (Or.inr rfl) (w_p1 (by decide) (Or.inr rfl) (w_p1 (by decide) (Or.inr rfl) e5826)))))) ?_
                refine r_iconst 1 rfl ?_
                refine r_ics 183 rfl (fun c5850 => ?_) (fun c5850 => ?_)
                · have c5850_ : a2.toInt ≤ 1 := en_i_le_t c5850
                  refine At.enter rfl ?_
                  refine r_aload_n (w_p1 (by decide) (Or.inr rfl) (w_p1 (by decide) (Or.inr rfl) (w_p1 (by decide) (Or.inr rfl) (w_p1 (by decide) (Or.inr rfl) (w_p1 (by decide) (Or.inr rfl) (w_p1 (by decide) (Or.inr rfl) e5824)))))) ?_
                  refine r_iload_n (w_p1 (by decide) (Or.inr rfl) (w_p1 (by decide) (Or.inr rfl) (w_p1 (by decide) (Or.inr rfl) (w_p1 (by decide) (Or.inr rfl) (w_p1 (by decide) (Or.inr rfl) (w_p1 (by decide) (Or.inr rfl) e5825)))))) ?_
                  refine r_aload_n (w_p1 (by decide) (Or.inr rfl) (w_p1 (by decide) (Or.inr rfl) (w_p1 (by decide) (Or.inr rfl) (w_p1 (by decide) (Or.inr rfl) (w_p1 (by decide) (Or.inr rfl) (w_p1 (by decide) (Or.inr rfl) e5824)))))) ?_
                  refine q_getR (Sh.ref hI5844.1 kx_231 rfl) ?_
                  refine r_iconst 5 rfl ?_
                  obtain ⟨v5851, hv5851⟩ : ∃ v, eA g0 233 5 = v := ⟨_, rfl⟩
                  have wv5851 := HI.t5 hI0
                  rw [hv5851] at wv5851
                  refine q_iald (Sh.arr hI5844.1 ka_233) 5 rfl (by decide) v5851 ((eA_c ((hF5845.2.1 233 (by decide)).trans (hF5820.2.1 233 (by decide)))).trans hv5851) ?_
                  refine r_callV 202 rfl [.ref 231, .int a1, .int v5851] [] (Nat.le_of_ble_eq_true rfl) rfl (T_X11_allCome_231 _ hI5844 a1 v5851) ?_
                  rintro _ _ ⟨g5852, rfl, hI5853, hF5854, v5855, rfl, hr5856⟩
                  refine At.sti ?_
                  have hF5857 := Fr.tr hF5848 hF5854 rfl rfl
                  refine At.enter rfl ?_
                  refine r_ifs 205 rfl (fun c5858 => ?_) (fun c5858 => ?_)
                  · have c5858_ : v5855.toInt = 0 := en_k_eq_t c5858
                    refine At.enter rfl ?_
                    refine q_iinc (w_p1 (by decide) (Or.inr rfl) (w_p1 (by decide) (Or.inr rfl) (w_p1 (by decide) (Or.inr rfl) (w_p1 (by decide) (Or.inr rfl) (w_p1 (by decide) (Or.inr rfl) (w_p1 (by decide) (Or.inr rfl) e5828)))))) (x5817.toInt + 1) rfl (by omega) (fun v5859 hv5859 => ?_)
                    refine r_goto ?_
                    exact ih5823 (1 - v5859.toInt) _ _ ⟨v5859, by first | rfl | omega, hI5853, hF5857, (w_p1 (by decide) (Or.inr rfl) (w_p1 (by decide) (Or.inr rfl) (w_p1 (by decide) (Or.inr rfl) (w_p1 (by decide) (Or.inr rfl) (w_p1 (by decide) (Or.inr rfl) (w_p1 (by decide) (Or.inr rfl) (w_p1 (by decide) (Or.inr rfl) e5824))))))), (w_p1 (by decide) (Or.inr rfl) (w_p1 (by decide) (Or.inr rfl) (w_p1 (by decide) (Or.inr rfl) (w_p1 (by decide) (Or.inr rfl) (w_p1 (by decide) (Or.inr rfl) (w_p1 (by decide) (Or.inr rfl) (w_p1 (by decide) (Or.inr rfl) e5825))))))), (w_p1 (by decide) (Or.inr rfl) (w_p1 (by decide) (Or.inr rfl) (w_p1 (by decide) (Or.inr rfl) (w_p1 (by decide) (Or.inr rfl) (w_p1 (by decide) (Or.inr rfl) (w_p1 (by decide) (Or.inr rfl) (w_p1 (by decide) (Or.inr rfl) e5826))))))), (w_p1 (by decide) (Or.inr rfl) (w_p1 (by decide) (Or.inr rfl) (w_p1 (by decide) (Or.inr rfl) (w_p1 (by decide) (Or.inr rfl) (w_p1 (by decide) (Or.inr rfl) (w_p1 (by decide) (Or.inr rfl) (w_p1 (by decide) (Or.inr rfl) e5827))))))), (w_e1 _ _ _), by omega⟩ ⟨by omega, by omega⟩
                  · have c5858_ : v5855.toInt ≠ 0 := en_k_eq_f c5858
                    refine At.enter rfl ?_
                    refine r_aload_n (w_p1 (by decide) (Or.inr rfl) (w_p1 (by decide) (Or.inr rfl) (w_p1 (by decide) (Or.inr rfl) (w_p1 (by decide) (Or.inr rfl) (w_p1 (by decide) (Or.inr rfl) (w_p1 (by decide) (Or.inr rfl) e5824)))))) ?_
                    refine r_aload_n (w_p1 (by decide) (Or.inr rfl) (w_p1 (by decide) (Or.inr rfl) (w_p1 (by decide) (Or.inr rfl) (w_p1 (by decide) (Or.inr rfl) (w_p1 (by decide) (Or.inr rfl) (w_p1 (by decide) (Or.inr rfl) e5824)))))) ?_
                    obtain ⟨v5860, hv5860⟩ : ∃ v, gI g5818 231 45 = v := ⟨_, rfl⟩
                    refine q_getI (Sh.int hI5853.1 kx_231 rfl) v5860 (((hF5854.1 231 45 (by decide)).trans (hF5845.1 231 45 (by decide))).trans hv5860) ?_
                    refine r_ifs 213 rfl (fun c5861 => ?_) (fun c5861 => ?_)
                    · have c5861_ : v5860.toInt ≠ 0 := en_k_ne_t c5861
                      refine At.enter rfl ?_
                      refine r_aload_n (w_p1 (by decide) (Or.inr rfl) (w_p1 (by decide) (Or.inr rfl) (w_p1 (by decide) (Or.inr rfl) (w_p1 (by decide) (Or.inr rfl) (w_p1 (by decide) (Or.inr rfl) (w_p1 (by decide) (Or.inr rfl) e5824)))))) ?_
                      obtain ⟨v5862, hv5862⟩ : ∃ v, gI g5818 231 46 = v := ⟨_, rfl⟩
                      refine q_getI (Sh.int hI5853.1 kx_231 rfl) v5862 (((hF5854.1 231 46 (by decide)).trans (hF5845.1 231 46 (by decide))).trans hv5862) ?_
                      refine Ar.fall 222 rfl ?_
                      refine At.enter rfl ?_
                      refine q_putI (Sh.int hI5853.1 kx_231 rfl) rfl ?_
                      have hI5863 := HI.wI0 hI5853 kx_231 rfl (p := 231) (b := 46) (v := v5862) rfl
                      have hF5864 := Fr.wI (p := 231) (b := 46) (v := v5862) hF5857 rfl
                      refine r_aload_n (w_p1 (by decide) (Or.inr rfl) (w_p1 (by decide) (Or.inr rfl) (w_p1 (by decide) (Or.inr rfl) (w_p1 (by decide) (Or.inr rfl) (w_p1 (by decide) (Or.inr rfl) (w_p1 (by decide) (Or.inr rfl) e5824)))))) ?_
                      refine r_dup rfl ?_
                      refine q_getI (Sh.int hI5863.1 kx_231 rfl) v5860 (((gI_sI_ne (by decide)).trans ((hF5854.1 231 45 (by decide)).trans (hF5845.1 231 45 (by decide)))).trans hv5860) ?_
                      refine r_iconst 1 rfl ?_
                      refine q_iaddO (fun v5865 _ => ?_)
                      refine q_putI (Sh.int hI5863.1 kx_231 rfl) rfl ?_
                      have hI5866 := HI.wI0 hI5863 kx_231 rfl (p := 231) (b := 45) (v := v5865) rfl
                      have hF5867 := Fr.wI (p := 231) (b := 45) (v := v5865) hF5864 rfl
                      refine Ar.fall 235 rfl ?_
                      refine At.enter rfl ?_
                      refine q_iinc (w_p1 (by decide) (Or.inr rfl) (w_p1 (by decide) (Or.inr rfl) (w_p1 (by decide) (Or.inr rfl) (w_p1 (by decide) (Or.inr rfl) (w_p1 (by decide) (Or.inr rfl) (w_p1 (by decide) (Or.inr rfl) e5828)))))) (x5817.toInt + 1) rfl (by omega) (fun v5868 hv5868 => ?_)
                      refine r_goto ?_
                      exact ih5823 (1 - v5868.toInt) _ _ ⟨v5868, by first | rfl | omega, hI5866, hF5867, (w_p1 (by decide) (Or.inr rfl) (w_p1 (by decide) (Or.inr rfl) (w_p1 (by decide) (Or.inr rfl) (w_p1 (by decide) (Or.inr rfl) (w_p1 (by decide) (Or.inr rfl) (w_p1 (by decide) (Or.inr rfl) (w_p1 (by decide) (Or.inr rfl) e5824))))))), (w_p1 (by decide) (Or.inr rfl) (w_p1 (by decide) (Or.inr rfl) (w_p1 (by decide) (Or.inr rfl) (w_p1 (by decide) (Or.inr rfl) (w_p1 (by decide) (Or.inr rfl) (w_p1 (by decide) (Or.inr rfl) (w_p1 (by decide) (Or.inr rfl) e5825))))))), (w_p1 (by decide) (Or.inr rfl) (w_p1 (by decide) (Or.inr rfl) (w_p1 (by decide) (Or.inr rfl) (w_p1 (by decide) (Or.inr rfl) (w_p1 (by decide) (Or.inr rfl) (w_p1 (by decide) (Or.inr rfl) (w_p1 (by decide) (Or.inr rfl) e5826))))))), (w_p1 (by decide) (Or.inr rfl) (w_p1 (by decide) (Or.inr rfl) (w_p1 (by decide) (Or.inr rfl) (w_p1 (by decide) (Or.inr rfl) (w_p1 (by decide) (Or.inr rfl) (w_p1 (by decide) (Or.inr rfl) (w_p1 (by decide) (Or.inr rfl) e5827))))))), (w_e1 _ _ _), by omega⟩ ⟨by omega, by omega⟩
                    · have c5861_ : v5860.toInt = 0 := en_k_ne_f c5861
                      refine At.enter rfl ?_
                      refine r_iload (w_p1 (by decide) (Or.inr rfl) (w_p1 (by decide) (Or.inr rfl) (w_p1 (by decide) (Or.inr rfl) (w_p1 (by decide) (Or.inr rfl) (w_p1 (by decide) (Or.inr rfl) (w_p1 (by decide) (Or.inr rfl) e5828)))))) ?_
                      refine r_goto ?_
                      refine At.enter rfl ?_
                      refine q_putI (Sh.int hI5853.1 kx_231 rfl) rfl ?_
                      have hI5869 := HI.wI0 hI5853 kx_231 rfl (p := 231) (b := 46) (v := x5817) rfl
                      have hF5870 := Fr.wI (p := 231) (b := 46) (v := x5817) hF5857 rfl
                      refine r_aload_n (w_p1 (by decide) (Or.inr rfl) (w_p1 (by decide) (Or.inr rfl) (w_p1 (by decide) (Or.inr rfl) (w_p1 (by decide) (Or.inr rfl) (w_p1 (by decide) (Or.inr rfl) (w_p1 (by decide) (Or.inr rfl) e5824)))))) ?_
                      refine r_dup rfl ?_
                      refine q_getI (Sh.int hI5869.1 kx_231 rfl) v5860 (((gI_sI_ne (by decide)).trans ((hF5854.1 231 45 (by decide)).trans (hF5845.1 231 45 (by decide)))).trans hv5860) ?_
                      refine r_iconst 1 rfl ?_
                      refine q_iadd (v5860.toInt + 1) rfl (by omega) (fun v5871 hv5871 => ?_)
                      refine q_putI (Sh.int hI5869.1 kx_231 rfl) rfl ?_
                      have hI5872 := HI.wI0 hI5869 kx_231 rfl (p := 231) (b := 45) (v := v5871) rfl
                      have hF5873 := Fr.wI (p := 231) (b := 45) (v := v5871) hF5870 rfl
                      refine Ar.fall 235 rfl ?_
                      refine At.enter rfl ?_
                      refine q_iinc (w_p1 (by decide) (Or.inr rfl) (w_p1 (by decide) (Or.inr rfl) (w_p1 (by decide) (Or.inr rfl) (w_p1 (by decide) (Or.inr rfl) (w_p1 (by decide) (Or.inr rfl) (w_p1 (by decide) (Or.inr rfl) e5828)))))) (x5817.toInt + 1) rfl (by omega) (fun v5874 hv5874 => ?_)
                      refine r_goto ?_
                      exact ih5823 (1 - v5874.toInt) _ _ ⟨v5874, by first | rfl | omega, hI5872, hF5873, (w_p1 (by decide) (Or.inr rfl) (w_p1 (by decide) (Or.inr rfl) (w_p1 (by decide) (Or.inr rfl) (w_p1 (by decide) (Or.inr rfl) (w_p1 (by decide) (Or.inr rfl) (w_p1 (by decide) (Or.inr rfl) (w_p1 (by decide) (Or.inr rfl) e5824))))))), (w_p1 (by decide) (Or.inr rfl) (w_p1 (by decide) (Or.inr rfl) (w_p1 (by decide) (Or.inr rfl) (w_p1 (by decide) (Or.inr rfl) (w_p1 (by decide) (Or.inr rfl) (w_p1 (by decide) (Or.inr rfl) (w_p1 (by decide) (Or.inr rfl) e5825))))))), (w_p1 (by decide) (Or.inr rfl) (w_p1 (by decide) (Or.inr rfl) (w_p1 (by decide) (Or.inr rfl) (w_p1 (by decide) (Or.inr rfl) (w_p1 (by decide) (Or.inr rfl) (w_p1 (by decide) (Or.inr rfl) (w_p1 (by decide) (Or.inr rfl) e5826))))))), (w_p1 (by decide) (Or.inr rfl) (w_p1 (by decide) (Or.inr rfl) (w_p1 (by decide) (Or.inr rfl) (w_p1 (by decide) (Or.inr rfl) (w_p1 (by decide) (Or.inr rfl) (w_p1 (by decide) (Or.inr rfl) (w_p1 (by decide) (Or.inr rfl) e5827))))))), (w_e1 _ _ _), by omega⟩ ⟨by omega, by omega⟩
                · have c5850_ : a2.toInt > 1 := en_i_le_f c5850
                  exfalso; omega
              · have c5849_ : a2.toInt > 0 := en_k_le_f c5849
                exfalso; omega
            · have c5842_ : a2.toInt ≥ 2 := en_i_lt_f c5842
              exfalso; omega
          · have c5841_ : a2.toInt ≠ 0 := en_k_eq_f c5841
            exfalso; omega
        · have c5835_ : a2.toInt = 2 := en_i_ne_f c5835
          exfalso; omega
      · have c5833_ : a2.toInt = 2 := en_i_ne_f c5833
        exfalso; omega

def F_X11_swaps_231 : List (Nat × Nat) := [(231, 0), (231, 27), (231, 30), (231, 31), (231, 32), (231, 36), (231, 45), (231, 46)]
def A_X11_swaps_231 : List Nat := [246, 247, 248, 250, 251, 252, 253, 254, 255, 256]
set_option maxRecDepth 100000 in
set_option maxHeartbeats 4000000 in
theorem T_X11_swaps_231 (d : Nat) {N : Nat} {g0 : List en_E} (hI0 : HI g0) (a1 : Int32) (a2 : Int32) : Ev (d + 10) 239 [.ref 231, .int a1, .int a2] (g0, N) (fun w h' => ∃ g', h' = (g', N) ∧ HI g' ∧ Fr F_X11_swaps_231 A_X11_swaps_231 g0 g' ∧ ∃ r : Int32, w = some (.int r) ∧ True) := by
  have hF0 : Fr F_X11_swaps_231 A_X11_swaps_231 g0 g0 := Fr.rf
  refine Ev.mk rfl rfl ⟨Nat.le_of_ble_eq_true rfl, Or.inr (q_rc hI0.1 kx_231 rfl)⟩ ?_
  show At _ none _ _ (0, [(0, .ref 231), (1, .int a1), (2, .int a2)], [], (_, _)) _
  refine At.enter rfl ?_
  refine r_aload_n rfl ?_
  refine r_iconst 0 rfl ?_
  refine q_putI (Sh.int hI0.1 kx_231 rfl) rfl ?_
  have hI359 := HI.wI0 hI0 kx_231 rfl (p := 231) (b := 0) (v := 0) rfl
  have hF360 := Fr.wI (p := 231) (b := 0) (v := 0) hF0 rfl
  refine r_iload_n rfl ?_
  refine q_i2l (fun v361 hv361 => ?_)
  refine r_lconst 0 rfl ?_
  refine r_iconst 1 rfl ?_
  refine r_aload_n rfl ?_
  refine q_getR (Sh.ref hI359.1 kx_231 rfl) ?_
  refine r_iconst 1 rfl ?_
  obtain ⟨v362, hv362⟩ : ∃ v, eA g0 233 1 = v := ⟨_, rfl⟩
  have tv362 := congrArg Int32.toInt hv362
  have wv362 := HI.t1 hI0
  rw [hv362] at wv362
  refine q_iald (Sh.arr hI359.1 ka_233) 1 rfl (by decide) v362 ((eA_c (gA_sI)).trans hv362) ?_
  refine q_ishlO (fun v363 hv363 => ?_)
  refine q_i2l (fun v364 hv364 => ?_)
  refine r_lconst 1 rfl ?_
  have bv365 := q_bnd v363
  refine q_lsub (v364.toInt - 1) rfl (by omega) (fun v366 hv366 => ?_)
  refine q_inlS 22 rfl [.long v361, .long 0, .long v366] [] (Nat.le_of_ble_eq_true rfl) rfl ?_
  refine Ev.mk rfl rfl ⟨Nat.le_of_ble_eq_true rfl, Or.inl rfl⟩ ?_
  show At _ none _ _ (0, [(0, .long v361), (2, .long 0), (4, .long v366)], [], (_, _)) _
  refine At.enter rfl ?_
  refine r_lload_n rfl ?_
  refine r_lload_n rfl ?_
  refine r_lcmp _ rfl ?_
  refine r_ifs 6 rfl (fun c367 => ?_) (fun c367 => ?_)
  · have c367_ : v361.toInt < 0 := en_j_lt_t c367
    refine At.enter rfl ?_
    refine r_iconst 0 rfl ?_
    refine Ar.fall 18 rfl ?_
    refine At.enter rfl ?_
    refine q_iretz (by decide) ?_
    refine At.enter rfl ?_
    refine r_ift (by decide) ?_
    refine At.enter rfl ?_
    refine r_iconst (-1) rfl ?_
    refine r_ireti ?_
    exact ⟨_, rfl, hI359, hF360, _, rfl, trivial⟩
  · have c367_ : v361.toInt ≥ 0 := en_j_lt_f c367
    refine At.enter rfl ?_
    refine r_lload_n rfl ?_
    refine r_lload rfl ?_
    refine r_lcmp _ rfl ?_
    refine r_ifs 13 rfl (fun c368 => ?_) (fun c368 => ?_)
    · have c368_ : v361.toInt > v366.toInt := en_j_gt_t c368
      refine At.enter rfl ?_
      refine r_iconst 0 rfl ?_
      refine Ar.fall 18 rfl ?_
      refine At.enter rfl ?_
      refine q_iretz (by decide) ?_
      refine At.enter rfl ?_
      refine r_ift (by decide) ?_
      refine At.enter rfl ?_
      refine r_iconst (-1) rfl ?_
      refine r_ireti ?_
      exact ⟨_, rfl, hI359, hF360, _, rfl, trivial⟩
    · have c368_ : v361.toInt ≤ v366.toInt := en_j_gt_f c368
      refine At.enter rfl ?_
      refine r_iconst 1 rfl ?_
      refine r_goto ?_
      refine At.enter rfl ?_
      refine q_iretz (by decide) ?_
      refine At.enter rfl ?_
      refine r_iff 25 rfl (by decide) ?_
      refine At.enter rfl ?_
      refine r_iload_n rfl ?_
      refine q_i2l (fun v369 hv369 => ?_)
      refine r_lconst 0 rfl ?_
      refine r_ldc2 5 rfl ?_
      refine q_inlS 34 rfl [.long v369, .long 0, .long 5] [] (Nat.le_of_ble_eq_true rfl) rfl ?_
      refine Ev.mk rfl rfl ⟨Nat.le_of_ble_eq_true rfl, Or.inl rfl⟩ ?_
      show At _ none _ _ (0, [(0, .long v369), (2, .long 0), (4, .long 5)], [], (_, _)) _
      refine At.enter rfl ?_
      refine r_lload_n rfl ?_
      refine r_lload_n rfl ?_
      refine r_lcmp _ rfl ?_
      refine r_ifs 6 rfl (fun c370 => ?_) (fun c370 => ?_)
      · have c370_ : v369.toInt < 0 := en_j_lt_t c370
        refine At.enter rfl ?_
        refine r_iconst 0 rfl ?_
        refine Ar.fall 18 rfl ?_
        refine At.enter rfl ?_
        refine q_iretz (by decide) ?_
        refine At.enter rfl ?_
        refine r_iff 37 rfl (by decide) ?_
        refine At.enter rfl ?_
        refine r_iconst (-1) rfl ?_
        refine r_ireti ?_
        exact ⟨_, rfl, hI359, hF360, _, rfl, trivial⟩
      · have c370_ : v369.toInt ≥ 0 := en_j_lt_f c370
        refine At.enter rfl ?_
        refine r_lload_n rfl ?_
        refine r_lload rfl ?_
        refine r_lcmp _ rfl ?_
        refine r_ifs 13 rfl (fun c371 => ?_) (fun c371 => ?_)
        · have c371_ : v369.toInt > 5 := en_j_gt_t c371
          refine At.enter rfl ?_
          refine r_iconst 0 rfl ?_
          refine Ar.fall 18 rfl ?_
          refine At.enter rfl ?_
          refine q_iretz (by decide) ?_
          refine At.enter rfl ?_
          refine r_iff 37 rfl (by decide) ?_
          refine At.enter rfl ?_
          refine r_iconst (-1) rfl ?_
          refine r_ireti ?_
          exact ⟨_, rfl, hI359, hF360, _, rfl, trivial⟩
        · have c371_ : v369.toInt ≤ 5 := en_j_gt_f c371
          refine At.enter rfl ?_
          refine r_iconst 1 rfl ?_
          refine r_goto ?_
          refine At.enter rfl ?_
          refine q_iretz (by decide) ?_
          refine At.enter rfl ?_
          refine r_ift (by decide) ?_
          refine At.enter rfl ?_
          refine r_iconst 0 rfl ?_
          refine r_istore_n ([(3, .int 0), (0, .ref 231), (1, .int a1), (2, .int a2)]) rfl ?_
          refine Ar.fall 41 rfl ?_
          have z_501 : (0 : Int32).toInt = 0 := rfl
          refine w_loopI (fun n_ l_ g_ => ∃ x489 : Int32, n_ = 3 - x489.toInt ∧ HI g_ ∧ Fr F_X11_swaps_231 A_X11_swaps_231 g0 g_ ∧ en_get 0 l_ = some (.ref 231) ∧ en_get 1 l_ = some (.int a1) ∧ en_get 2 l_ = some (.int a2) ∧ en_get 3 l_ = some (.int x489) ∧ (0 ≤ x489.toInt ∧ x489.toInt ≤ 3)) ?_ (3 - 0) ⟨0, by first | rfl | omega, hI359, hF360, rfl, rfl, rfl, rfl, by decide⟩
          rintro n494 l493 g490 ⟨x489, hm502, hI491, hF492, e496, e497, e498, e499, r500⟩ ih495
          refine At.enter rfl ?_
          refine r_iload_n e499 ?_
          refine r_iconst 3 rfl ?_
          refine r_ics 46 rfl (fun c503 => ?_) (fun c503 => ?_)
          · have c503_ : x489.toInt ≥ 3 := en_i_ge_t c503
            refine At.enter rfl ?_
            refine r_iload_n e498 ?_
            refine r_iconst 5 rfl ?_
            refine r_ics 206 rfl (fun c504 => ?_) (fun c504 => ?_)
            · have c504_ : a2.toInt ≠ 5 := en_i_ne_t c504
              refine At.enter rfl ?_
              refine r_iconst (-1) rfl ?_
              refine Ar.fall 211 rfl ?_
              refine At.enter rfl ?_
              refine r_ireti ?_
              exact ⟨_, rfl, hI491, hF492, _, rfl, trivial⟩
            · have c504_ : a2.toInt = 5 := en_i_ne_f c504
              refine At.enter rfl ?_
              refine r_iconst 0 rfl ?_
              refine r_goto ?_
              refine At.enter rfl ?_
              refine r_ireti ?_
              exact ⟨_, rfl, hI491, hF492, _, rfl, trivial⟩
          · have c503_ : x489.toInt < 3 := en_i_ge_f c503
            refine At.enter rfl ?_
            refine r_aload_n e496 ?_
            refine r_iload_n e497 ?_
            refine r_iload_n e499 ?_
            refine r_callV 52 rfl [.ref 231, .int a1, .int x489] [] (Nat.le_of_ble_eq_true rfl) rfl (T_X11_findSwaps_231 _ hI491 a1 x489 (by omega)) ?_
            rintro _ _ ⟨g505, rfl, hI506, hF507, rfl⟩
            refine At.stn ?_
            have hF510 := Fr.tr hF492 hF507 rfl rfl
            refine At.enter rfl ?_
            refine r_aload_n e496 ?_
            obtain ⟨v511, hv511⟩ : ∃ v, gI g505 231 45 = v := ⟨_, rfl⟩
            refine q_getI (Sh.int hI506.1 kx_231 rfl) v511 hv511 ?_
            refine r_ifs 59 rfl (fun c512 => ?_) (fun c512 => ?_)
            · have c512_ : v511.toInt ≤ 0 := en_k_le_t c512
              refine At.enter rfl ?_
              refine q_iinc e499 (x489.toInt + 1) rfl (by omega) (fun v513 hv513 => ?_)
              refine r_goto ?_
              exact ih495 (3 - v513.toInt) _ _ ⟨v513, by first | rfl | omega, hI506, hF510, (w_p1 (by decide) (Or.inr rfl) e496), (w_p1 (by decide) (Or.inr rfl) e497), (w_p1 (by decide) (Or.inr rfl) e498), (w_e1 _ _ _), by omega⟩ ⟨by omega, by omega⟩
            · have c512_ : v511.toInt > 0 := en_k_le_f c512
              refine At.enter rfl ?_
              refine r_iload_n e499 ?_
              refine r_iconst 2 rfl ?_
              refine r_ics 64 rfl (fun c514 => ?_) (fun c514 => ?_)
              · have c514_ : x489.toInt ≠ 2 := en_i_ne_t c514
                refine At.enter rfl ?_
                refine r_aload_n e496 ?_
                obtain ⟨v515, hv515⟩ : ∃ v, gI g505 231 46 = v := ⟨_, rfl⟩
                refine q_getI (Sh.int hI506.1 kx_231 rfl) v515 hv515 ?_
                refine Ar.fall 79 rfl ?_
                refine At.enter rfl ?_
                refine r_istore _ rfl ?_
                refine r_aload_n (w_p1 (by decide) (Or.inr rfl) e496) ?_
                refine q_getI (Sh.int hI506.1 kx_231 rfl) v515 hv515 ?_
                refine r_sipush 144 rfl ?_
                refine q_iremO (by decide) (fun v516 _ => ?_)
                refine r_istore _ rfl ?_
                refine r_iload_n (w_p1 (by decide) (Or.inr rfl) (w_p1 (by decide) (Or.inr rfl) e498)) ?_
                by_cases c517_0 : a2.toInt = 0
                · refine r_tsw 128 (by rw [c517_0]; rfl) ?_
                  refine At.enter rfl ?_
                  refine r_iload_n (w_p1 (by decide) (Or.inr rfl) (w_p1 (by decide) (Or.inr rfl) e499)) ?_
                  refine r_ireti ?_
                  exact ⟨_, rfl, hI506, hF510, _, rfl, trivial⟩
                by_cases c517_1 : a2.toInt = 1
                · refine r_tsw 130 (by rw [c517_1]; rfl) ?_
                  refine At.enter rfl ?_
                  refine r_iload_n (w_p1 (by decide) (Or.inr rfl) (w_p1 (by decide) (Or.inr rfl) e499)) ?_
                  refine r_iconst 1 rfl ?_
                  refine r_ics 135 rfl (fun c518 => ?_) (fun c518 => ?_)
                  · have c518_ : x489.toInt ≥ 1 := en_i_ge_t c518
                    refine At.enter rfl ?_
                    refine r_iload (w_p1 (by decide) (Or.inr rfl) (w_e1 _ _ _)) ?_
                    refine r_bipush 12 rfl ?_
                    refine q_idivO (by decide) (fun v519 _ => ?_)
                    refine Ar.fall 144 rfl ?_
                    refine At.enter rfl ?_
                    refine r_ireti ?_
                    exact ⟨_, rfl, hI506, hF510, _, rfl, trivial⟩
                  · have c518_ : x489.toInt < 1 := en_i_ge_f c518
                    refine At.enter rfl ?_
                    refine r_iconst (-1) rfl ?_
                    refine r_goto ?_
                    refine At.enter rfl ?_
                    refine r_ireti ?_
                    exact ⟨_, rfl, hI506, hF510, _, rfl, trivial⟩
                by_cases c517_2 : a2.toInt = 2
                · refine r_tsw 145 (by rw [c517_2]; rfl) ?_
                  refine At.enter rfl ?_
                  refine r_iload_n (w_p1 (by decide) (Or.inr rfl) (w_p1 (by decide) (Or.inr rfl) e499)) ?_
                  refine r_iconst 1 rfl ?_
                  refine r_ics 150 rfl (fun c520 => ?_) (fun c520 => ?_)
                  · have c520_ : x489.toInt ≥ 1 := en_i_ge_t c520
                    refine At.enter rfl ?_
                    refine r_iload (w_p1 (by decide) (Or.inr rfl) (w_e1 _ _ _)) ?_
                    refine r_bipush 12 rfl ?_
                    refine q_iremO (by decide) (fun v521 _ => ?_)
                    refine Ar.fall 159 rfl ?_
                    refine At.enter rfl ?_
                    refine r_ireti ?_
                    exact ⟨_, rfl, hI506, hF510, _, rfl, trivial⟩
                  · have c520_ : x489.toInt < 1 := en_i_ge_f c520
                    refine At.enter rfl ?_
                    refine r_iconst (-1) rfl ?_
                    refine r_goto ?_
                    refine At.enter rfl ?_
                    refine r_ireti ?_
                    exact ⟨_, rfl, hI506, hF510, _, rfl, trivial⟩
                by_cases c517_3 : a2.toInt = 3
                · refine r_tsw 160 (by rw [c517_3]; rfl) ?_
                  refine At.enter rfl ?_
                  refine r_iload_n (w_p1 (by decide) (Or.inr rfl) (w_p1 (by decide) (Or.inr rfl) e499)) ?_
                  refine r_iconst 2 rfl ?_
                  refine r_ics 165 rfl (fun c522 => ?_) (fun c522 => ?_)
                  · have c522_ : x489.toInt ≥ 2 := en_i_ge_t c522
                    exfalso; omega
                  · have c522_ : x489.toInt < 2 := en_i_ge_f c522
                    refine At.enter rfl ?_
                    refine r_iconst (-1) rfl ?_
                    refine r_goto ?_
                    refine At.enter rfl ?_
                    refine r_ireti ?_
                    exact ⟨_, rfl, hI506, hF510, _, rfl, trivial⟩
                by_cases c517_4 : a2.toInt = 4
                · refine r_tsw 175 (by rw [c517_4]; rfl) ?_
                  refine At.enter rfl ?_
                  refine r_iload_n (w_p1 (by decide) (Or.inr rfl) (w_p1 (by decide) (Or.inr rfl) e499)) ?_
                  refine r_iconst 2 rfl ?_
                  refine r_ics 180 rfl (fun c523 => ?_) (fun c523 => ?_)
                  · have c523_ : x489.toInt ≥ 2 := en_i_ge_t c523
                    exfalso; omega
                  · have c523_ : x489.toInt < 2 := en_i_ge_f c523
                    refine At.enter rfl ?_
                    refine r_iconst (-1) rfl ?_
                    refine r_goto ?_
                    refine At.enter rfl ?_
                    refine r_ireti ?_
                    exact ⟨_, rfl, hI506, hF510, _, rfl, trivial⟩
                have c524 : a2.toInt < 0 ∨ 4 < a2.toInt := by omega
                refine r_tsw 190 (by unfold en_sw; rw [if_pos c524]; rfl) ?_
                refine At.enter rfl ?_
                refine r_aload_n (w_p1 (by decide) (Or.inr rfl) (w_p1 (by decide) (Or.inr rfl) e496)) ?_
                refine q_getI (Sh.int hI506.1 kx_231 rfl) v511 hv511 ?_
                refine r_ireti ?_
                exact ⟨_, rfl, hI506, hF510, _, rfl, trivial⟩
              · have c514_ : x489.toInt = 2 := en_i_ne_f c514
                refine At.enter rfl ?_
                refine r_aload_n e496 ?_
                obtain ⟨v525, hv525⟩ : ∃ v, gI g505 231 46 = v := ⟨_, rfl⟩
                refine q_getI (Sh.int hI506.1 kx_231 rfl) v525 hv525 ?_
                refine r_sipush 144 rfl ?_
                refine q_idivO (by decide) (fun v526 _ => ?_)
                refine r_goto ?_
                refine At.enter rfl ?_
                refine r_istore _ rfl ?_
                refine r_aload_n (w_p1 (by decide) (Or.inr rfl) e496) ?_
                refine q_getI (Sh.int hI506.1 kx_231 rfl) v525 hv525 ?_
                refine r_sipush 144 rfl ?_
                refine q_iremO (by decide) (fun v527 _ => ?_)
                refine r_istore _ rfl ?_
                refine r_iload_n (w_p1 (by decide) (Or.inr rfl) (w_p1 (by decide) (Or.inr rfl) e498)) ?_
                by_cases c528_0 : a2.toInt = 0
                · refine r_tsw 128 (by rw [c528_0]; rfl) ?_
                  refine At.enter rfl ?_
                  refine r_iload_n (w_p1 (by decide) (Or.inr rfl) (w_p1 (by decide) (Or.inr rfl) e499)) ?_
                  refine r_ireti ?_
                  exact ⟨_, rfl, hI506, hF510, _, rfl, trivial⟩
                by_cases c528_1 : a2.toInt = 1
                · refine r_tsw 130 (by rw [c528_1]; rfl) ?_
                  refine At.enter rfl ?_
                  refine r_iload_n (w_p1 (by decide) (Or.inr rfl) (w_p1 (by decide) (Or.inr rfl) e499)) ?_
                  refine r_iconst 1 rfl ?_
                  refine r_ics 135 rfl (fun c529 => ?_) (fun c529 => ?_)
                  · have c529_ : x489.toInt ≥ 1 := en_i_ge_t c529
                    refine At.enter rfl ?_
                    refine r_iload (w_p1 (by decide) (Or.inr rfl) (w_e1 _ _ _)) ?_
                    refine r_bipush 12 rfl ?_
                    refine q_idivO (by decide) (fun v530 _ => ?_)
                    refine Ar.fall 144 rfl ?_
                    refine At.enter rfl ?_
                    refine r_ireti ?_
                    exact ⟨_, rfl, hI506, hF510, _, rfl, trivial⟩
                  · have c529_ : x489.toInt < 1 := en_i_ge_f c529
                    exfalso; omega
                by_cases c528_2 : a2.toInt = 2
                · refine r_tsw 145 (by rw [c528_2]; rfl) ?_
                  refine At.enter rfl ?_
                  refine r_iload_n (w_p1 (by decide) (Or.inr rfl) (w_p1 (by decide) (Or.inr rfl) e499)) ?_
                  refine r_iconst 1 rfl ?_
                  refine r_ics 150 rfl (fun c531 => ?_) (fun c531 => ?_)
                  · have c531_ : x489.toInt ≥ 1 := en_i_ge_t c531
                    refine At.enter rfl ?_
                    refine r_iload (w_p1 (by decide) (Or.inr rfl) (w_e1 _ _ _)) ?_
                    refine r_bipush 12 rfl ?_
                    refine q_iremO (by decide) (fun v532 _ => ?_)
                    refine Ar.fall 159 rfl ?_
                    refine At.enter rfl ?_
                    refine r_ireti ?_
                    exact ⟨_, rfl, hI506, hF510, _, rfl, trivial⟩
                  · have c531_ : x489.toInt < 1 := en_i_ge_f c531
                    exfalso; omega
                by_cases c528_3 : a2.toInt = 3
                · refine r_tsw 160 (by rw [c528_3]; rfl) ?_
                  refine At.enter rfl ?_
                  refine r_iload_n (w_p1 (by decide) (Or.inr rfl) (w_p1 (by decide) (Or.inr rfl) e499)) ?_
                  refine r_iconst 2 rfl ?_
                  refine r_ics 165 rfl (fun c533 => ?_) (fun c533 => ?_)
                  · have c533_ : x489.toInt ≥ 2 := en_i_ge_t c533
                    refine At.enter rfl ?_
                    refine r_iload (w_e1 _ _ _) ?_
                    refine r_bipush 12 rfl ?_
                    refine q_idivO (by decide) (fun v534 _ => ?_)
                    refine Ar.fall 174 rfl ?_
                    refine At.enter rfl ?_
                    refine r_ireti ?_
                    exact ⟨_, rfl, hI506, hF510, _, rfl, trivial⟩
                  · have c533_ : x489.toInt < 2 := en_i_ge_f c533
                    exfalso; omega
                by_cases c528_4 : a2.toInt = 4
                · refine r_tsw 175 (by rw [c528_4]; rfl) ?_
                  refine At.enter rfl ?_
                  refine r_iload_n (w_p1 (by decide) (Or.inr rfl) (w_p1 (by decide) (Or.inr rfl) e499)) ?_
                  refine r_iconst 2 rfl ?_
                  refine r_ics 180 rfl (fun c535 => ?_) (fun c535 => ?_)
                  · have c535_ : x489.toInt ≥ 2 := en_i_ge_t c535
                    refine At.enter rfl ?_
                    refine r_iload (w_e1 _ _ _) ?_
                    refine r_bipush 12 rfl ?_
                    refine q_iremO (by decide) (fun v536 _ => ?_)
                    refine Ar.fall 189 rfl ?_
                    refine At.enter rfl ?_
                    refine r_ireti ?_
                    exact ⟨_, rfl, hI506, hF510, _, rfl, trivial⟩
                  · have c535_ : x489.toInt < 2 := en_i_ge_f c535
                    exfalso; omega
                have c537 : a2.toInt < 0 ∨ 4 < a2.toInt := by omega
                refine r_tsw 190 (by unfold en_sw; rw [if_pos c537]; rfl) ?_
                refine At.enter rfl ?_
                refine r_aload_n (w_p1 (by decide) (Or.inr rfl) (w_p1 (by decide) (Or.inr rfl) e496)) ?_
                refine q_getI (Sh.int hI506.1 kx_231 rfl) v511 hv511 ?_
                refine r_ireti ?_
                exact ⟨_, rfl, hI506, hF510, _, rfl, trivial⟩

def F_X11_nobodyOut_231 : List (Nat × Nat) := []
def A_X11_nobodyOut_231 : List Nat := []
set_option maxRecDepth 100000 in
set_option maxHeartbeats 4000000 in
theorem T_X11_nobodyOut_231 (d : Nat) {N : Nat} {g0 : List en_E} (hI0 : HI g0) : Ev (d + 3) 241 [.ref 231] (g0, N) (fun w h' => ∃ g', h' = (g', N) ∧ HI g' ∧ Fr F_X11_nobodyOut_231 A_X11_nobodyOut_231 g0 g' ∧ ∃ r : Int32, w = some (.int r) ∧ (0 ≤ r.toInt ∧ r.toInt ≤ 1)) := by
  have hF0 : Fr F_X11_nobodyOut_231 A_X11_nobodyOut_231 g0 g0 := Fr.rf
  refine Ev.mk rfl rfl ⟨Nat.le_of_ble_eq_true rfl, Or.inr (q_rc hI0.1 kx_231 rfl)⟩ ?_
  show At _ none _ _ (0, [(0, .ref 231)], [], (_, _)) _
  refine At.enter rfl ?_
  refine r_iconst 1 rfl ?_
  refine r_istore_n ([(1, .int 1), (0, .ref 231)]) rfl ?_
  refine r_iconst 0 rfl ?_
  refine r_istore_n ([(2, .int 0), (1, .int 1), (0, .ref 231)]) rfl ?_
  refine Ar.fall 4 rfl ?_
  have z_658 : (1 : Int32).toInt = 1 := rfl
  have z_659 : (0 : Int32).toInt = 0 := rfl
  refine w_loopI (fun n_ l_ g_ => ∃ x645 : Int32, ∃ x646 : Int32, n_ = 8 - x646.toInt ∧ HI g_ ∧ Fr F_X11_nobodyOut_231 A_X11_nobodyOut_231 g0 g_ ∧ en_get 0 l_ = some (.ref 231) ∧ en_get 1 l_ = some (.int x645) ∧ en_get 2 l_ = some (.int x646) ∧ (0 ≤ x645.toInt ∧ x645.toInt ≤ 1) ∧ (0 ≤ x646.toInt ∧ x646.toInt ≤ 8)) ?_ (8 - 0) ⟨1, 0, by first | rfl | omega, hI0, hF0, rfl, rfl, rfl, by decide, by decide⟩
  rintro n651 l650 g647 ⟨x645, x646, hm660, hI648, hF649, e653, e654, e655, r656, r657⟩ ih652
  refine At.enter rfl ?_
  refine r_iload_n e655 ?_
  refine r_aload_n e653 ?_
  refine q_getR (Sh.ref hI648.1 kx_231 rfl) ?_
  refine r_iconst 1 rfl ?_
  obtain ⟨v661, hv661⟩ : ∃ v, eA g0 233 1 = v := ⟨_, rfl⟩
  have tv661 := congrArg Int32.toInt hv661
  have wv661 := HI.t1 hI0
  rw [hv661] at wv661
  refine q_iald (Sh.arr hI648.1 ka_233) 1 rfl (by decide) v661 ((eA_c (hF649.2.1 233 (by decide))).trans hv661) ?_
  have bv663 := q_bnd x646
  have bv664 := q_bnd v661
  refine r_ics 14 rfl (fun c662 => ?_) (fun c662 => ?_)
  · have c662_ : x646.toInt ≥ v661.toInt := en_i_ge_t c662
    refine At.enter rfl ?_
    refine r_iload_n e654 ?_
    refine r_iretz (q_b01 (by omega)) ?_
    exact ⟨_, rfl, hI648, hF649, _, rfl, by omega⟩
  · have c662_ : x646.toInt < v661.toInt := en_i_ge_f c662
    refine At.enter rfl ?_
    refine r_iload_n e654 ?_
    refine r_ifs 18 rfl (fun c665 => ?_) (fun c665 => ?_)
    · have c665_ : x645.toInt = 0 := en_k_eq_t c665
      refine At.enter rfl ?_
      refine r_iconst 0 rfl ?_
      refine Ar.fall 31 rfl ?_
      refine At.enter rfl ?_
      refine r_istore_n _ rfl ?_
      refine q_iinc (w_p1 (by decide) (Or.inr rfl) e655) (x646.toInt + 1) rfl (by omega) (fun v666 hv666 => ?_)
      refine r_goto ?_
      exact ih652 (8 - v666.toInt) _ _ ⟨0, v666, by first | rfl | omega, hI648, hF649, (w_p1 (by decide) (Or.inr rfl) (w_p1 (by decide) (Or.inr rfl) e653)), (w_p1 (by decide) (Or.inr rfl) (w_e1 _ _ _)), (w_e1 _ _ _), by decide, by omega⟩ ⟨by omega, by omega⟩
    · have c665_ : x645.toInt ≠ 0 := en_k_eq_f c665
      refine At.enter rfl ?_
      refine r_aload_n e653 ?_
      refine r_iload_n e655 ?_
      refine q_inlV 23 rfl [.ref 231, .int x646] [] (Nat.le_of_ble_eq_true rfl) rfl ?_
      refine Ev.mk rfl rfl ⟨Nat.le_of_ble_eq_true rfl, Or.inr (q_rc hI648.1 kx_231 rfl)⟩ ?_
      show At _ none _ _ (0, [(0, .ref 231), (1, .int x646)], [], (_, _)) _
      refine At.enter rfl ?_
      refine r_aload_n rfl ?_
      obtain ⟨v667, hv667⟩ : ∃ v, gI g0 231 36 = v := ⟨_, rfl⟩
      refine q_getI (Sh.int hI648.1 kx_231 rfl) v667 ((hF649.1 231 36 (by decide)).trans hv667) ?_
      refine r_aload_n rfl ?_
      refine r_iload_n rfl ?_
      refine r_iconst 1 rfl ?_
      refine q_inlV 10 rfl [.ref 231, .int x646, .int 1] [.int v667] (Nat.le_of_ble_eq_true rfl) rfl ?_
      refine Ev.mk rfl rfl ⟨Nat.le_of_ble_eq_true rfl, Or.inr (q_rc hI648.1 kx_231 rfl)⟩ ?_
      show At _ none _ _ (0, [(0, .ref 231), (1, .int x646), (2, .int 1)], [], (_, _)) _
      refine At.enter rfl ?_
      refine r_aload_n rfl ?_
      refine q_getR (Sh.ref hI648.1 kx_231 rfl) ?_
      refine r_bipush 46 rfl ?_
      refine r_bipush 6 rfl ?_
      refine r_iload_n rfl ?_
      refine q_imul (6 * x646.toInt) rfl (by omega) (fun v668 hv668 => ?_)
      refine q_iadd (46 + v668.toInt) rfl (by omega) (fun v669 hv669 => ?_)
      refine r_iload_n rfl ?_
      refine q_iadd (v669.toInt + 1) rfl (by omega) (fun v670 hv670 => ?_)
      obtain ⟨v671, hv671⟩ : ∃ v, eA g0 233 (6 * x646.toInt + 47) = v := ⟨_, rfl⟩
      have wv671 := HI.l1 hI0 (j := (6 * x646.toInt + 47)) (x646.toInt) (by omega) (by omega)
      rw [hv671] at wv671
      refine q_iald (Sh.arr hI648.1 ka_233) (6 * x646.toInt + 47) (by omega) (by omega) v671 ((eA_c (hF649.2.1 233 (by decide))).trans hv671) ?_
      refine q_ireti ?_
      refine At.enter rfl ?_
      refine q_inlS 13 rfl [.int v667, .int v671] [] (Nat.le_of_ble_eq_true rfl) rfl ?_
      refine Ev.mk rfl rfl ⟨Nat.le_of_ble_eq_true rfl, Or.inl rfl⟩ ?_
      show At _ none _ _ (0, [(0, .int v667), (1, .int v671)], [], (_, _)) _
      refine At.enter rfl ?_
      refine r_iload_n rfl ?_
      refine r_iload_n rfl ?_
      refine q_ishrO (fun v672 hv672 => ?_)
      refine r_iconst 1 rfl ?_
      refine q_iandO (fun v673 hv673 => ?_)
      refine r_iconst 1 rfl ?_
      refine r_ics 9 rfl (fun c674 => ?_) (fun c674 => ?_)
      · have c674_ : v673.toInt ≠ 1 := en_i_ne_t c674
        refine At.enter rfl ?_
        refine r_iconst 0 rfl ?_
        refine Ar.fall 14 rfl ?_
        refine At.enter rfl ?_
        refine q_iretz (by decide) ?_
        refine At.enter rfl ?_
        refine r_iff 16 rfl (by decide) ?_
        refine At.enter rfl ?_
        refine r_aload_n rfl ?_
        refine q_getI (Sh.int hI648.1 kx_231 rfl) v667 ((hF649.1 231 36 (by decide)).trans hv667) ?_
        refine r_aload_n rfl ?_
        refine r_iload_n rfl ?_
        refine r_iconst 2 rfl ?_
        refine q_inlV 26 rfl [.ref 231, .int x646, .int 2] [.int v667] (Nat.le_of_ble_eq_true rfl) rfl ?_
        refine Ev.mk rfl rfl ⟨Nat.le_of_ble_eq_true rfl, Or.inr (q_rc hI648.1 kx_231 rfl)⟩ ?_
        show At _ none _ _ (0, [(0, .ref 231), (1, .int x646), (2, .int 2)], [], (_, _)) _
        refine At.enter rfl ?_
        refine r_aload_n rfl ?_
        refine q_getR (Sh.ref hI648.1 kx_231 rfl) ?_
        refine r_bipush 46 rfl ?_
        refine r_bipush 6 rfl ?_
        refine r_iload_n rfl ?_
        refine q_imul (6 * x646.toInt) rfl (by omega) (fun v675 hv675 => ?_)
        refine q_iadd (46 + v675.toInt) rfl (by omega) (fun v676 hv676 => ?_)
        refine r_iload_n rfl ?_
        refine q_iadd (v676.toInt + 2) rfl (by omega) (fun v677 hv677 => ?_)
        obtain ⟨v678, hv678⟩ : ∃ v, eA g0 233 (6 * x646.toInt + 48) = v := ⟨_, rfl⟩
        have wv678 := HI.l2 hI0 (j := (6 * x646.toInt + 48)) (x646.toInt) (by omega) (by omega)
        rw [hv678] at wv678
        refine q_iald (Sh.arr hI648.1 ka_233) (6 * x646.toInt + 48) (by omega) (by omega) v678 ((eA_c (hF649.2.1 233 (by decide))).trans hv678) ?_
        refine q_ireti ?_
        refine At.enter rfl ?_
        refine q_inlS 29 rfl [.int v667, .int v678] [] (Nat.le_of_ble_eq_true rfl) rfl ?_
        refine Ev.mk rfl rfl ⟨Nat.le_of_ble_eq_true rfl, Or.inl rfl⟩ ?_
        show At _ none _ _ (0, [(0, .int v667), (1, .int v678)], [], (_, _)) _
        refine At.enter rfl ?_
        refine r_iload_n rfl ?_
        refine r_iload_n rfl ?_
        refine q_ishrO (fun v679 hv679 => ?_)
        refine r_iconst 1 rfl ?_
        refine q_iandO (fun v680 hv680 => ?_)
        refine r_iconst 1 rfl ?_
        refine r_ics 9 rfl (fun c681 => ?_) (fun c681 => ?_)
        · have c681_ : v680.toInt ≠ 1 := en_i_ne_t c681
          refine At.enter rfl ?_
          refine r_iconst 0 rfl ?_
          refine Ar.fall 14 rfl ?_
          refine At.enter rfl ?_
          refine q_iretz (by decide) ?_
          refine At.enter rfl ?_
          refine r_iff 32 rfl (by decide) ?_
          refine At.enter rfl ?_
          refine r_iconst 1 rfl ?_
          refine r_goto ?_
          refine At.enter rfl ?_
          refine q_iretz (by decide) ?_
          refine At.enter rfl ?_
          refine r_iff 26 rfl (by decide) ?_
          refine At.enter rfl ?_
          refine r_iconst 1 rfl ?_
          refine r_goto ?_
          refine At.enter rfl ?_
          refine r_istore_n _ rfl ?_
          refine q_iinc (w_p1 (by decide) (Or.inr rfl) e655) (x646.toInt + 1) rfl (by omega) (fun v682 hv682 => ?_)
          refine r_goto ?_
          exact ih652 (8 - v682.toInt) _ _ ⟨1, v682, by first | rfl | omega, hI648, hF649, (w_p1 (by decide) (Or.inr rfl) (w_p1 (by decide) (Or.inr rfl) e653)), (w_p1 (by decide) (Or.inr rfl) (w_e1 _ _ _)), (w_e1 _ _ _), by decide, by omega⟩ ⟨by omega, by omega⟩
        · have c681_ : v680.toInt = 1 := en_i_ne_f c681
          refine At.enter rfl ?_
          refine r_iconst 1 rfl ?_
          refine r_goto ?_
          refine At.enter rfl ?_
          refine q_iretz (by decide) ?_
          refine At.enter rfl ?_
          refine r_ift (by decide) ?_
          refine At.enter rfl ?_
          refine r_iconst 0 rfl ?_
          refine Ar.fall 37 rfl ?_
          refine At.enter rfl ?_
          refine q_iretz (by decide) ?_
          refine At.enter rfl ?_
          refine r_ift (by decide) ?_
          refine At.enter rfl ?_
          refine r_iconst 0 rfl ?_
          refine Ar.fall 31 rfl ?_
          refine At.enter rfl ?_
          refine r_istore_n _ rfl ?_
          refine q_iinc (w_p1 (by decide) (Or.inr rfl) e655) (x646.toInt + 1) rfl (by omega) (fun v683 hv683 => ?_)
          refine r_goto ?_
          exact ih652 (8 - v683.toInt) _ _ ⟨0, v683, by first | rfl | omega, hI648, hF649, (w_p1 (by decide) (Or.inr rfl) (w_p1 (by decide) (Or.inr rfl) e653)), (w_p1 (by decide) (Or.inr rfl) (w_e1 _ _ _)), (w_e1 _ _ _), by decide, by omega⟩ ⟨by omega, by omega⟩
      · have c674_ : v673.toInt = 1 := en_i_ne_f c674
        refine At.enter rfl ?_
        refine r_iconst 1 rfl ?_
        refine r_goto ?_
        refine At.enter rfl ?_
        refine q_iretz (by decide) ?_
        refine At.enter rfl ?_
        refine r_ift (by decide) ?_
        refine At.enter rfl ?_
        refine r_iconst 0 rfl ?_
        refine Ar.fall 37 rfl ?_
        refine At.enter rfl ?_
        refine q_iretz (by decide) ?_
        refine At.enter rfl ?_
        refine r_ift (by decide) ?_
        refine At.enter rfl ?_
        refine r_iconst 0 rfl ?_
        refine Ar.fall 31 rfl ?_
        refine At.enter rfl ?_
        refine r_istore_n _ rfl ?_
        refine q_iinc (w_p1 (by decide) (Or.inr rfl) e655) (x646.toInt + 1) rfl (by omega) (fun v684 hv684 => ?_)
        refine r_goto ?_
        exact ih652 (8 - v684.toInt) _ _ ⟨0, v684, by first | rfl | omega, hI648, hF649, (w_p1 (by decide) (Or.inr rfl) (w_p1 (by decide) (Or.inr rfl) e653)), (w_p1 (by decide) (Or.inr rfl) (w_e1 _ _ _)), (w_e1 _ _ _), by decide, by omega⟩ ⟨by omega, by omega⟩

def F_X11_home_231 : List (Nat × Nat) := [(231, 0), (231, 27), (231, 30), (231, 31), (231, 32), (231, 36)]
def A_X11_home_231 : List Nat := [246, 247, 248, 250, 251, 252, 253, 254, 255, 256]
set_option maxRecDepth 100000 in
set_option maxHeartbeats 4000000 in
theorem T_X11_home_231 (d : Nat) {N : Nat} {g0 : List en_E} (hI0 : HI g0) (a1 : Int32) : Ev (d + 9) 242 [.ref 231, .int a1] (g0, N) (fun w h' => ∃ g', h' = (g', N) ∧ HI g' ∧ Fr F_X11_home_231 A_X11_home_231 g0 g' ∧ ∃ r : Int32, w = some (.int r) ∧ ((-1) ≤ r.toInt)) := by
  have hF0 : Fr F_X11_home_231 A_X11_home_231 g0 g0 := Fr.rf
  refine Ev.mk rfl rfl ⟨Nat.le_of_ble_eq_true rfl, Or.inr (q_rc hI0.1 kx_231 rfl)⟩ ?_
  show At _ none _ _ (0, [(0, .ref 231), (1, .int a1)], [], (_, _)) _
  refine At.enter rfl ?_
  refine r_aload_n rfl ?_
  refine r_iconst 0 rfl ?_
  refine q_putI (Sh.int hI0.1 kx_231 rfl) rfl ?_
  have hI14029 := HI.wI0 hI0 kx_231 rfl (p := 231) (b := 0) (v := 0) rfl
  have hF14030 := Fr.wI (p := 231) (b := 0) (v := 0) hF0 rfl
  refine r_iload_n rfl ?_
  refine q_i2l (fun v14031 hv14031 => ?_)
  refine r_lconst 0 rfl ?_
  refine r_ldc2 2 rfl ?_
  refine q_inlS 14 rfl [.long v14031, .long 0, .long 2] [] (Nat.le_of_ble_eq_true rfl) rfl ?_
  refine Ev.mk rfl rfl ⟨Nat.le_of_ble_eq_true rfl, Or.inl rfl⟩ ?_
  show At _ none _ _ (0, [(0, .long v14031), (2, .long 0), (4, .long 2)], [], (_, _)) _
  refine At.enter rfl ?_
  refine r_lload_n rfl ?_
  refine r_lload_n rfl ?_
  refine r_lcmp _ rfl ?_
  refine r_ifs 6 rfl (fun c14032 => ?_) (fun c14032 => ?_)
  · have c14032_ : v14031.toInt < 0 := en_j_lt_t c14032
    refine At.enter rfl ?_
    refine r_iconst 0 rfl ?_
    refine Ar.fall 18 rfl ?_
    refine At.enter rfl ?_
    refine q_iretz (by decide) ?_
    refine At.enter rfl ?_
    refine r_iff 17 rfl (by decide) ?_
    refine At.enter rfl ?_
    refine r_iconst (-1) rfl ?_
    refine r_ireti ?_
    exact ⟨_, rfl, hI14029, hF14030, _, rfl, by decide⟩
  · have c14032_ : v14031.toInt ≥ 0 := en_j_lt_f c14032
    refine At.enter rfl ?_
    refine r_lload_n rfl ?_
    refine r_lload rfl ?_
    refine r_lcmp _ rfl ?_
    refine r_ifs 13 rfl (fun c14033 => ?_) (fun c14033 => ?_)
    · have c14033_ : v14031.toInt > 2 := en_j_gt_t c14033
      refine At.enter rfl ?_
      refine r_iconst 0 rfl ?_
      refine Ar.fall 18 rfl ?_
      refine At.enter rfl ?_
      refine q_iretz (by decide) ?_
      refine At.enter rfl ?_
      refine r_iff 17 rfl (by decide) ?_
      refine At.enter rfl ?_
      refine r_iconst (-1) rfl ?_
      refine r_ireti ?_
      exact ⟨_, rfl, hI14029, hF14030, _, rfl, by decide⟩
    · have c14033_ : v14031.toInt ≤ 2 := en_j_gt_f c14033
      refine At.enter rfl ?_
      refine r_iconst 1 rfl ?_
      refine r_goto ?_
      refine At.enter rfl ?_
      refine q_iretz (by decide) ?_
      refine At.enter rfl ?_
      refine r_ift (by decide) ?_
      refine At.enter rfl ?_
      refine r_iconst 0 rfl ?_
      refine r_istore_n ([(2, .int 0), (0, .ref 231), (1, .int a1)]) rfl ?_
      refine Ar.fall 21 rfl ?_
      have z_19876 : (0 : Int32).toInt = 0 := rfl
      refine w_loopI (fun n_ l_ g_ => ∃ x19865 : Int32, n_ = 4 - x19865.toInt ∧ HI g_ ∧ Fr F_X11_home_231 A_X11_home_231 g0 g_ ∧ en_get 0 l_ = some (.ref 231) ∧ en_get 1 l_ = some (.int a1) ∧ en_get 2 l_ = some (.int x19865) ∧ (0 ≤ x19865.toInt ∧ x19865.toInt ≤ 4)) ?_ (4 - 0) ⟨0, by first | rfl | omega, hI14029, hF14030, rfl, rfl, rfl, by decide⟩
      rintro n19870 l19869 g19866 ⟨x19865, hm19877, hI19867, hF19868, e19872, e19873, e19874, r19875⟩ ih19871
      refine At.enter rfl ?_
      refine r_iload_n e19874 ?_
      refine r_iconst 4 rfl ?_
      refine r_ics 26 rfl (fun c19878 => ?_) (fun c19878 => ?_)
      · have c19878_ : x19865.toInt ≥ 4 := en_i_ge_t c19878
        refine At.enter rfl ?_
        refine r_iload_n e19873 ?_
        refine r_iconst 2 rfl ?_
        refine r_ics 142 rfl (fun c19879 => ?_) (fun c19879 => ?_)
        · have c19879_ : a1.toInt ≠ 2 := en_i_ne_t c19879
          refine At.enter rfl ?_
          refine r_iconst (-1) rfl ?_
          refine Ar.fall 147 rfl ?_
          refine At.enter rfl ?_
          refine r_ireti ?_
          exact ⟨_, rfl, hI19867, hF19868, _, rfl, by decide⟩
        · have c19879_ : a1.toInt = 2 := en_i_ne_f c19879
          refine At.enter rfl ?_
          refine r_iconst 0 rfl ?_
          refine r_goto ?_
          refine At.enter rfl ?_
          refine r_ireti ?_
          exact ⟨_, rfl, hI19867, hF19868, _, rfl, by decide⟩
      · have c19878_ : x19865.toInt < 4 := en_i_ge_f c19878
        refine At.enter rfl ?_
        refine r_iconst 0 rfl ?_
        refine r_istore_n _ rfl ?_
        refine r_iconst (-1) rfl ?_
        refine r_istore _ rfl ?_
        refine r_iconst 0 rfl ?_
        refine r_istore _ rfl ?_
        refine Ar.fall 34 rfl ?_
        have z_20993 : (0 : Int32).toInt = 0 := rfl
        have z_20994 : ((-1) : Int32).toInt = (-1) := rfl
        have z_20995 : (0 : Int32).toInt = 0 := rfl
        refine w_loopI (fun n_ l_ g_ => ∃ x20976 : Int32, ∃ x20977 : Int32, ∃ x20978 : Int32, n_ = 2147483647 - x20978.toInt ∧ HI g_ ∧ Fr F_X11_home_231 A_X11_home_231 g0 g_ ∧ en_get 0 l_ = some (.ref 231) ∧ en_get 1 l_ = some (.int a1) ∧ en_get 2 l_ = some (.int x19865) ∧ en_get 3 l_ = some (.int x20976) ∧ en_get 4 l_ = some (.int x20977) ∧ en_get 5 l_ = some (.int x20978) ∧ (-1) ≤ x20977.toInt ∧ 0 ≤ x20978.toInt) ?_ (2147483647 - 0) ⟨0, (-1), 0, by first | rfl | omega, hI19867, hF19868, (w_p1 (by decide) (Or.inr rfl) (w_p1 (by decide) (Or.inr rfl) (w_p1 (by decide) (Or.inr rfl) e19872))), (w_p1 (by decide) (Or.inr rfl) (w_p1 (by decide) (Or.inr rfl) (w_p1 (by decide) (Or.inr rfl) e19873))), (w_p1 (by decide) (Or.inr rfl) (w_p1 (by decide) (Or.inr rfl) (w_p1 (by decide) (Or.inr rfl) e19874))), (w_p1 (by decide) (Or.inr rfl) (w_p1 (by decide) (Or.inr rfl) (w_e1 _ _ _))), (w_p1 (by decide) (Or.inr rfl) (w_e1 _ _ _)), (w_e1 _ _ _), by decide, by decide⟩
        rintro n20983 l20982 g20979 ⟨x20976, x20977, x20978, hm20996, hI20980, hF20981, e20985, e20986, e20987, e20988, e20989, e20990, r20991, r20992⟩ ih20984
        refine At.enter rfl ?_
        refine r_iload e20990 ?_
        refine r_iconst 1 rfl ?_
        refine r_aload_n e20985 ?_
        refine q_getR (Sh.ref hI20980.1 kx_231 rfl) ?_
        refine r_iconst 0 rfl ?_
        obtain ⟨v20997, hv20997⟩ : ∃ v, eA g0 233 0 = v := ⟨_, rfl⟩
        have tv20997 := congrArg Int32.toInt hv20997
        have wv20997 := HI.t0 hI0
        rw [hv20997] at wv20997
        refine q_iald (Sh.arr hI20980.1 ka_233) 0 rfl (by decide) v20997 ((eA_c (hF20981.2.1 233 (by decide))).trans hv20997) ?_
        refine q_ishlO (fun v20998 hv20998 => ?_)
        have bv21000 := q_bnd x20978
        have bv21001 := q_bnd v20998
        refine r_ics 47 rfl (fun c20999 => ?_) (fun c20999 => ?_)
        · have c20999_ : x20978.toInt ≥ v20998.toInt := en_i_ge_t c20999
          refine At.enter rfl ?_
          refine r_iload_n e20988 ?_
          refine r_ifs 111 rfl (fun c21002 => ?_) (fun c21002 => ?_)
          · have c21002_ : x20976.toInt ≤ 0 := en_k_le_t c21002
            refine At.enter rfl ?_
            refine q_iinc e20987 (x19865.toInt + 1) rfl (by omega) (fun v21003 hv21003 => ?_)
            refine r_goto ?_
            exact ih19871 (4 - v21003.toInt) _ _ ⟨v21003, by first | rfl | omega, hI20980, hF20981, (w_p1 (by decide) (Or.inr rfl) e20985), (w_p1 (by decide) (Or.inr rfl) e20986), (w_e1 _ _ _), by omega⟩ ⟨by omega, by omega⟩
          · have c21002_ : x20976.toInt > 0 := en_k_le_f c21002
            refine At.enter rfl ?_
            refine r_iload_n e20986 ?_
            refine r_ifs 115 rfl (fun c21004 => ?_) (fun c21004 => ?_)
            · have c21004_ : a1.toInt ≠ 0 := en_k_ne_t c21004
              refine At.enter rfl ?_
              refine r_iload_n e20986 ?_
              refine r_iconst 1 rfl ?_
              refine r_ics 124 rfl (fun c21005 => ?_) (fun c21005 => ?_)
              · have c21005_ : a1.toInt ≠ 1 := en_i_ne_t c21005
                refine At.enter rfl ?_
                refine r_iload_n e20988 ?_
                refine Ar.fall 130 rfl ?_
                refine At.enter rfl ?_
                refine r_ireti ?_
                exact ⟨_, rfl, hI20980, hF20981, _, rfl, by omega⟩
              · have c21005_ : a1.toInt = 1 := en_i_ne_f c21005
                refine At.enter rfl ?_
                refine r_iload e20989 ?_
                refine r_goto ?_
                refine At.enter rfl ?_
                refine r_ireti ?_
                exact ⟨_, rfl, hI20980, hF20981, _, rfl, by omega⟩
            · have c21004_ : a1.toInt = 0 := en_k_ne_f c21004
              refine At.enter rfl ?_
              refine r_iload_n e20987 ?_
              refine r_goto ?_
              refine At.enter rfl ?_
              refine r_ireti ?_
              exact ⟨_, rfl, hI20980, hF20981, _, rfl, by omega⟩
        · have c20999_ : x20978.toInt < v20998.toInt := en_i_ge_f c20999
          refine At.enter rfl ?_
          refine r_iload e20990 ?_
          refine r_callS 52 rfl [.int x20978] [] (Nat.le_of_ble_eq_true rfl) rfl (T_X11_bits _ hI20980 x20978) ?_
          rintro _ _ ⟨g21006, rfl, hI21007, hF21008, v21009, rfl, hr21010⟩
          refine At.sti ?_
          have hF21011 := Fr.tr hF20981 hF21008 rfl rfl
          refine At.enter rfl ?_
          refine r_iload_n e20987 ?_
          refine r_ics 56 rfl (fun c21012 => ?_) (fun c21012 => ?_)
          · have c21012_ : v21009.toInt ≠ x19865.toInt := en_i_ne_t c21012
            refine At.enter rfl ?_
            refine q_iinc e20990 (x20978.toInt + 1) rfl (by omega) (fun v21013 hv21013 => ?_)
            refine r_goto ?_
            have bv21014 := q_bnd x20976
            have bv21015 := q_bnd x20977
            have bv21016 := q_bnd v21013
            exact ih20984 (2147483647 - v21013.toInt) _ _ ⟨x20976, x20977, v21013, by first | rfl | omega, hI21007, hF21011, (w_p1 (by decide) (Or.inr rfl) e20985), (w_p1 (by decide) (Or.inr rfl) e20986), (w_p1 (by decide) (Or.inr rfl) e20987), (w_p1 (by decide) (Or.inr rfl) e20988), (w_p1 (by decide) (Or.inr rfl) e20989), (w_e1 _ _ _), by omega, by omega⟩ ⟨by omega, by omega⟩
          · have c21012_ : v21009.toInt = x19865.toInt := en_i_ne_f c21012
            refine At.enter rfl ?_
            refine r_aload_n e20985 ?_
            refine r_callV 60 rfl [.ref 231] [] (Nat.le_of_ble_eq_true rfl) rfl (T_X11_asIs_231 _ hI21007) ?_
            rintro _ _ ⟨g21017, rfl, hI21018, hF21019, rfl⟩
            refine At.stn ?_
            have hF21022 := Fr.tr hF21011 hF21019 rfl rfl
            refine At.enter rfl ?_
            refine r_aload_n e20985 ?_
            refine r_iload e20990 ?_
            refine q_putI (Sh.int hI21018.1 kx_231 rfl) rfl ?_
            have hI21023 := HI.wI0 hI21018 kx_231 rfl (p := 231) (b := 36) (v := x20978) rfl
            have hF21024 := Fr.wI (p := 231) (b := 36) (v := x20978) hF21022 rfl
            refine r_aload_n e20985 ?_
            refine r_callV 70 rfl [.ref 231] [] (Nat.le_of_ble_eq_true rfl) rfl (T_X11_nobodyOut_231 _ hI21023) ?_
            rintro _ _ ⟨g21025, rfl, hI21026, hF21027, v21028, rfl, hr21029⟩
            refine At.sti ?_
            have hF21030 := Fr.tr hF21024 hF21027 rfl rfl
            refine At.enter rfl ?_
            refine r_ifs 73 rfl (fun c21031 => ?_) (fun c21031 => ?_)
            · have c21031_ : v21028.toInt = 0 := en_k_eq_t c21031
              refine At.enter rfl ?_
              refine q_iinc e20990 (x20978.toInt + 1) rfl (by omega) (fun v21032 hv21032 => ?_)
              refine r_goto ?_
              have bv21033 := q_bnd x20976
              have bv21034 := q_bnd x20977
              have bv21035 := q_bnd v21032
              exact ih20984 (2147483647 - v21032.toInt) _ _ ⟨x20976, x20977, v21032, by first | rfl | omega, hI21026, hF21030, (w_p1 (by decide) (Or.inr rfl) e20985), (w_p1 (by decide) (Or.inr rfl) e20986), (w_p1 (by decide) (Or.inr rfl) e20987), (w_p1 (by decide) (Or.inr rfl) e20988), (w_p1 (by decide) (Or.inr rfl) e20989), (w_e1 _ _ _), by omega, by omega⟩ ⟨by omega, by omega⟩
            · have c21031_ : v21028.toInt ≠ 0 := en_k_eq_f c21031
              refine At.enter rfl ?_
              refine r_aload_n e20985 ?_
              refine r_sipush 255 rfl ?_
              refine r_bipush 99 rfl ?_
              refine r_callV 82 rfl [.ref 231, .int 255, .int 99] [] (Nat.le_of_ble_eq_true rfl) rfl (T_X11_allCome_231 _ hI21026 255 99) ?_
              rintro _ _ ⟨g21036, rfl, hI21037, hF21038, v21039, rfl, hr21040⟩
              refine At.sti ?_
              have hF21041 := Fr.tr hF21030 hF21038 rfl rfl
              refine At.enter rfl ?_
              refine r_ifs 85 rfl (fun c21042 => ?_) (fun c21042 => ?_)
              · have c21042_ : v21039.toInt = 0 := en_k_eq_t c21042
                refine At.enter rfl ?_
                refine q_iinc e20990 (x20978.toInt + 1) rfl (by omega) (fun v21043 hv21043 => ?_)
                refine r_goto ?_
                have bv21044 := q_bnd x20976
                have bv21045 := q_bnd x20977
                have bv21046 := q_bnd v21043
                exact ih20984 (2147483647 - v21043.toInt) _ _ ⟨x20976, x20977, v21043, by first | rfl | omega, hI21037, hF21041, (w_p1 (by decide) (Or.inr rfl) e20985), (w_p1 (by decide) (Or.inr rfl) e20986), (w_p1 (by decide) (Or.inr rfl) e20987), (w_p1 (by decide) (Or.inr rfl) e20988), (w_p1 (by decide) (Or.inr rfl) e20989), (w_e1 _ _ _), by omega, by omega⟩ ⟨by omega, by omega⟩
              · have c21042_ : v21039.toInt ≠ 0 := en_k_eq_f c21042
                refine At.enter rfl ?_
                refine r_iload_n e20988 ?_
                refine r_ifs 89 rfl (fun c21047 => ?_) (fun c21047 => ?_)
                · have c21047_ : x20976.toInt ≠ 0 := en_k_ne_t c21047
                  refine At.enter rfl ?_
                  refine r_iload e20989 ?_
                  refine Ar.fall 96 rfl ?_
                  refine At.enter rfl ?_
                  refine r_istore _ rfl ?_
                  refine q_iincO (w_p1 (by decide) (Or.inr rfl) e20988) (fun v21048 _ => ?_)
                  refine Ar.fall 101 rfl ?_
                  refine At.enter rfl ?_
                  refine q_iinc (w_p1 (by decide) (Or.inr rfl) (w_p1 (by decide) (Or.inr rfl) e20990)) (x20978.toInt + 1) rfl (by omega) (fun v21049 hv21049 => ?_)
                  refine r_goto ?_
                  have bv21050 := q_bnd v21048
                  have bv21051 := q_bnd x20977
                  have bv21052 := q_bnd v21049
                  exact ih20984 (2147483647 - v21049.toInt) _ _ ⟨v21048, x20977, v21049, by first | rfl | omega, hI21037, hF21041, (w_p1 (by decide) (Or.inr rfl) (w_p1 (by decide) (Or.inr rfl) (w_p1 (by decide) (Or.inr rfl) e20985))), (w_p1 (by decide) (Or.inr rfl) (w_p1 (by decide) (Or.inr rfl) (w_p1 (by decide) (Or.inr rfl) e20986))), (w_p1 (by decide) (Or.inr rfl) (w_p1 (by decide) (Or.inr rfl) (w_p1 (by decide) (Or.inr rfl) e20987))), (w_p1 (by decide) (Or.inr rfl) (w_e1 _ _ _)), (w_p1 (by decide) (Or.inr rfl) (w_p1 (by decide) (Or.inr rfl) (w_e1 _ _ _))), (w_e1 _ _ _), by omega, by omega⟩ ⟨by omega, by omega⟩
                · have c21047_ : x20976.toInt = 0 := en_k_ne_f c21047
                  refine At.enter rfl ?_
                  refine r_iload e20990 ?_
                  refine r_goto ?_
                  refine At.enter rfl ?_
                  refine r_istore _ rfl ?_
                  refine q_iinc (w_p1 (by decide) (Or.inr rfl) e20988) (x20976.toInt + 1) rfl (by omega) (fun v21053 hv21053 => ?_)
                  refine Ar.fall 101 rfl ?_
                  refine At.enter rfl ?_
                  refine q_iinc (w_p1 (by decide) (Or.inr rfl) (w_p1 (by decide) (Or.inr rfl) e20990)) (x20978.toInt + 1) rfl (by omega) (fun v21054 hv21054 => ?_)
                  refine r_goto ?_
                  have bv21055 := q_bnd v21053
                  have bv21056 := q_bnd x20978
                  have bv21057 := q_bnd v21054
                  exact ih20984 (2147483647 - v21054.toInt) _ _ ⟨v21053, x20978, v21054, by first | rfl | omega, hI21037, hF21041, (w_p1 (by decide) (Or.inr rfl) (w_p1 (by decide) (Or.inr rfl) (w_p1 (by decide) (Or.inr rfl) e20985))), (w_p1 (by decide) (Or.inr rfl) (w_p1 (by decide) (Or.inr rfl) (w_p1 (by decide) (Or.inr rfl) e20986))), (w_p1 (by decide) (Or.inr rfl) (w_p1 (by decide) (Or.inr rfl) (w_p1 (by decide) (Or.inr rfl) e20987))), (w_p1 (by decide) (Or.inr rfl) (w_e1 _ _ _)), (w_p1 (by decide) (Or.inr rfl) (w_p1 (by decide) (Or.inr rfl) (w_e1 _ _ _))), (w_e1 _ _ _), by omega, by omega⟩ ⟨by omega, by omega⟩

def F_X11_costOf_231 : List (Nat × Nat) := [(231, 27), (231, 30), (231, 31), (231, 32)]
def A_X11_costOf_231 : List Nat := [249]
set_option maxRecDepth 100000 in
set_option maxHeartbeats 4000000 in
theorem T_X11_costOf_231 (d : Nat) {N : Nat} {g0 : List en_E} (hI0 : HI g0) (a1 : Int32) (h_a1 : 0 ≤ a1.toInt ∧ a1.toInt ≤ 7) (hl : a1.toInt < (eA g0 233 1).toInt) : Ev (d + 6) 243 [.ref 231, .int a1] (g0, N) (fun w h' => ∃ g', h' = (g', N) ∧ HI g' ∧ Fr F_X11_costOf_231 A_X11_costOf_231 g0 g' ∧ ∃ r : Int32, w = some (.int r) ∧ True) := by
  have hF0 : Fr F_X11_costOf_231 A_X11_costOf_231 g0 g0 := Fr.rf
  refine Ev.mk rfl rfl ⟨Nat.le_of_ble_eq_true rfl, Or.inr (q_rc hI0.1 kx_231 rfl)⟩ ?_
  show At _ none _ _ (0, [(0, .ref 231), (1, .int a1)], [], (_, _)) _
  refine At.enter rfl ?_
  refine r_aload_n rfl ?_
  refine r_iload_n rfl ?_
  refine r_callV 5 rfl [.ref 231, .int a1] [] (Nat.le_of_ble_eq_true rfl) rfl (T_X11_findWay_231 _ hI0 a1 (by omega) (by rw [eA_c (rfl)]; omega)) ?_
  rintro _ _ ⟨g375, rfl, hI376, hF377, v378, rfl, hr379⟩
  refine At.sti ?_
  have hF380 := Fr.tr hF0 hF377 rfl rfl
  obtain ⟨w381, w382, w383, w384⟩ := hr379
  have w385 := And.intro w381 w382
  have fw386 : ∀ j : Int, 0 ≤ j → j ≤ v378.toInt → (eA g375 249 j).toInt < (eA g0 233 0).toInt := fun j a b => by have z := w385.2 j a b; rw [eA_c (rfl)] at z; exact z
  have w387 := WAYF.cg (rfl) w383
  have w388 := itI.cg (rfl) w384
  refine At.enter rfl ?_
  refine r_istore_n ([(2, .int v378), (0, .ref 231), (1, .int a1)]) rfl ?_
  refine r_iconst 0 rfl ?_
  refine r_istore_n ([(3, .int 0), (2, .int v378), (0, .ref 231), (1, .int a1)]) rfl ?_
  refine r_iconst 0 rfl ?_
  refine r_istore ([(4, .int 0), (3, .int 0), (2, .int v378), (0, .ref 231), (1, .int a1)]) rfl ?_
  refine Ar.fall 11 rfl ?_
  have z_548 : (0 : Int32).toInt = 0 := rfl
  have z_549 : (0 : Int32).toInt = 0 := rfl
  refine w_loopI (fun n_ l_ g_ => ∃ x534 : Int32, ∃ x535 : Int32, n_ = 12 - x535.toInt ∧ HI g_ ∧ Fr F_X11_costOf_231 A_X11_costOf_231 g0 g_ ∧ en_get 0 l_ = some (.ref 231) ∧ en_get 1 l_ = some (.int a1) ∧ en_get 2 l_ = some (.int v378) ∧ en_get 3 l_ = some (.int x534) ∧ en_get 4 l_ = some (.int x535) ∧ (0 ≤ x535.toInt ∧ x535.toInt ≤ 12)) ?_ (12 - 0) ⟨0, 0, by first | rfl | omega, hI376, hF380, rfl, rfl, rfl, rfl, rfl, by decide⟩
  rintro n540 l539 g536 ⟨x534, x535, hm550, hI537, hF538, e542, e543, e544, e545, e546, r547⟩ ih541
  refine At.enter rfl ?_
  refine r_iload e546 ?_
  refine r_iload_n e544 ?_
  have bv552 := q_bnd x535
  have bv553 := q_bnd v378
  refine r_ics 17 rfl (fun c551 => ?_) (fun c551 => ?_)
  · have c551_ : x535.toInt ≥ v378.toInt := en_i_ge_t c551
    refine At.enter rfl ?_
    refine r_iload_n e544 ?_
    refine r_iconst (-1) rfl ?_
    refine r_ics 43 rfl (fun c554 => ?_) (fun c554 => ?_)
    · have c554_ : v378.toInt ≠ (-1) := en_i_ne_t c554
      refine At.enter rfl ?_
      refine r_iload_n e545 ?_
      refine Ar.fall 48 rfl ?_
      refine At.enter rfl ?_
      refine r_ireti ?_
      exact ⟨_, rfl, hI537, hF538, _, rfl, trivial⟩
    · have c554_ : v378.toInt = (-1) := en_i_ne_f c554
      refine At.enter rfl ?_
      refine r_iconst (-1) rfl ?_
      refine r_goto ?_
      refine At.enter rfl ?_
      refine r_ireti ?_
      exact ⟨_, rfl, hI537, hF538, _, rfl, trivial⟩
  · have c551_ : x535.toInt < v378.toInt := en_i_ge_f c551
    refine At.enter rfl ?_
    refine r_iload_n e545 ?_
    refine r_aload_n e542 ?_
    refine r_iload_n e543 ?_
    refine r_aload_n e542 ?_
    refine q_getR (Sh.ref hI537.1 kx_231 rfl) ?_
    refine r_iload e546 ?_
    obtain ⟨v555, hv555⟩ : ∃ v, eA g536 249 x535.toInt = v := ⟨_, rfl⟩
    have rv555 := RgA.at hI537.2.2.1 (Sh.arr hI537.1 ka_249).2 (p := 249) rfl (j := x535.toInt) (by omega)
    rw [hv555] at rv555
    dsimp only at rv555
    refine q_iald (Sh.arr hI537.1 ka_249) x535.toInt rfl (by omega) v555 hv555 ?_
    refine r_callV 30 rfl [.ref 231, .int a1, .int v555] [.int x534] (Nat.le_of_ble_eq_true rfl) rfl (T_X11_feeOf_231 _ hI537 a1 (by omega) v555 (by omega)) ?_
    rintro _ _ ⟨g556, rfl, hI557, hF558, v559, rfl, hr560⟩
    refine At.sti ?_
    have hF561 := Fr.tr hF538 hF558 rfl rfl
    refine At.enter rfl ?_
    refine q_iaddO (fun v562 _ => ?_)
    refine r_istore_n _ rfl ?_
    refine q_iinc (w_p1 (by decide) (Or.inr rfl) e546) (x535.toInt + 1) rfl (by omega) (fun v563 hv563 => ?_)
    refine r_goto ?_
    have bv564 := q_bnd v562
    exact ih541 (12 - v563.toInt) _ _ ⟨v562, v563, by first | rfl | omega, hI557, hF561, (w_p1 (by decide) (Or.inr rfl) (w_p1 (by decide) (Or.inr rfl) e542)), (w_p1 (by decide) (Or.inr rfl) (w_p1 (by decide) (Or.inr rfl) e543)), (w_p1 (by decide) (Or.inr rfl) (w_p1 (by decide) (Or.inr rfl) e544)), (w_p1 (by decide) (Or.inr rfl) (w_e1 _ _ _)), (w_e1 _ _ _), by omega⟩ ⟨by omega, by omega⟩

def F_X11_cost_231 : List (Nat × Nat) := [(231, 0), (231, 27), (231, 30), (231, 31), (231, 32), (231, 36)]
def A_X11_cost_231 : List Nat := [246, 247, 248, 249]
set_option maxRecDepth 100000 in
set_option maxHeartbeats 4000000 in
theorem T_X11_cost_231 (d : Nat) {N : Nat} {g0 : List en_E} (hI0 : HI g0) (a1 : Int32) : Ev (d + 7) 244 [.ref 231, .int a1] (g0, N) (fun w h' => ∃ g', h' = (g', N) ∧ HI g' ∧ Fr F_X11_cost_231 A_X11_cost_231 g0 g' ∧ ∃ r : Int32, w = some (.int r) ∧ True) := by
  have hF0 : Fr F_X11_cost_231 A_X11_cost_231 g0 g0 := Fr.rf
  refine Ev.mk rfl rfl ⟨Nat.le_of_ble_eq_true rfl, Or.inr (q_rc hI0.1 kx_231 rfl)⟩ ?_
  show At _ none _ _ (0, [(0, .ref 231), (1, .int a1)], [], (_, _)) _
  refine At.enter rfl ?_
  refine r_aload_n rfl ?_
  refine r_iconst 0 rfl ?_
  refine q_putI (Sh.int hI0.1 kx_231 rfl) rfl ?_
  have hI41 := HI.wI0 hI0 kx_231 rfl (p := 231) (b := 0) (v := 0) rfl
  have hF42 := Fr.wI (p := 231) (b := 0) (v := 0) hF0 rfl
  refine r_aload_n rfl ?_
  refine r_iload_n rfl ?_
  refine q_inlV 10 rfl [.ref 231, .int a1] [] (Nat.le_of_ble_eq_true rfl) rfl ?_
  refine Ev.mk rfl rfl ⟨Nat.le_of_ble_eq_true rfl, Or.inr (q_rc hI41.1 kx_231 rfl)⟩ ?_
  show At _ none _ _ (0, [(0, .ref 231), (1, .int a1)], [], (_, _)) _
  refine At.enter rfl ?_
  refine r_iload_n rfl ?_
  refine q_i2l (fun v43 hv43 => ?_)
  refine r_lconst 0 rfl ?_
  refine r_aload_n rfl ?_
  refine q_getR (Sh.ref hI41.1 kx_231 rfl) ?_
  refine r_iconst 1 rfl ?_
  obtain ⟨v44, hv44⟩ : ∃ v, eA g0 233 1 = v := ⟨_, rfl⟩
  have tv44 := congrArg Int32.toInt hv44
  have wv44 := HI.t1 hI0
  rw [hv44] at wv44
  refine q_iald (Sh.arr hI41.1 ka_233) 1 rfl (by decide) v44 ((eA_c (gA_sI)).trans hv44) ?_
  refine q_i2l (fun v45 hv45 => ?_)
  refine r_lconst 1 rfl ?_
  refine q_lsub (v45.toInt - 1) rfl (by omega) (fun v46 hv46 => ?_)
  refine q_inlS 15 rfl [.long v43, .long 0, .long v46] [] (Nat.le_of_ble_eq_true rfl) rfl ?_
  refine Ev.mk rfl rfl ⟨Nat.le_of_ble_eq_true rfl, Or.inl rfl⟩ ?_
  show At _ none _ _ (0, [(0, .long v43), (2, .long 0), (4, .long v46)], [], (_, _)) _
  refine At.enter rfl ?_
  refine r_lload_n rfl ?_
  refine r_lload_n rfl ?_
  refine r_lcmp _ rfl ?_
  refine r_ifs 6 rfl (fun c47 => ?_) (fun c47 => ?_)
  · have c47_ : v43.toInt < 0 := en_j_lt_t c47
    refine At.enter rfl ?_
    refine r_iconst 0 rfl ?_
    refine Ar.fall 18 rfl ?_
    refine At.enter rfl ?_
    refine q_iretz (by decide) ?_
    refine At.enter rfl ?_
    refine q_iretz (by decide) ?_
    refine At.enter rfl ?_
    refine r_iff 13 rfl (by decide) ?_
    refine At.enter rfl ?_
    refine r_iconst (-1) rfl ?_
    refine r_ireti ?_
    exact ⟨_, rfl, hI41, hF42, _, rfl, trivial⟩
  · have c47_ : v43.toInt ≥ 0 := en_j_lt_f c47
    refine At.enter rfl ?_
    refine r_lload_n rfl ?_
    refine r_lload rfl ?_
    refine r_lcmp _ rfl ?_
    refine r_ifs 13 rfl (fun c48 => ?_) (fun c48 => ?_)
    · have c48_ : v43.toInt > v46.toInt := en_j_gt_t c48
      refine At.enter rfl ?_
      refine r_iconst 0 rfl ?_
      refine Ar.fall 18 rfl ?_
      refine At.enter rfl ?_
      refine q_iretz (by decide) ?_
      refine At.enter rfl ?_
      refine q_iretz (by decide) ?_
      refine At.enter rfl ?_
      refine r_iff 13 rfl (by decide) ?_
      refine At.enter rfl ?_
      refine r_iconst (-1) rfl ?_
      refine r_ireti ?_
      exact ⟨_, rfl, hI41, hF42, _, rfl, trivial⟩
    · have c48_ : v43.toInt ≤ v46.toInt := en_j_gt_f c48
      refine At.enter rfl ?_
      refine r_iconst 1 rfl ?_
      refine r_goto ?_
      refine At.enter rfl ?_
      refine q_iretz (by decide) ?_
      refine At.enter rfl ?_
      refine q_iretz (by decide) ?_
      refine At.enter rfl ?_
      refine r_ift (by decide) ?_
      refine At.enter rfl ?_
      refine r_aload_n rfl ?_
      refine r_callV 19 rfl [.ref 231] [] (Nat.le_of_ble_eq_true rfl) rfl (T_X11_asIs_231 _ hI41) ?_
      rintro _ _ ⟨g49, rfl, hI50, hF51, rfl⟩
      refine At.stn ?_
      have hF54 := Fr.tr hF42 hF51 rfl rfl
      refine At.enter rfl ?_
      refine r_aload_n rfl ?_
      refine r_iload_n rfl ?_
      refine r_callV 24 rfl [.ref 231, .int a1] [] (Nat.le_of_ble_eq_true rfl) rfl (T_X11_costOf_231 _ hI50 a1 (by omega) (by rw [eA_c (((hF51.2.1 233 (by decide)).trans (gA_sI))), hv44]; omega)) ?_
      rintro _ _ ⟨g55, rfl, hI56, hF57, v58, rfl, hr59⟩
      refine At.sti ?_
      have hF60 := Fr.tr hF54 hF57 rfl rfl
      refine At.enter rfl ?_
      refine r_ireti ?_
      exact ⟨_, rfl, hI56, hF60, _, rfl, trivial⟩

def F_X11_isSent_231 : List (Nat × Nat) := [(231, 27), (231, 30), (231, 31), (231, 32)]
def A_X11_isSent_231 : List Nat := [249]
set_option maxRecDepth 100000 in
set_option maxHeartbeats 4000000 in
theorem T_X11_isSent_231 (d : Nat) {N : Nat} {g0 : List en_E} (hI0 : HI g0) (a1 : Int32) (h_a1 : 0 ≤ a1.toInt ∧ a1.toInt ≤ 7) (hl : a1.toInt < (eA g0 233 1).toInt) : Ev (d + 7) 245 [.ref 231, .int a1] (g0, N) (fun w h' => ∃ g', h' = (g', N) ∧ HI g' ∧ Fr F_X11_isSent_231 A_X11_isSent_231 g0 g' ∧ ∃ r : Int32, w = some (.int r) ∧ (0 ≤ r.toInt ∧ r.toInt ≤ 1)) := by
  have hF0 : Fr F_X11_isSent_231 A_X11_isSent_231 g0 g0 := Fr.rf
  refine Ev.mk rfl rfl ⟨Nat.le_of_ble_eq_true rfl, Or.inr (q_rc hI0.1 kx_231 rfl)⟩ ?_
  show At _ none _ _ (0, [(0, .ref 231), (1, .int a1)], [], (_, _)) _
  refine At.enter rfl ?_
  refine r_aload_n rfl ?_
  refine r_iload_n rfl ?_
  refine r_callV 5 rfl [.ref 231, .int a1] [] (Nat.le_of_ble_eq_true rfl) rfl (T_X11_costOf_231 _ hI0 a1 (by omega) (by rw [eA_c (rfl)]; omega)) ?_
  rintro _ _ ⟨g29, rfl, hI30, hF31, v32, rfl, hr33⟩
  refine At.sti ?_
  have hF34 := Fr.tr hF0 hF31 rfl rfl
  refine At.enter rfl ?_
  refine r_istore_n ([(2, .int v32), (0, .ref 231), (1, .int a1)]) rfl ?_
  refine r_iload_n rfl ?_
  refine r_iconst (-1) rfl ?_
  refine r_ics 11 rfl (fun c35 => ?_) (fun c35 => ?_)
  · have c35_ : v32.toInt = (-1) := en_i_eq_t c35
    refine At.enter rfl ?_
    refine r_iconst 0 rfl ?_
    refine Ar.fall 26 rfl ?_
    refine At.enter rfl ?_
    refine r_iretz (by decide) ?_
    exact ⟨_, rfl, hI30, hF34, _, rfl, by decide⟩
  · have c35_ : v32.toInt ≠ (-1) := en_i_eq_f c35
    refine At.enter rfl ?_
    refine r_iload_n rfl ?_
    refine r_aload_n rfl ?_
    refine r_iload_n rfl ?_
    refine r_iconst 5 rfl ?_
    refine q_inlV 18 rfl [.ref 231, .int a1, .int 5] [.int v32] (Nat.le_of_ble_eq_true rfl) rfl ?_
    refine Ev.mk rfl rfl ⟨Nat.le_of_ble_eq_true rfl, Or.inr (q_rc hI30.1 kx_231 rfl)⟩ ?_
    show At _ none _ _ (0, [(0, .ref 231), (1, .int a1), (2, .int 5)], [], (_, _)) _
    refine At.enter rfl ?_
    refine r_aload_n rfl ?_
    refine q_getR (Sh.ref hI30.1 kx_231 rfl) ?_
    refine r_bipush 46 rfl ?_
    refine r_bipush 6 rfl ?_
    refine r_iload_n rfl ?_
    refine q_imul (6 * a1.toInt) rfl (by omega) (fun v36 hv36 => ?_)
    refine q_iadd (46 + v36.toInt) rfl (by omega) (fun v37 hv37 => ?_)
    refine r_iload_n rfl ?_
    refine q_iadd (v37.toInt + 5) rfl (by omega) (fun v38 hv38 => ?_)
    obtain ⟨v39, hv39⟩ : ∃ v, eA g0 233 (6 * a1.toInt + 51) = v := ⟨_, rfl⟩
    have wv39 := HI.l5 hI0 (j := (6 * a1.toInt + 51)) (a1.toInt) (by omega) (by omega)
    rw [hv39] at wv39
    refine q_iald (Sh.arr hI30.1 ka_233) (6 * a1.toInt + 51) (by omega) (by omega) v39 ((eA_c (hF31.2.1 233 (by decide))).trans hv39) ?_
    refine q_ireti ?_
    refine At.enter rfl ?_
    have bv41 := q_bnd v32
    have bv42 := q_bnd v39
    refine r_ics 21 rfl (fun c40 => ?_) (fun c40 => ?_)
    · have c40_ : v32.toInt > v39.toInt := en_i_gt_t c40
      refine At.enter rfl ?_
      refine r_iconst 0 rfl ?_
      refine Ar.fall 26 rfl ?_
      refine At.enter rfl ?_
      refine r_iretz (by decide) ?_
      exact ⟨_, rfl, hI30, hF34, _, rfl, by decide⟩
    · have c40_ : v32.toInt ≤ v39.toInt := en_i_gt_f c40
      refine At.enter rfl ?_
      refine r_iconst 1 rfl ?_
      refine r_goto ?_
      refine At.enter rfl ?_
      refine r_iretz (by decide) ?_
      exact ⟨_, rfl, hI30, hF34, _, rfl, by decide⟩

def F_X11_sent_231 : List (Nat × Nat) := [(231, 0), (231, 27), (231, 30), (231, 31), (231, 32), (231, 36)]
def A_X11_sent_231 : List Nat := [246, 247, 248, 249]
set_option maxRecDepth 100000 in
set_option maxHeartbeats 4000000 in
theorem T_X11_sent_231 (d : Nat) {N : Nat} {g0 : List en_E} (hI0 : HI g0) (a1 : Int32) : Ev (d + 8) 246 [.ref 231, .int a1] (g0, N) (fun w h' => ∃ g', h' = (g', N) ∧ HI g' ∧ Fr F_X11_sent_231 A_X11_sent_231 g0 g' ∧ ∃ r : Int32, w = some (.int r) ∧ ((-1) ≤ r.toInt ∧ r.toInt ≤ 1)) := by
  have hF0 : Fr F_X11_sent_231 A_X11_sent_231 g0 g0 := Fr.rf
  refine Ev.mk rfl rfl ⟨Nat.le_of_ble_eq_true rfl, Or.inr (q_rc hI0.1 kx_231 rfl)⟩ ?_
  show At _ none _ _ (0, [(0, .ref 231), (1, .int a1)], [], (_, _)) _
  refine At.enter rfl ?_
  refine r_aload_n rfl ?_
  refine r_iconst 0 rfl ?_
  refine q_putI (Sh.int hI0.1 kx_231 rfl) rfl ?_
  have hI43 := HI.wI0 hI0 kx_231 rfl (p := 231) (b := 0) (v := 0) rfl
  have hF44 := Fr.wI (p := 231) (b := 0) (v := 0) hF0 rfl
  refine r_aload_n rfl ?_
  refine r_iload_n rfl ?_
  refine q_inlV 10 rfl [.ref 231, .int a1] [] (Nat.le_of_ble_eq_true rfl) rfl ?_
  refine Ev.mk rfl rfl ⟨Nat.le_of_ble_eq_true rfl, Or.inr (q_rc hI43.1 kx_231 rfl)⟩ ?_
  show At _ none _ _ (0, [(0, .ref 231), (1, .int a1)], [], (_, _)) _
  refine At.enter rfl ?_
  refine r_iload_n rfl ?_
  refine q_i2l (fun v45 hv45 => ?_)
  refine r_lconst 0 rfl ?_
  refine r_aload_n rfl ?_
  refine q_getR (Sh.ref hI43.1 kx_231 rfl) ?_
  refine r_iconst 1 rfl ?_
  obtain ⟨v46, hv46⟩ : ∃ v, eA g0 233 1 = v := ⟨_, rfl⟩
  have tv46 := congrArg Int32.toInt hv46
  have wv46 := HI.t1 hI0
  rw [hv46] at wv46
  refine q_iald (Sh.arr hI43.1 ka_233) 1 rfl (by decide) v46 ((eA_c (gA_sI)).trans hv46) ?_
  refine q_i2l (fun v47 hv47 => ?_)
  refine r_lconst 1 rfl ?_
  refine q_lsub (v47.toInt - 1) rfl (by omega) (fun v48 hv48 => ?_)
  refine q_inlS 15 rfl [.long v45, .long 0, .long v48] [] (Nat.le_of_ble_eq_true rfl) rfl ?_
  refine Ev.mk rfl rfl ⟨Nat.le_of_ble_eq_true rfl, Or.inl rfl⟩ ?_
  show At _ none _ _ (0, [(0, .long v45), (2, .long 0), (4, .long v48)], [], (_, _)) _
  refine At.enter rfl ?_
  refine r_lload_n rfl ?_
  refine r_lload_n rfl ?_
  refine r_lcmp _ rfl ?_
  refine r_ifs 6 rfl (fun c49 => ?_) (fun c49 => ?_)
  · have c49_ : v45.toInt < 0 := en_j_lt_t c49
    refine At.enter rfl ?_
    refine r_iconst 0 rfl ?_
    refine Ar.fall 18 rfl ?_
    refine At.enter rfl ?_
    refine q_iretz (by decide) ?_
    refine At.enter rfl ?_
    refine q_iretz (by decide) ?_
    refine At.enter rfl ?_
    refine r_iff 13 rfl (by decide) ?_
    refine At.enter rfl ?_
    refine r_iconst (-1) rfl ?_
    refine r_ireti ?_
    exact ⟨_, rfl, hI43, hF44, _, rfl, by decide⟩
  · have c49_ : v45.toInt ≥ 0 := en_j_lt_f c49
    refine At.enter rfl ?_
    refine r_lload_n rfl ?_
    refine r_lload rfl ?_
    refine r_lcmp _ rfl ?_
    refine r_ifs 13 rfl (fun c50 => ?_) (fun c50 => ?_)
    · have c50_ : v45.toInt > v48.toInt := en_j_gt_t c50
      refine At.enter rfl ?_
      refine r_iconst 0 rfl ?_
      refine Ar.fall 18 rfl ?_
      refine At.enter rfl ?_
      refine q_iretz (by decide) ?_
      refine At.enter rfl ?_
      refine q_iretz (by decide) ?_
      refine At.enter rfl ?_
      refine r_iff 13 rfl (by decide) ?_
      refine At.enter rfl ?_
      refine r_iconst (-1) rfl ?_
      refine r_ireti ?_
      exact ⟨_, rfl, hI43, hF44, _, rfl, by decide⟩
    · have c50_ : v45.toInt ≤ v48.toInt := en_j_gt_f c50
      refine At.enter rfl ?_
      refine r_iconst 1 rfl ?_
      refine r_goto ?_
      refine At.enter rfl ?_
      refine q_iretz (by decide) ?_
      refine At.enter rfl ?_
      refine q_iretz (by decide) ?_
      refine At.enter rfl ?_
      refine r_ift (by decide) ?_
      refine At.enter rfl ?_
      refine r_aload_n rfl ?_
      refine r_callV 19 rfl [.ref 231] [] (Nat.le_of_ble_eq_true rfl) rfl (T_X11_asIs_231 _ hI43) ?_
      rintro _ _ ⟨g51, rfl, hI52, hF53, rfl⟩
      refine At.stn ?_
      have hF56 := Fr.tr hF44 hF53 rfl rfl
      refine At.enter rfl ?_
      refine r_aload_n rfl ?_
      refine r_iload_n rfl ?_
      refine r_callV 24 rfl [.ref 231, .int a1] [] (Nat.le_of_ble_eq_true rfl) rfl (T_X11_isSent_231 _ hI52 a1 (by omega) (by rw [eA_c (((hF53.2.1 233 (by decide)).trans (gA_sI))), hv46]; omega)) ?_
      rintro _ _ ⟨g57, rfl, hI58, hF59, v60, rfl, hr61⟩
      refine At.sti ?_
      have hF62 := Fr.tr hF56 hF59 rfl rfl
      refine At.enter rfl ?_
      refine r_ifs 27 rfl (fun c63 => ?_) (fun c63 => ?_)
      · have c63_ : v60.toInt = 0 := en_k_eq_t c63
        refine At.enter rfl ?_
        refine r_iconst 0 rfl ?_
        refine Ar.fall 32 rfl ?_
        refine At.enter rfl ?_
        refine r_ireti ?_
        exact ⟨_, rfl, hI58, hF62, _, rfl, by decide⟩
      · have c63_ : v60.toInt ≠ 0 := en_k_eq_f c63
        refine At.enter rfl ?_
        refine r_iconst 1 rfl ?_
        refine r_goto ?_
        refine At.enter rfl ?_
        refine r_ireti ?_
        exact ⟨_, rfl, hI58, hF62, _, rfl, by decide⟩
