def F_X11_day_231 : List (Nat × Nat) := [(231, 0), (231, 27), (231, 30), (231, 31), (231, 32), (231, 36)]
def A_X11_day_231 : List Nat := [246, 247, 248, 250, 251, 252, 253, 254, 255, 256]
theorem ma_X11_runDay_231_233 : memA A_X11_runDay_231 233 = false := by decide
set_option maxRecDepth 100000 in
set_option maxHeartbeats 4000000 in
theorem T_X11_day_231 (d : Nat) {N : Nat} {g0 : List en_E} (hI0 : HI g0) (a1 : Int32) (a2 : Int32) : Ev (d + 9) 230 [.ref 231, .int a1, .int a2] (g0, N) (fun w h' => ∃ g', h' = (g', N) ∧ HI g' ∧ Fr F_X11_day_231 A_X11_day_231 g0 g' ∧ ∃ r : Int32, w = some (.int r) ∧ True) := by
  have hF0 : Fr F_X11_day_231 A_X11_day_231 g0 g0 := Fr.rf
  refine Ev.mk rfl rfl ⟨Nat.le_of_ble_eq_true rfl, Or.inr (q_rc hI0.1 kx_231 rfl)⟩ ?_
  show At _ none _ _ (0, [(0, .ref 231), (1, .int a1), (2, .int a2)], [], (_, _)) _
  refine At.enter rfl ?_
  refine r_aload_n rfl ?_
  refine r_iconst 0 rfl ?_
  refine q_putI (Sh.int hI0.1 kx_231 rfl) rfl ?_
  have hI59 := HI.wI0 hI0 kx_231 rfl (p := 231) (b := 0) (v := 0) rfl
  have hF60 := Fr.wI (p := 231) (b := 0) (v := 0) hF0 rfl
  refine r_aload_n rfl ?_
  refine r_iload_n rfl ?_
  refine q_inlV 10 rfl [.ref 231, .int a1] [] (Nat.le_of_ble_eq_true rfl) rfl ?_
  refine Ev.mk rfl rfl ⟨Nat.le_of_ble_eq_true rfl, Or.inr (q_rc hI59.1 kx_231 rfl)⟩ ?_
  show At _ none _ _ (0, [(0, .ref 231), (1, .int a1)], [], (_, _)) _
  refine At.enter rfl ?_
  refine r_iload_n rfl ?_
  refine q_i2l (fun v61 hv61 => ?_)
  refine r_lconst 0 rfl ?_
  refine r_aload_n rfl ?_
  refine q_getR (Sh.ref hI59.1 kx_231 rfl) ?_
  refine r_iconst 1 rfl ?_
  obtain ⟨v62, hv62⟩ : ∃ v, eA g0 233 1 = v := ⟨_, rfl⟩
  have tv62 := congrArg Int32.toInt hv62
  have wv62 := HI.t1 hI0
  rw [hv62] at wv62
  refine q_iald (Sh.arr hI59.1 ka_233) 1 rfl (by decide) v62 ((eA_c (gA_sI)).trans hv62) ?_
  refine q_i2l (fun v63 hv63 => ?_)
  refine r_lconst 1 rfl ?_
  refine q_lsub (v63.toInt - 1) rfl (by omega) (fun v64 hv64 => ?_)
  refine q_inlS 15 rfl [.long v61, .long 0, .long v64] [] (Nat.le_of_ble_eq_true rfl) rfl ?_
  refine Ev.mk rfl rfl ⟨Nat.le_of_ble_eq_true rfl, Or.inl rfl⟩ ?_
  show At _ none _ _ (0, [(0, .long v61), (2, .long 0), (4, .long v64)], [], (_, _)) _
  refine At.enter rfl ?_
  refine r_lload_n rfl ?_
  refine r_lload_n rfl ?_
  refine r_lcmp _ rfl ?_
  refine r_ifs 6 rfl (fun c65 => ?_) (fun c65 => ?_)
  · have c65_ : v61.toInt < 0 := en_j_lt_t c65
    refine At.enter rfl ?_
    refine r_iconst 0 rfl ?_
    refine Ar.fall 18 rfl ?_
    refine At.enter rfl ?_
    refine q_iretz (by decide) ?_
    refine At.enter rfl ?_
    refine q_iretz (by decide) ?_
    refine At.enter rfl ?_
    refine r_ift (by decide) ?_
    refine At.enter rfl ?_
    refine r_iconst (-1) rfl ?_
    refine r_ireti ?_
    exact ⟨_, rfl, hI59, hF60, _, rfl, trivial⟩
  · have c65_ : v61.toInt ≥ 0 := en_j_lt_f c65
    refine At.enter rfl ?_
    refine r_lload_n rfl ?_
    refine r_lload rfl ?_
    refine r_lcmp _ rfl ?_
    refine r_ifs 13 rfl (fun c66 => ?_) (fun c66 => ?_)
    · have c66_ : v61.toInt > v64.toInt := en_j_gt_t c66
      refine At.enter rfl ?_
      refine r_iconst 0 rfl ?_
      refine Ar.fall 18 rfl ?_
      refine At.enter rfl ?_
      refine q_iretz (by decide) ?_
      refine At.enter rfl ?_
      refine q_iretz (by decide) ?_
      refine At.enter rfl ?_
      refine r_ift (by decide) ?_
      refine At.enter rfl ?_
      refine r_iconst (-1) rfl ?_
      refine r_ireti ?_
      exact ⟨_, rfl, hI59, hF60, _, rfl, trivial⟩
    · have c66_ : v61.toInt ≤ v64.toInt := en_j_gt_f c66
      refine At.enter rfl ?_
      refine r_iconst 1 rfl ?_
      refine r_goto ?_
      refine At.enter rfl ?_
      refine q_iretz (by decide) ?_
      refine At.enter rfl ?_
      refine q_iretz (by decide) ?_
      refine At.enter rfl ?_
      refine r_iff 13 rfl (by decide) ?_
      refine At.enter rfl ?_
      refine r_iload_n rfl ?_
      refine q_i2l (fun v67 hv67 => ?_)
      refine r_lconst 0 rfl ?_
      refine r_ldc2 3 rfl ?_
      refine q_inlS 22 rfl [.long v67, .long 0, .long 3] [] (Nat.le_of_ble_eq_true rfl) rfl ?_
      refine Ev.mk rfl rfl ⟨Nat.le_of_ble_eq_true rfl, Or.inl rfl⟩ ?_
      show At _ none _ _ (0, [(0, .long v67), (2, .long 0), (4, .long 3)], [], (_, _)) _
      refine At.enter rfl ?_
      refine r_lload_n rfl ?_
      refine r_lload_n rfl ?_
      refine r_lcmp _ rfl ?_
      refine r_ifs 6 rfl (fun c68 => ?_) (fun c68 => ?_)
      · have c68_ : v67.toInt < 0 := en_j_lt_t c68
        refine At.enter rfl ?_
        refine r_iconst 0 rfl ?_
        refine Ar.fall 18 rfl ?_
        refine At.enter rfl ?_
        refine q_iretz (by decide) ?_
        refine At.enter rfl ?_
        refine r_iff 25 rfl (by decide) ?_
        refine At.enter rfl ?_
        refine r_iconst (-1) rfl ?_
        refine r_ireti ?_
        exact ⟨_, rfl, hI59, hF60, _, rfl, trivial⟩
      · have c68_ : v67.toInt ≥ 0 := en_j_lt_f c68
        refine At.enter rfl ?_
        refine r_lload_n rfl ?_
        refine r_lload rfl ?_
        refine r_lcmp _ rfl ?_
        refine r_ifs 13 rfl (fun c69 => ?_) (fun c69 => ?_)
        · have c69_ : v67.toInt > 3 := en_j_gt_t c69
          refine At.enter rfl ?_
          refine r_iconst 0 rfl ?_
          refine Ar.fall 18 rfl ?_
          refine At.enter rfl ?_
          refine q_iretz (by decide) ?_
          refine At.enter rfl ?_
          refine r_iff 25 rfl (by decide) ?_
          refine At.enter rfl ?_
          refine r_iconst (-1) rfl ?_
          refine r_ireti ?_
          exact ⟨_, rfl, hI59, hF60, _, rfl, trivial⟩
        · have c69_ : v67.toInt ≤ 3 := en_j_gt_f c69
          refine At.enter rfl ?_
          refine r_iconst 1 rfl ?_
          refine r_goto ?_
          refine At.enter rfl ?_
          refine q_iretz (by decide) ?_
          refine At.enter rfl ?_
          refine r_ift (by decide) ?_
          refine At.enter rfl ?_
          refine r_aload_n rfl ?_
          refine r_callV 31 rfl [.ref 231] [] (Nat.le_of_ble_eq_true rfl) rfl (T_X11_runDay_231 _ hI59) ?_
          rintro _ _ ⟨g70, rfl, hI71, hF72, rfl⟩
          refine At.stn ?_
          have hF75 := Fr.tr hF60 hF72 rfl rfl
          refine At.enter rfl ?_
          refine r_aload_n rfl ?_
          refine q_getR (Sh.ref hI71.1 kx_231 rfl) ?_
          refine r_iload_n rfl ?_
          obtain ⟨v76, hv76⟩ : ∃ v, eA g70 253 a1.toInt = v := ⟨_, rfl⟩
          refine q_iald (Sh.arr hI71.1 ka_253) a1.toInt rfl (by omega) v76 hv76 ?_
          refine r_istore_n ([(3, .int v76), (0, .ref 231), (1, .int a1), (2, .int a2)]) rfl ?_
          refine r_iload_n rfl ?_
          refine r_aload_n rfl ?_
          refine q_getR (Sh.ref hI71.1 kx_231 rfl) ?_
          refine r_iconst 5 rfl ?_
          obtain ⟨v77, hv77⟩ : ∃ v, eA g0 233 5 = v := ⟨_, rfl⟩
          have wv77 := HI.t5 hI0
          rw [hv77] at wv77
          refine q_iald (Sh.arr hI71.1 ka_233) 5 rfl (by decide) v77 ((eA_c ((hF72.2.1 233 ma_X11_runDay_231_233).trans (gA_sI))).trans hv77) ?_
          refine q_isubO (fun v78 _ => ?_)
          refine r_istore ([(4, .int v78), (3, .int v76), (0, .ref 231), (1, .int a1), (2, .int a2)]) rfl ?_
          refine r_iload_n rfl ?_
          refine r_ifs 52 rfl (fun c79 => ?_) (fun c79 => ?_)
          · have c79_ : a2.toInt ≠ 0 := en_k_ne_t c79
            refine At.enter rfl ?_
            refine r_iload_n rfl ?_
            refine r_iconst 1 rfl ?_
            refine r_ics 61 rfl (fun c80 => ?_) (fun c80 => ?_)
            · have c80_ : a2.toInt ≠ 1 := en_i_ne_t c80
              refine At.enter rfl ?_
              refine r_iload_n rfl ?_
              refine r_iconst 2 rfl ?_
              refine r_ics 89 rfl (fun c81 => ?_) (fun c81 => ?_)
              · have c81_ : a2.toInt ≠ 2 := en_i_ne_t c81
                refine At.enter rfl ?_
                refine r_aload_n rfl ?_
                refine q_getR (Sh.ref hI71.1 kx_231 rfl) ?_
                refine r_iload_n rfl ?_
                obtain ⟨v82, hv82⟩ : ∃ v, eA g70 252 a1.toInt = v := ⟨_, rfl⟩
                refine q_iald (Sh.arr hI71.1 ka_252) a1.toInt rfl (by omega) v82 hv82 ?_
                refine Ar.fall 110 rfl ?_
                refine At.enter rfl ?_
                refine r_ireti ?_
                exact ⟨_, rfl, hI71, hF75, _, rfl, trivial⟩
              · have c81_ : a2.toInt = 2 := en_i_ne_f c81
                refine At.enter rfl ?_
                refine r_aload_n rfl ?_
                refine q_getR (Sh.ref hI71.1 kx_231 rfl) ?_
                refine r_bipush 100 rfl ?_
                refine r_iload_n rfl ?_
                refine q_imul (100 * a1.toInt) rfl (by omega) (fun v83 hv83 => ?_)
                refine r_bipush 99 rfl ?_
                refine q_iadd (v83.toInt + 99) rfl (by omega) (fun v84 hv84 => ?_)
                obtain ⟨v85, hv85⟩ : ∃ v, eA g70 256 (100 * a1.toInt + 99) = v := ⟨_, rfl⟩
                refine q_iald (Sh.arr hI71.1 ka_256) (100 * a1.toInt + 99) (by omega) (by omega) v85 hv85 ?_
                refine r_goto ?_
                refine At.enter rfl ?_
                refine r_ireti ?_
                exact ⟨_, rfl, hI71, hF75, _, rfl, trivial⟩
            · have c80_ : a2.toInt = 1 := en_i_ne_f c80
              refine At.enter rfl ?_
              refine r_iload_n rfl ?_
              refine r_iconst (-1) rfl ?_
              refine r_ics 66 rfl (fun c86 => ?_) (fun c86 => ?_)
              · have c86_ : v76.toInt ≠ (-1) := en_i_ne_t c86
                refine At.enter rfl ?_
                refine r_iload rfl ?_
                refine r_ifs 75 rfl (fun c87 => ?_) (fun c87 => ?_)
                · have c87_ : v78.toInt ≥ 0 := en_k_ge_t c87
                  refine At.enter rfl ?_
                  refine r_iload rfl ?_
                  refine r_goto ?_
                  refine At.enter rfl ?_
                  refine r_ireti ?_
                  exact ⟨_, rfl, hI71, hF75, _, rfl, trivial⟩
                · have c87_ : v78.toInt < 0 := en_k_ge_f c87
                  refine At.enter rfl ?_
                  refine r_iconst 0 rfl ?_
                  refine r_goto ?_
                  refine At.enter rfl ?_
                  refine r_ireti ?_
                  exact ⟨_, rfl, hI71, hF75, _, rfl, trivial⟩
              · have c86_ : v76.toInt = (-1) := en_i_ne_f c86
                refine At.enter rfl ?_
                refine r_iconst (-1) rfl ?_
                refine r_goto ?_
                refine At.enter rfl ?_
                refine r_ireti ?_
                exact ⟨_, rfl, hI71, hF75, _, rfl, trivial⟩
          · have c79_ : a2.toInt = 0 := en_k_ne_f c79
            refine At.enter rfl ?_
            refine r_iload_n rfl ?_
            refine r_goto ?_
            refine At.enter rfl ?_
            refine r_ireti ?_
            exact ⟨_, rfl, hI71, hF75, _, rfl, trivial⟩

def F_X11_where_231 : List (Nat × Nat) := [(231, 0), (231, 27), (231, 30), (231, 31), (231, 32), (231, 36)]
def A_X11_where_231 : List Nat := [246, 247, 248, 250, 251, 252, 253, 254, 255, 256]
set_option maxRecDepth 100000 in
set_option maxHeartbeats 4000000 in
theorem T_X11_where_231 (d : Nat) {N : Nat} {g0 : List en_E} (hI0 : HI g0) (a1 : Int32) (a2 : Int32) : Ev (d + 9) 232 [.ref 231, .int a1, .int a2] (g0, N) (fun w h' => ∃ g', h' = (g', N) ∧ HI g' ∧ Fr F_X11_where_231 A_X11_where_231 g0 g' ∧ ∃ r : Int32, w = some (.int r) ∧ True) := by
  have hF0 : Fr F_X11_where_231 A_X11_where_231 g0 g0 := Fr.rf
  refine Ev.mk rfl rfl ⟨Nat.le_of_ble_eq_true rfl, Or.inr (q_rc hI0.1 kx_231 rfl)⟩ ?_
  show At _ none _ _ (0, [(0, .ref 231), (1, .int a1), (2, .int a2)], [], (_, _)) _
  refine At.enter rfl ?_
  refine r_aload_n rfl ?_
  refine r_iconst 0 rfl ?_
  refine q_putI (Sh.int hI0.1 kx_231 rfl) rfl ?_
  have hI41 := HI.wI0 hI0 kx_231 rfl (p := 231) (b := 0) (v := 0) rfl
  have hF42 := Fr.wI (p := 231) (b := 0) (v := 0) hF0 rfl
  refine r_aload_n rfl ?_
  refine r_iload_n rfl ?_
  refine q_inlV 10 rfl [.ref 231, .int a1] [] (Nat.le_of_ble_eq_true rfl) rfl ?_
  refine Ev.mk rfl rfl ⟨Nat.le_of_ble_eq_true rfl, Or.inr (q_rc hI41.1 kx_231 rfl)⟩ ?_
  show At _ none _ _ (0, [(0, .ref 231), (1, .int a1)], [], (_, _)) _
  refine At.enter rfl ?_
  refine r_iload_n rfl ?_
  refine q_i2l (fun v43 hv43 => ?_)
  refine r_lconst 0 rfl ?_
  refine r_aload_n rfl ?_
  refine q_getR (Sh.ref hI41.1 kx_231 rfl) ?_
  refine r_iconst 1 rfl ?_
  obtain ⟨v44, hv44⟩ : ∃ v, eA g0 233 1 = v := ⟨_, rfl⟩
  have tv44 := congrArg Int32.toInt hv44
  have wv44 := HI.t1 hI0
  rw [hv44] at wv44
  refine q_iald (Sh.arr hI41.1 ka_233) 1 rfl (by decide) v44 ((eA_c (gA_sI)).trans hv44) ?_
  refine q_i2l (fun v45 hv45 => ?_)
  refine r_lconst 1 rfl ?_
  refine q_lsub (v45.toInt - 1) rfl (by omega) (fun v46 hv46 => ?_)
  refine q_inlS 15 rfl [.long v43, .long 0, .long v46] [] (Nat.le_of_ble_eq_true rfl) rfl ?_
  refine Ev.mk rfl rfl ⟨Nat.le_of_ble_eq_true rfl, Or.inl rfl⟩ ?_
  show At _ none _ _ (0, [(0, .long v43), (2, .long 0), (4, .long v46)], [], (_, _)) _
  refine At.enter rfl ?_
  refine r_lload_n rfl ?_
  refine r_lload_n rfl ?_
  refine r_lcmp _ rfl ?_
  refine r_ifs 6 rfl (fun c47 => ?_) (fun c47 => ?_)
  · have c47_ : v43.toInt < 0 := en_j_lt_t c47
    refine At.enter rfl ?_
    refine r_iconst 0 rfl ?_
    refine Ar.fall 18 rfl ?_
    refine At.enter rfl ?_
    refine q_iretz (by decide) ?_
    refine At.enter rfl ?_
    refine q_iretz (by decide) ?_
    refine At.enter rfl ?_
    refine r_ift (by decide) ?_
    refine At.enter rfl ?_
    refine r_iconst (-1) rfl ?_
    refine r_ireti ?_
    exact ⟨_, rfl, hI41, hF42, _, rfl, trivial⟩
  · have c47_ : v43.toInt ≥ 0 := en_j_lt_f c47
    refine At.enter rfl ?_
    refine r_lload_n rfl ?_
    refine r_lload rfl ?_
    refine r_lcmp _ rfl ?_
    refine r_ifs 13 rfl (fun c48 => ?_) (fun c48 => ?_)
    · have c48_ : v43.toInt > v46.toInt := en_j_gt_t c48
      refine At.enter rfl ?_
      refine r_iconst 0 rfl ?_
      refine Ar.fall 18 rfl ?_
      refine At.enter rfl ?_
      refine q_iretz (by decide) ?_
      refine At.enter rfl ?_
      refine q_iretz (by decide) ?_
      refine At.enter rfl ?_
      refine r_ift (by decide) ?_
      refine At.enter rfl ?_
      refine r_iconst (-1) rfl ?_
      refine r_ireti ?_
      exact ⟨_, rfl, hI41, hF42, _, rfl, trivial⟩
    · have c48_ : v43.toInt ≤ v46.toInt := en_j_gt_f c48
      refine At.enter rfl ?_
      refine r_iconst 1 rfl ?_
      refine r_goto ?_
      refine At.enter rfl ?_
      refine q_iretz (by decide) ?_
      refine At.enter rfl ?_
      refine q_iretz (by decide) ?_
      refine At.enter rfl ?_
      refine r_iff 13 rfl (by decide) ?_
      refine At.enter rfl ?_
      refine r_iload_n rfl ?_
      refine q_inlS 17 rfl [.int a2] [] (Nat.le_of_ble_eq_true rfl) rfl ?_
      refine Ev.mk rfl rfl ⟨Nat.le_of_ble_eq_true rfl, Or.inl rfl⟩ ?_
      show At _ none _ _ (0, [(0, .int a2)], [], (_, _)) _
      refine At.enter rfl ?_
      refine r_iload_n rfl ?_
      refine q_i2l (fun v49 hv49 => ?_)
      refine r_lconst 0 rfl ?_
      refine r_ldc2 99 rfl ?_
      refine q_inlS 9 rfl [.long v49, .long 0, .long 99] [] (Nat.le_of_ble_eq_true rfl) rfl ?_
      refine Ev.mk rfl rfl ⟨Nat.le_of_ble_eq_true rfl, Or.inl rfl⟩ ?_
      show At _ none _ _ (0, [(0, .long v49), (2, .long 0), (4, .long 99)], [], (_, _)) _
      refine At.enter rfl ?_
      refine r_lload_n rfl ?_
      refine r_lload_n rfl ?_
      refine r_lcmp _ rfl ?_
      refine r_ifs 6 rfl (fun c50 => ?_) (fun c50 => ?_)
      · have c50_ : v49.toInt < 0 := en_j_lt_t c50
        refine At.enter rfl ?_
        refine r_iconst 0 rfl ?_
        refine Ar.fall 18 rfl ?_
        refine At.enter rfl ?_
        refine q_iretz (by decide) ?_
        refine At.enter rfl ?_
        refine q_iretz (by decide) ?_
        refine At.enter rfl ?_
        refine r_iff 20 rfl (by decide) ?_
        refine At.enter rfl ?_
        refine r_iconst (-1) rfl ?_
        refine r_ireti ?_
        exact ⟨_, rfl, hI41, hF42, _, rfl, trivial⟩
      · have c50_ : v49.toInt ≥ 0 := en_j_lt_f c50
        refine At.enter rfl ?_
        refine r_lload_n rfl ?_
        refine r_lload rfl ?_
        refine r_lcmp _ rfl ?_
        refine r_ifs 13 rfl (fun c51 => ?_) (fun c51 => ?_)
        · have c51_ : v49.toInt > 99 := en_j_gt_t c51
          refine At.enter rfl ?_
          refine r_iconst 0 rfl ?_
          refine Ar.fall 18 rfl ?_
          refine At.enter rfl ?_
          refine q_iretz (by decide) ?_
          refine At.enter rfl ?_
          refine q_iretz (by decide) ?_
          refine At.enter rfl ?_
          refine r_iff 20 rfl (by decide) ?_
          refine At.enter rfl ?_
          refine r_iconst (-1) rfl ?_
          refine r_ireti ?_
          exact ⟨_, rfl, hI41, hF42, _, rfl, trivial⟩
        · have c51_ : v49.toInt ≤ 99 := en_j_gt_f c51
          refine At.enter rfl ?_
          refine r_iconst 1 rfl ?_
          refine r_goto ?_
          refine At.enter rfl ?_
          refine q_iretz (by decide) ?_
          refine At.enter rfl ?_
          refine q_iretz (by decide) ?_
          refine At.enter rfl ?_
          refine r_ift (by decide) ?_
          refine At.enter rfl ?_
          refine r_aload_n rfl ?_
          refine r_callV 26 rfl [.ref 231] [] (Nat.le_of_ble_eq_true rfl) rfl (T_X11_runDay_231 _ hI41) ?_
          rintro _ _ ⟨g52, rfl, hI53, hF54, rfl⟩
          refine At.stn ?_
          have hF57 := Fr.tr hF42 hF54 rfl rfl
          refine At.enter rfl ?_
          refine r_aload_n rfl ?_
          refine q_getR (Sh.ref hI53.1 kx_231 rfl) ?_
          refine r_bipush 100 rfl ?_
          refine r_iload_n rfl ?_
          refine q_imul (100 * a1.toInt) rfl (by omega) (fun v58 hv58 => ?_)
          refine r_iload_n rfl ?_
          refine q_iadd (v58.toInt + a2.toInt) rfl (by omega) (fun v59 hv59 => ?_)
          obtain ⟨v60, hv60⟩ : ∃ v, eA g52 256 (100 * a1.toInt + a2.toInt) = v := ⟨_, rfl⟩
          refine q_iald (Sh.arr hI53.1 ka_256) (100 * a1.toInt + a2.toInt) (by omega) (by omega) v60 hv60 ?_
          refine r_ireti ?_
          exact ⟨_, rfl, hI53, hF57, _, rfl, trivial⟩
