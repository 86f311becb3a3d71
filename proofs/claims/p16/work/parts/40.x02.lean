def F_X1_giveUp_204 : List (Nat × Nat) := []
def A_X1_giveUp_204 : List Nat := [211, 215, 216]
set_option maxRecDepth 100000 in
set_option maxHeartbeats 4000000 in
theorem T_X1_giveUp_204 (d : Nat) {N : Nat} {g0 : List en_E} (hI0 : HI g0) (a1 : Int32) (a2 : Int32) (h_a2 : 0 ≤ a2.toInt ∧ a2.toInt ≤ 7) : Ev (d + 2) 28 [.ref 204, .int a1, .int a2] (g0, N) (fun w h' => ∃ g', h' = (g', N) ∧ HI g' ∧ Fr F_X1_giveUp_204 A_X1_giveUp_204 g0 g' ∧ w = none) := by
  have hF0 : Fr F_X1_giveUp_204 A_X1_giveUp_204 g0 g0 := Fr.rf
  refine Ev.mk rfl rfl ⟨Nat.le_of_ble_eq_true rfl, Or.inr (q_rc hI0.1 kx_204 rfl)⟩ ?_
  show At _ none _ _ (0, [(0, .ref 204), (1, .int a1), (2, .int a2)], [], (_, _)) _
  refine At.enter rfl ?_
  refine r_aload_n rfl ?_
  refine q_getR (Sh.ref hI0.1 kx_204 rfl) ?_
  refine r_iload_n rfl ?_
  refine q_inlV 8 rfl [.ref 1, .int a1] [] (Nat.le_of_ble_eq_true rfl) rfl ?_
  refine Ev.mk rfl rfl ⟨Nat.le_of_ble_eq_true rfl, Or.inr (q_rc hI0.1 kx_1 rfl)⟩ ?_
  show At _ none _ _ (0, [(0, .ref 1), (1, .int a1)], [], (_, _)) _
  refine At.enter rfl ?_
  refine r_iload_n rfl ?_
  refine r_ifs 4 rfl (fun c45 => ?_) (fun c45 => ?_)
  · have c45_ : a1.toInt < 0 := en_k_lt_t c45
    refine At.enter rfl ?_
    refine r_iconst 0 rfl ?_
    refine Ar.fall 17 rfl ?_
    refine At.enter rfl ?_
    refine q_iretz (by decide) ?_
    refine At.enter rfl ?_
    refine r_ift (by decide) ?_
    refine At.enter rfl ?_
    refine r_vret ?_
    exact ⟨_, rfl, hI0, hF0, rfl⟩
  · have c45_ : a1.toInt ≥ 0 := en_k_lt_f c45
    refine At.enter rfl ?_
    refine r_iload_n rfl ?_
    refine r_aload_n rfl ?_
    obtain ⟨v46, hv46⟩ : ∃ v, gI g0 1 0 = v := ⟨_, rfl⟩
    have rv46 := RgF.at hI0.2.1 (p := 1) (b := 0) rfl
    rw [hv46] at rv46
    dsimp only at rv46
    refine q_getI (Sh.int hI0.1 kx_1 rfl) v46 hv46 ?_
    have bv48 := q_bnd a1
    have bv49 := q_bnd v46
    refine r_ics 12 rfl (fun c47 => ?_) (fun c47 => ?_)
    · have c47_ : a1.toInt ≥ v46.toInt := en_i_ge_t c47
      refine At.enter rfl ?_
      refine r_iconst 0 rfl ?_
      refine Ar.fall 17 rfl ?_
      refine At.enter rfl ?_
      refine q_iretz (by decide) ?_
      refine At.enter rfl ?_
      refine r_ift (by decide) ?_
      refine At.enter rfl ?_
      refine r_vret ?_
      exact ⟨_, rfl, hI0, hF0, rfl⟩
    · have c47_ : a1.toInt < v46.toInt := en_i_ge_f c47
      refine At.enter rfl ?_
      refine r_iconst 1 rfl ?_
      refine r_goto ?_
      refine At.enter rfl ?_
      refine q_iretz (by decide) ?_
      refine At.enter rfl ?_
      refine r_iff 11 rfl (by decide) ?_
      refine At.enter rfl ?_
      refine r_aload_n rfl ?_
      refine q_getR (Sh.ref hI0.1 kx_204 rfl) ?_
      refine r_iload_n rfl ?_
      refine r_iconst (-1) rfl ?_
      refine q_iast (Sh.arr hI0.1 ka_211) (a2.toInt) rfl (by omega) ?_
      have hI50 := HI.wA0 hI0 ka_211 (p := 211) rfl rfl (a2.toInt) ((-1))
      have hF51 := Fr.wA (p := 211) (j := a2.toInt) (v := (-1)) hF0 rfl
      refine r_aload_n rfl ?_
      refine q_getR (Sh.ref hI50.1 kx_204 rfl) ?_
      refine r_iload_n rfl ?_
      refine r_dup2 ⟨rfl, rfl⟩ ?_
      obtain ⟨v52, hv52⟩ : ∃ v, eA g0 215 a1.toInt = v := ⟨_, rfl⟩
      refine q_iald (Sh.arr hI50.1 ka_215) a1.toInt rfl (by omega) v52 ((eA_c (gA_sA_ne (by decide))).trans hv52) ?_
      refine r_iconst 1 rfl ?_
      refine q_isubO (fun v53 _ => ?_)
      refine q_iast (Sh.arr hI50.1 ka_215) (a1.toInt) rfl (by omega) ?_
      have hI54 := HI.wA0 hI50 ka_215 (p := 215) rfl rfl (a1.toInt) (v53)
      have hF55 := Fr.wA (p := 215) (j := a1.toInt) (v := v53) hF51 rfl
      refine r_aload_n rfl ?_
      refine q_getR (Sh.ref hI54.1 kx_204 rfl) ?_
      refine r_iload_n rfl ?_
      refine r_dup2 ⟨rfl, rfl⟩ ?_
      obtain ⟨v56, hv56⟩ : ∃ v, eA g0 216 a1.toInt = v := ⟨_, rfl⟩
      refine q_iald (Sh.arr hI54.1 ka_216) a1.toInt rfl (by omega) v56 ((eA_c ((gA_sA_ne (by decide)).trans (gA_sA_ne (by decide)))).trans hv56) ?_
      refine r_aload_n rfl ?_
      refine q_getR (Sh.ref hI54.1 kx_204 rfl) ?_
      refine r_iload_n rfl ?_
      refine r_iconst 0 rfl ?_
      refine r_callV 44 rfl [.ref 1, .int a2, .int 0] [.int v56, .int a1, .ref 216] (Nat.le_of_ble_eq_true rfl) rfl (T_X0_about_1 _ hI54 a2 0) ?_
      rintro _ _ ⟨g57, rfl, hI58, hF59, v60, rfl, hr61⟩
      refine At.sti ?_
      have hF62 := Fr.tr hF55 hF59 rfl rfl
      have zv63 : (0 : Int32).toInt = 0 := rfl
      refine At.enter rfl ?_
      refine q_isubO (fun v64 _ => ?_)
      refine q_iast (Sh.arr hI58.1 ka_216) (a1.toInt) rfl (by omega) ?_
      have hI65 := HI.wA0 hI58 ka_216 (p := 216) rfl rfl (a1.toInt) (v64)
      have hF66 := Fr.wA (p := 216) (j := a1.toInt) (v := v64) hF62 rfl
      refine Ar.fall 46 rfl ?_
      refine At.enter rfl ?_
      refine r_vret ?_
      exact ⟨_, rfl, hI65, hF66, rfl⟩

def F_X1_admit_204 : List (Nat × Nat) := [(204, 18)]
def A_X1_admit_204 : List Nat := [211, 212, 214, 215, 216]
set_option maxRecDepth 100000 in
set_option maxHeartbeats 4000000 in
theorem T_X1_admit_204 (d : Nat) {N : Nat} {g0 : List en_E} (hI0 : HI g0) (a1 : Int32) (h_a1 : 0 ≤ a1.toInt ∧ a1.toInt ≤ 7) (a2 : Int32) : Ev (d + 3) 25 [.ref 204, .int a1, .int a2] (g0, N) (fun w h' => ∃ g', h' = (g', N) ∧ HI g' ∧ Fr F_X1_admit_204 A_X1_admit_204 g0 g' ∧ w = none) := by
  have hF0 : Fr F_X1_admit_204 A_X1_admit_204 g0 g0 := Fr.rf
  refine Ev.mk rfl rfl ⟨Nat.le_of_ble_eq_true rfl, Or.inr (q_rc hI0.1 kx_204 rfl)⟩ ?_
  show At _ none _ _ (0, [(0, .ref 204), (1, .int a1), (2, .int a2)], [], (_, _)) _
  refine At.enter rfl ?_
  refine r_aload_n rfl ?_
  refine q_getR (Sh.ref hI0.1 kx_204 rfl) ?_
  refine r_iload_n rfl ?_
  refine r_iconst 1 rfl ?_
  refine r_callV 9 rfl [.ref 1, .int a1, .int 1] [] (Nat.le_of_ble_eq_true rfl) rfl (T_X0_about_1 _ hI0 a1 1) ?_
  rintro _ _ ⟨g61, rfl, hI62, hF63, v64, rfl, hr65⟩
  refine At.sti ?_
  have hF66 := Fr.tr hF0 hF63 rfl rfl
  have zv67 : (1 : Int32).toInt = 1 := rfl
  refine At.enter rfl ?_
  refine r_istore_n ([(3, .int v64), (0, .ref 204), (1, .int a1), (2, .int a2)]) rfl ?_
  refine r_iload_n rfl ?_
  refine r_aload_n rfl ?_
  refine q_getR (Sh.ref hI62.1 kx_204 rfl) ?_
  refine r_iload_n rfl ?_
  refine r_iconst 2 rfl ?_
  refine r_callV 20 rfl [.ref 1, .int a1, .int 2] [.int v64] (Nat.le_of_ble_eq_true rfl) rfl (T_X0_about_1 _ hI62 a1 2) ?_
  rintro _ _ ⟨g68, rfl, hI69, hF70, v71, rfl, hr72⟩
  refine At.sti ?_
  have hF73 := Fr.tr hF66 hF70 rfl rfl
  have zv74 : (2 : Int32).toInt = 2 := rfl
  refine At.enter rfl ?_
  refine r_ics 23 rfl (fun c75 => ?_) (fun c75 => ?_)
  · have c75_ : v64.toInt ≠ v71.toInt := en_i_ne_t c75
    refine At.enter rfl ?_
    refine r_aload_n rfl ?_
    refine r_iload_n rfl ?_
    refine r_iload_n rfl ?_
    refine r_callV 39 rfl [.ref 204, .int v64, .int a1] [] (Nat.le_of_ble_eq_true rfl) rfl (T_X1_canHold_204 _ hI69 v64 a1) ?_
    rintro _ _ ⟨g76, rfl, hI77, hF78, v79, rfl, hr80⟩
    refine At.sti ?_
    have hF81 := Fr.tr hF73 hF78 rfl rfl
    refine At.enter rfl ?_
    refine r_ifs 42 rfl (fun c82 => ?_) (fun c82 => ?_)
    · have c82_ : v79.toInt = 0 := en_k_eq_t c82
      refine At.enter rfl ?_
      refine r_vret ?_
      exact ⟨_, rfl, hI77, hF81, rfl⟩
    · have c82_ : v79.toInt ≠ 0 := en_k_eq_f c82
      refine At.enter rfl ?_
      refine r_aload_n rfl ?_
      refine r_iload_n rfl ?_
      refine r_iload_n rfl ?_
      refine r_callV 48 rfl [.ref 204, .int v64, .int a1] [] (Nat.le_of_ble_eq_true rfl) rfl (T_X1_take_204 _ hI77 v64 a1 (by omega)) ?_
      rintro _ _ ⟨g83, rfl, hI84, hF85, rfl⟩
      refine At.stn ?_
      have hF88 := Fr.tr hF81 hF85 rfl rfl
      refine At.enter rfl ?_
      refine r_vret ?_
      exact ⟨_, rfl, hI84, hF88, rfl⟩
  · have c75_ : v64.toInt = v71.toInt := en_i_ne_f c75
    refine At.enter rfl ?_
    refine r_aload_n rfl ?_
    refine q_getR (Sh.ref hI69.1 kx_204 rfl) ?_
    refine r_iload_n rfl ?_
    refine r_iload_n rfl ?_
    refine q_iast (Sh.arr hI69.1 ka_212) (a1.toInt) rfl (by omega) ?_
    have hI89 := HI.wA0 hI69 ka_212 (p := 212) rfl rfl (a1.toInt) (a2)
    have hF90 := Fr.wA (p := 212) (j := a1.toInt) (v := a2) hF73 rfl
    refine r_goto ?_
    refine At.enter rfl ?_
    refine r_vret ?_
    exact ⟨_, rfl, hI89, hF90, rfl⟩

def F_X1_arrive_204 : List (Nat × Nat) := [(204, 18)]
def A_X1_arrive_204 : List Nat := [211, 212, 214, 215, 216]
set_option maxRecDepth 100000 in
set_option maxHeartbeats 4000000 in
theorem T_X1_arrive_204 (d : Nat) {N : Nat} {g0 : List en_E} (hI0 : HI g0) (a1 : Int32) : Ev (d + 4) 24 [.ref 204, .int a1] (g0, N) (fun w h' => ∃ g', h' = (g', N) ∧ HI g' ∧ Fr F_X1_arrive_204 A_X1_arrive_204 g0 g' ∧ w = none) := by
  have hF0 : Fr F_X1_arrive_204 A_X1_arrive_204 g0 g0 := Fr.rf
  refine Ev.mk rfl rfl ⟨Nat.le_of_ble_eq_true rfl, Or.inr (q_rc hI0.1 kx_204 rfl)⟩ ?_
  show At _ none _ _ (0, [(0, .ref 204), (1, .int a1)], [], (_, _)) _
  refine At.enter rfl ?_
  refine r_iconst 0 rfl ?_
  refine r_istore_n ([(2, .int 0), (0, .ref 204), (1, .int a1)]) rfl ?_
  refine Ar.fall 2 rfl ?_
  have z_2915 : (0 : Int32).toInt = 0 := rfl
  refine w_loopI (fun n_ l_ g_ => ∃ x2904 : Int32, n_ = 8 - x2904.toInt ∧ HI g_ ∧ Fr F_X1_arrive_204 A_X1_arrive_204 g0 g_ ∧ en_get 0 l_ = some (.ref 204) ∧ en_get 1 l_ = some (.int a1) ∧ en_get 2 l_ = some (.int x2904) ∧ (0 ≤ x2904.toInt ∧ x2904.toInt ≤ 8)) ?_ (8 - 0) ⟨0, by first | rfl | omega, hI0, hF0, rfl, rfl, rfl, by decide⟩
  rintro n2909 l2908 g2905 ⟨x2904, hm2916, hI2906, hF2907, e2911, e2912, e2913, r2914⟩ ih2910
  refine At.enter rfl ?_
  refine r_iload_n e2913 ?_
  refine r_aload_n e2911 ?_
  refine q_getR (Sh.ref hI2906.1 kx_204 rfl) ?_
  obtain ⟨v2917, hv2917⟩ : ∃ v, gI g0 1 4 = v := ⟨_, rfl⟩
  have rv2917 := RgF.at hI0.2.1 (p := 1) (b := 4) rfl
  rw [hv2917] at rv2917
  dsimp only at rv2917
  refine q_getI (Sh.int hI2906.1 kx_1 rfl) v2917 ((hF2907.1 1 4 (by decide)).trans hv2917) ?_
  have bv2919 := q_bnd x2904
  have bv2920 := q_bnd v2917
  refine r_ics 13 rfl (fun c2918 => ?_) (fun c2918 => ?_)
  · have c2918_ : x2904.toInt ≥ v2917.toInt := en_i_ge_t c2918
    refine At.enter rfl ?_
    refine r_iconst 0 rfl ?_
    refine r_istore_n _ rfl ?_
    refine Ar.fall 57 rfl ?_
    have z_3030 : (0 : Int32).toInt = 0 := rfl
    refine w_loopI (fun n_ l_ g_ => ∃ x3019 : Int32, n_ = 8 - x3019.toInt ∧ HI g_ ∧ Fr F_X1_arrive_204 A_X1_arrive_204 g0 g_ ∧ en_get 0 l_ = some (.ref 204) ∧ en_get 1 l_ = some (.int a1) ∧ en_get 2 l_ = some (.int x3019) ∧ (0 ≤ x3019.toInt ∧ x3019.toInt ≤ 8)) ?_ (8 - 0) ⟨0, by first | rfl | omega, hI2906, hF2907, (w_p1 (by decide) (Or.inr rfl) e2911), (w_p1 (by decide) (Or.inr rfl) e2912), (w_e1 _ _ _), by decide⟩
    rintro n3024 l3023 g3020 ⟨x3019, hm3031, hI3021, hF3022, e3026, e3027, e3028, r3029⟩ ih3025
    refine At.enter rfl ?_
    refine r_iload_n e3028 ?_
    refine r_aload_n e3026 ?_
    refine q_getR (Sh.ref hI3021.1 kx_204 rfl) ?_
    refine q_getI (Sh.int hI3021.1 kx_1 rfl) v2917 ((hF3022.1 1 4 (by decide)).trans hv2917) ?_
    have bv3033 := q_bnd x3019
    refine r_ics 68 rfl (fun c3032 => ?_) (fun c3032 => ?_)
    · have c3032_ : x3019.toInt ≥ v2917.toInt := en_i_ge_t c3032
      refine At.enter rfl ?_
      refine r_vret ?_
      exact ⟨_, rfl, hI3021, hF3022, rfl⟩
    · have c3032_ : x3019.toInt < v2917.toInt := en_i_ge_f c3032
      refine At.enter rfl ?_
      refine r_aload_n e3026 ?_
      refine q_getR (Sh.ref hI3021.1 kx_204 rfl) ?_
      refine r_iload_n e3028 ?_
      obtain ⟨v3034, hv3034⟩ : ∃ v, eA g0 207 x3019.toInt = v := ⟨_, rfl⟩
      refine q_iald (Sh.arr hI3021.1 ka_207) x3019.toInt rfl (by omega) v3034 ((eA_c (hF3022.2.1 207 (by decide))).trans hv3034) ?_
      refine r_iload_n e3027 ?_
      refine r_ics 78 rfl (fun c3035 => ?_) (fun c3035 => ?_)
      · have c3035_ : v3034.toInt ≠ a1.toInt := en_i_ne_t c3035
        refine At.enter rfl ?_
        refine q_iinc e3028 (x3019.toInt + 1) rfl (by omega) (fun v3036 hv3036 => ?_)
        refine r_goto ?_
        exact ih3025 (8 - v3036.toInt) _ _ ⟨v3036, by first | rfl | omega, hI3021, hF3022, (w_p1 (by decide) (Or.inr rfl) e3026), (w_p1 (by decide) (Or.inr rfl) e3027), (w_e1 _ _ _), by omega⟩ ⟨by omega, by omega⟩
      · have c3035_ : v3034.toInt = a1.toInt := en_i_ne_f c3035
        refine At.enter rfl ?_
        refine r_aload_n e3026 ?_
        refine r_iload_n e3028 ?_
        refine r_iload_n e3027 ?_
        refine r_callV 84 rfl [.ref 204, .int x3019, .int a1] [] (Nat.le_of_ble_eq_true rfl) rfl (T_X1_admit_204 _ hI3021 x3019 (by omega) a1) ?_
        rintro _ _ ⟨g3037, rfl, hI3038, hF3039, rfl⟩
        refine At.stn ?_
        have hF3042 := Fr.tr hF3022 hF3039 rfl rfl
        refine At.enter rfl ?_
        refine q_iinc e3028 (x3019.toInt + 1) rfl (by omega) (fun v3043 hv3043 => ?_)
        refine r_goto ?_
        exact ih3025 (8 - v3043.toInt) _ _ ⟨v3043, by first | rfl | omega, hI3038, hF3042, (w_p1 (by decide) (Or.inr rfl) e3026), (w_p1 (by decide) (Or.inr rfl) e3027), (w_e1 _ _ _), by omega⟩ ⟨by omega, by omega⟩
  · have c2918_ : x2904.toInt < v2917.toInt := en_i_ge_f c2918
    refine At.enter rfl ?_
    refine r_aload_n e2911 ?_
    refine q_getR (Sh.ref hI2906.1 kx_204 rfl) ?_
    refine r_iload_n e2913 ?_
    obtain ⟨v3044, hv3044⟩ : ∃ v, eA g0 207 x2904.toInt = v := ⟨_, rfl⟩
    refine q_iald (Sh.arr hI2906.1 ka_207) x2904.toInt rfl (by omega) v3044 ((eA_c (hF2907.2.1 207 (by decide))).trans hv3044) ?_
    refine r_iload_n e2912 ?_
    have bv3046 := q_bnd v3044
    have bv3047 := q_bnd a1
    refine r_ics 23 rfl (fun c3045 => ?_) (fun c3045 => ?_)
    · have c3045_ : v3044.toInt ≥ a1.toInt := en_i_ge_t c3045
      refine At.enter rfl ?_
      refine q_iinc e2913 (x2904.toInt + 1) rfl (by omega) (fun v3048 hv3048 => ?_)
      refine r_goto ?_
      exact ih2910 (8 - v3048.toInt) _ _ ⟨v3048, by first | rfl | omega, hI2906, hF2907, (w_p1 (by decide) (Or.inr rfl) e2911), (w_p1 (by decide) (Or.inr rfl) e2912), (w_e1 _ _ _), by omega⟩ ⟨by omega, by omega⟩
    · have c3045_ : v3044.toInt < a1.toInt := en_i_ge_f c3045
      refine At.enter rfl ?_
      refine r_aload_n e2911 ?_
      refine q_getR (Sh.ref hI2906.1 kx_204 rfl) ?_
      refine r_iload_n e2913 ?_
      obtain ⟨v3049, hv3049⟩ : ∃ v, eA g2905 211 x2904.toInt = v := ⟨_, rfl⟩
      refine q_iald (Sh.arr hI2906.1 ka_211) x2904.toInt rfl (by omega) v3049 hv3049 ?_
      refine r_iconst (-1) rfl ?_
      refine r_ics 33 rfl (fun c3050 => ?_) (fun c3050 => ?_)
      · have c3050_ : v3049.toInt ≠ (-1) := en_i_ne_t c3050
        refine At.enter rfl ?_
        refine q_iinc e2913 (x2904.toInt + 1) rfl (by omega) (fun v3051 hv3051 => ?_)
        refine r_goto ?_
        exact ih2910 (8 - v3051.toInt) _ _ ⟨v3051, by first | rfl | omega, hI2906, hF2907, (w_p1 (by decide) (Or.inr rfl) e2911), (w_p1 (by decide) (Or.inr rfl) e2912), (w_e1 _ _ _), by omega⟩ ⟨by omega, by omega⟩
      · have c3050_ : v3049.toInt = (-1) := en_i_ne_f c3050
        refine At.enter rfl ?_
        refine r_aload_n e2911 ?_
        refine q_getR (Sh.ref hI2906.1 kx_204 rfl) ?_
        refine r_iload_n e2913 ?_
        obtain ⟨v3052, hv3052⟩ : ∃ v, eA g2905 212 x2904.toInt = v := ⟨_, rfl⟩
        refine q_iald (Sh.arr hI2906.1 ka_212) x2904.toInt rfl (by omega) v3052 hv3052 ?_
        refine r_iconst (-1) rfl ?_
        refine r_ics 43 rfl (fun c3053 => ?_) (fun c3053 => ?_)
        · have c3053_ : v3052.toInt ≠ (-1) := en_i_ne_t c3053
          refine At.enter rfl ?_
          refine q_iinc e2913 (x2904.toInt + 1) rfl (by omega) (fun v3054 hv3054 => ?_)
          refine r_goto ?_
          exact ih2910 (8 - v3054.toInt) _ _ ⟨v3054, by first | rfl | omega, hI2906, hF2907, (w_p1 (by decide) (Or.inr rfl) e2911), (w_p1 (by decide) (Or.inr rfl) e2912), (w_e1 _ _ _), by omega⟩ ⟨by omega, by omega⟩
        · have c3053_ : v3052.toInt = (-1) := en_i_ne_f c3053
          refine At.enter rfl ?_
          refine r_aload_n e2911 ?_
          refine r_iload_n e2913 ?_
          refine r_iload_n e2912 ?_
          refine r_callV 49 rfl [.ref 204, .int x2904, .int a1] [] (Nat.le_of_ble_eq_true rfl) rfl (T_X1_admit_204 _ hI2906 x2904 (by omega) a1) ?_
          rintro _ _ ⟨g3055, rfl, hI3056, hF3057, rfl⟩
          refine At.stn ?_
          have hF3060 := Fr.tr hF2907 hF3057 rfl rfl
          refine At.enter rfl ?_
          refine q_iinc e2913 (x2904.toInt + 1) rfl (by omega) (fun v3061 hv3061 => ?_)
          refine r_goto ?_
          exact ih2910 (8 - v3061.toInt) _ _ ⟨v3061, by first | rfl | omega, hI3056, hF3060, (w_p1 (by decide) (Or.inr rfl) e2911), (w_p1 (by decide) (Or.inr rfl) e2912), (w_e1 _ _ _), by omega⟩ ⟨by omega, by omega⟩

def F_X1_lineUp_204 : List (Nat × Nat) := [(185, 3), (204, 16)]
def A_X1_lineUp_204 : List Nat := [218]
set_option maxRecDepth 100000 in
set_option maxHeartbeats 4000000 in
theorem T_X1_lineUp_204 (d : Nat) {N : Nat} {g0 : List en_E} (hI0 : HI g0) (a1 : Int32) : Ev (d + 4) 29 [.ref 204, .int a1] (g0, N) (fun w h' => ∃ g', h' = (g', N) ∧ HI g' ∧ Fr F_X1_lineUp_204 A_X1_lineUp_204 g0 g' ∧ w = none) := by
  have hF0 : Fr F_X1_lineUp_204 A_X1_lineUp_204 g0 g0 := Fr.rf
  refine Ev.mk rfl rfl ⟨Nat.le_of_ble_eq_true rfl, Or.inr (q_rc hI0.1 kx_204 rfl)⟩ ?_
  show At _ none _ _ (0, [(0, .ref 204), (1, .int a1)], [], (_, _)) _
  refine At.enter rfl ?_
  refine r_aload_n rfl ?_
  refine q_getR (Sh.ref hI0.1 kx_204 rfl) ?_
  refine q_inlV 7 rfl [.ref 1] [] (Nat.le_of_ble_eq_true rfl) rfl ?_
  refine Ev.mk rfl rfl ⟨Nat.le_of_ble_eq_true rfl, Or.inr (q_rc hI0.1 kx_1 rfl)⟩ ?_
  show At _ none _ _ (0, [(0, .ref 1)], [], (_, _)) _
  refine At.enter rfl ?_
  refine r_aload_n rfl ?_
  refine r_aload_n rfl ?_
  obtain ⟨v9851, hv9851⟩ : ∃ v, gI g0 1 9 = v := ⟨_, rfl⟩
  refine q_getI (Sh.int hI0.1 kx_1 rfl) v9851 hv9851 ?_
  refine r_callV 8 rfl [.ref 1, .int v9851] [] (Nat.le_of_ble_eq_true rfl) rfl (T_X0_lawAt_1 _ hI0 v9851) ?_
  rintro _ _ ⟨g9852, rfl, hI9853, hF9854, v9855, rfl, hr9856⟩
  refine At.str ?_
  have hF9857 := Fr.tr hF0 hF9854 rfl rfl
  refine At.enter rfl ?_
  refine q_aret ?_
  refine At.enter rfl ?_
  refine r_iconst 0 rfl ?_
  refine r_callV 11 rfl [.ref (v9855), .int 0] [] (Nat.le_of_ble_eq_true rfl) rfl (T_X4_speaksOf_law _ hI9853 (v9855) hr9856 0) ?_
  rintro _ _ ⟨g9858, rfl, hI9859, hF9860, v9861, rfl, hr9862⟩
  refine At.sti ?_
  have hF9863 := Fr.tr hF9857 hF9860 rfl rfl
  refine At.enter rfl ?_
  refine r_istore_n ([(2, .int v9861), (0, .ref 204), (1, .int a1)]) rfl ?_
  refine r_aload_n rfl ?_
  refine r_iconst 0 rfl ?_
  refine q_putI (Sh.int hI9859.1 kx_204 rfl) rfl ?_
  have hI9864 := HI.wI1 hI9859 kx_204 rfl (p := 204) (b := 16) (v := 0) rfl (by decide)
  have hF9865 := Fr.wI (p := 204) (b := 16) (v := 0) hF9863 rfl
  refine r_iconst 0 rfl ?_
  refine r_istore_n ([(3, .int 0), (2, .int v9861), (0, .ref 204), (1, .int a1)]) rfl ?_
  refine Ar.fall 19 rfl ?_
  have z_14571 : (0 : Int32).toInt = 0 := rfl
  have z_14572 : (0 : Int32).toInt = 0 := rfl
  refine w_loopI (fun n_ l_ g_ => ∃ x14555 : Int32, ∃ x14556 : Int32, n_ = 8 - x14555.toInt ∧ HI g_ ∧ Fr F_X1_lineUp_204 A_X1_lineUp_204 g0 g_ ∧ gI g_ 204 16 = x14556 ∧ en_get 0 l_ = some (.ref 204) ∧ en_get 1 l_ = some (.int a1) ∧ en_get 2 l_ = some (.int v9861) ∧ en_get 3 l_ = some (.int x14555) ∧ (0 ≤ x14555.toInt ∧ x14555.toInt ≤ 8) ∧ (0 ≤ x14556.toInt ∧ x14556.toInt ≤ 8) ∧ (x14556.toInt ≤ x14555.toInt)) ?_ (8 - 0) ⟨0, 0, by first | rfl | omega, hI9864, hF9865, (gI_sI_eq hI9859.1 kx_204 rfl _), rfl, rfl, rfl, rfl, by decide, by decide, by omega⟩
  rintro n14561 l14560 g14557 ⟨x14555, x14556, hm14573, hI14558, hF14559, e14563, e14564, e14565, e14566, e14567, r14568, r14569, q14570⟩ ih14562
  refine At.enter rfl ?_
  refine r_iload_n e14567 ?_
  refine r_aload_n e14564 ?_
  refine q_getR (Sh.ref hI14558.1 kx_204 rfl) ?_
  obtain ⟨v14574, hv14574⟩ : ∃ v, gI g0 1 4 = v := ⟨_, rfl⟩
  have rv14574 := RgF.at hI0.2.1 (p := 1) (b := 4) rfl
  rw [hv14574] at rv14574
  dsimp only at rv14574
  refine q_getI (Sh.int hI14558.1 kx_1 rfl) v14574 ((hF14559.1 1 4 (by decide)).trans hv14574) ?_
  have bv14576 := q_bnd x14555
  have bv14577 := q_bnd v14574
  refine r_ics 30 rfl (fun c14575 => ?_) (fun c14575 => ?_)
  · have c14575_ : x14555.toInt ≥ v14574.toInt := en_i_ge_t c14575
    refine At.enter rfl ?_
    refine r_vret ?_
    exact ⟨_, rfl, hI14558, hF14559, rfl⟩
  · have c14575_ : x14555.toInt < v14574.toInt := en_i_ge_f c14575
    refine At.enter rfl ?_
    refine r_aload_n e14564 ?_
    refine q_getR (Sh.ref hI14558.1 kx_204 rfl) ?_
    refine r_iload_n e14567 ?_
    obtain ⟨v14578, hv14578⟩ : ∃ v, eA g0 211 x14555.toInt = v := ⟨_, rfl⟩
    refine q_iald (Sh.arr hI14558.1 ka_211) x14555.toInt rfl (by omega) v14578 ((eA_c (hF14559.2.1 211 (by decide))).trans hv14578) ?_
    refine r_istore _ rfl ?_
    refine r_aload_n (w_p1 (by decide) (Or.inr rfl) e14564) ?_
    refine q_getR (Sh.ref hI14558.1 kx_204 rfl) ?_
    refine r_iload (w_e1 _ _ _) ?_
    refine q_inlV 47 rfl [.ref 1, .int v14578] [] (Nat.le_of_ble_eq_true rfl) rfl ?_
    refine Ev.mk rfl rfl ⟨Nat.le_of_ble_eq_true rfl, Or.inr (q_rc hI14558.1 kx_1 rfl)⟩ ?_
    show At _ none _ _ (0, [(0, .ref 1), (1, .int v14578)], [], (_, _)) _
    refine At.enter rfl ?_
    refine r_iload_n rfl ?_
    refine r_ifs 4 rfl (fun c14579 => ?_) (fun c14579 => ?_)
    · have c14579_ : v14578.toInt < 0 := en_k_lt_t c14579
      refine At.enter rfl ?_
      refine r_iconst 0 rfl ?_
      refine Ar.fall 17 rfl ?_
      refine At.enter rfl ?_
      refine q_iretz (by decide) ?_
      refine At.enter rfl ?_
      refine r_iff 50 rfl (by decide) ?_
      refine At.enter rfl ?_
      refine r_goto ?_
      refine At.enter rfl ?_
      refine q_iinc (w_p1 (by decide) (Or.inr rfl) e14567) (x14555.toInt + 1) rfl (by omega) (fun v14580 hv14580 => ?_)
      refine r_goto ?_
      exact ih14562 (8 - v14580.toInt) _ _ ⟨v14580, x14556, by first | rfl | omega, hI14558, hF14559, e14563, (w_p1 (by decide) (Or.inr rfl) (w_p1 (by decide) (Or.inr rfl) e14564)), (w_p1 (by decide) (Or.inr rfl) (w_p1 (by decide) (Or.inr rfl) e14565)), (w_p1 (by decide) (Or.inr rfl) (w_p1 (by decide) (Or.inr rfl) e14566)), (w_e1 _ _ _), by omega, by omega, by omega⟩ ⟨by omega, by omega⟩
    · have c14579_ : v14578.toInt ≥ 0 := en_k_lt_f c14579
      refine At.enter rfl ?_
      refine r_iload_n rfl ?_
      refine r_aload_n rfl ?_
      obtain ⟨v14581, hv14581⟩ : ∃ v, gI g0 1 0 = v := ⟨_, rfl⟩
      have rv14581 := RgF.at hI0.2.1 (p := 1) (b := 0) rfl
      rw [hv14581] at rv14581
      dsimp only at rv14581
      refine q_getI (Sh.int hI14558.1 kx_1 rfl) v14581 ((hF14559.1 1 0 (by decide)).trans hv14581) ?_
      have bv14583 := q_bnd v14578
      have bv14584 := q_bnd v14581
      refine r_ics 12 rfl (fun c14582 => ?_) (fun c14582 => ?_)
      · have c14582_ : v14578.toInt ≥ v14581.toInt := en_i_ge_t c14582
        refine At.enter rfl ?_
        refine r_iconst 0 rfl ?_
        refine Ar.fall 17 rfl ?_
        refine At.enter rfl ?_
        refine q_iretz (by decide) ?_
        refine At.enter rfl ?_
        refine r_iff 50 rfl (by decide) ?_
        refine At.enter rfl ?_
        refine r_goto ?_
        refine At.enter rfl ?_
        refine q_iinc (w_p1 (by decide) (Or.inr rfl) e14567) (x14555.toInt + 1) rfl (by omega) (fun v14585 hv14585 => ?_)
        refine r_goto ?_
        exact ih14562 (8 - v14585.toInt) _ _ ⟨v14585, x14556, by first | rfl | omega, hI14558, hF14559, e14563, (w_p1 (by decide) (Or.inr rfl) (w_p1 (by decide) (Or.inr rfl) e14564)), (w_p1 (by decide) (Or.inr rfl) (w_p1 (by decide) (Or.inr rfl) e14565)), (w_p1 (by decide) (Or.inr rfl) (w_p1 (by decide) (Or.inr rfl) e14566)), (w_e1 _ _ _), by omega, by omega, by omega⟩ ⟨by omega, by omega⟩
      · have c14582_ : v14578.toInt < v14581.toInt := en_i_ge_f c14582
        refine At.enter rfl ?_
        refine r_iconst 1 rfl ?_
        refine r_goto ?_
        refine At.enter rfl ?_
        refine q_iretz (by decide) ?_
        refine At.enter rfl ?_
        refine r_ift (by decide) ?_
        refine At.enter rfl ?_
        refine r_aload_n (w_p1 (by decide) (Or.inr rfl) e14564) ?_
        refine q_getR (Sh.ref hI14558.1 kx_204 rfl) ?_
        refine r_iload_n (w_p1 (by decide) (Or.inr rfl) e14567) ?_
        refine r_iload_n (w_p1 (by decide) (Or.inr rfl) e14566) ?_
        refine r_ifs 62 rfl (fun c14586 => ?_) (fun c14586 => ?_)
        · have c14586_ : v9861.toInt = 0 := en_k_eq_t c14586
          refine At.enter rfl ?_
          refine r_lconst 0 rfl ?_
          refine Ar.fall 98 rfl ?_
          refine At.enter rfl ?_
          refine q_last (Sh.lar hI14558.1 ka_217) (x14555.toInt) rfl (by omega) ?_
          have hI14587 := HI.wK hI14558 ka_217 (x14555.toInt) (0)
          have hF14588 := Fr.wK (p := 217) (j := x14555.toInt) (v := 0) hF14559
          refine r_aload_n (w_p1 (by decide) (Or.inr rfl) e14564) ?_
          refine q_getI (Sh.int hI14587.1 kx_204 rfl) x14556 ((gI_sX).trans e14563) ?_
          refine r_istore _ rfl ?_
          refine Ar.fall 105 rfl ?_
          refine w_loopI (fun n_ l_ g_ => ∃ x14637 : Int32, n_ = x14637.toInt - 0 ∧ HI g_ ∧ Fr F_X1_lineUp_204 A_X1_lineUp_204 g0 g_ ∧ gI g_ 204 16 = x14556 ∧ en_get 0 l_ = some (.ref 204) ∧ en_get 1 l_ = some (.int a1) ∧ en_get 2 l_ = some (.int v9861) ∧ en_get 3 l_ = some (.int x14555) ∧ en_get 4 l_ = some (.int v14578) ∧ en_get 5 l_ = some (.int x14637) ∧ (0 ≤ x14637.toInt ∧ x14637.toInt ≤ 8) ∧ (x14637.toInt ≤ x14556.toInt)) ?_ (x14556.toInt - 0) ⟨x14556, by first | rfl | omega, hI14587, hF14588, ((gI_sX).trans e14563), (w_p1 (by decide) (Or.inr rfl) (w_p1 (by decide) (Or.inr rfl) e14564)), (w_p1 (by decide) (Or.inr rfl) (w_p1 (by decide) (Or.inr rfl) e14565)), (w_p1 (by decide) (Or.inr rfl) (w_p1 (by decide) (Or.inr rfl) e14566)), (w_p1 (by decide) (Or.inr rfl) (w_p1 (by decide) (Or.inr rfl) e14567)), (w_p1 (by decide) (Or.inr rfl) (w_e1 _ _ _)), (w_e1 _ _ _), by omega, by omega⟩
          rintro n14642 l14641 g14638 ⟨x14637, hm14653, hI14639, hF14640, e14644, e14645, e14646, e14647, e14648, e14649, e14650, r14651, q14652⟩ ih14643
          have tv14654 := congrArg Int32.toInt e14644
          refine At.enter rfl ?_
          refine r_iload e14650 ?_
          refine r_ifs 110 rfl (fun c14655 => ?_) (fun c14655 => ?_)
          · have c14655_ : x14637.toInt ≤ 0 := en_k_le_t c14655
            refine At.enter rfl ?_
            refine r_aload_n e14645 ?_
            refine q_getR (Sh.ref hI14639.1 kx_204 rfl) ?_
            refine r_iload e14650 ?_
            refine r_iload_n e14648 ?_
            refine q_iast (Sh.arr hI14639.1 ka_218) (x14637.toInt) rfl (by omega) ?_
            have hI14656 := HI.wA1 hI14639 ka_218 (p := 218) rfl rfl (x14637.toInt) (v := x14555) (by dsimp only; omega)
            have hF14657 := Fr.wA (p := 218) (j := x14637.toInt) (v := x14555) hF14640 rfl
            refine r_aload_n e14645 ?_
            refine r_dup rfl ?_
            refine q_getI (Sh.int hI14656.1 kx_204 rfl) x14556 ((gI_sW).trans e14644) ?_
            refine r_iconst 1 rfl ?_
            refine q_iadd (x14556.toInt + 1) rfl (by omega) (fun v14658 hv14658 => ?_)
            refine q_putI (Sh.int hI14656.1 kx_204 rfl) rfl ?_
            have hI14659 := HI.wI1 hI14656 kx_204 rfl (p := 204) (b := 16) (v := v14658) rfl (by dsimp only; omega)
            have hF14660 := Fr.wI (p := 204) (b := 16) (v := v14658) hF14657 rfl
            refine Ar.fall 174 rfl ?_
            refine At.enter rfl ?_
            refine q_iinc e14648 (x14555.toInt + 1) rfl (by omega) (fun v14661 hv14661 => ?_)
            refine r_goto ?_
            exact ih14562 (8 - v14661.toInt) _ _ ⟨v14661, v14658, by first | rfl | omega, hI14659, hF14660, (gI_sI_eq hI14656.1 kx_204 rfl _), (w_p1 (by decide) (Or.inr rfl) e14645), (w_p1 (by decide) (Or.inr rfl) e14646), (w_p1 (by decide) (Or.inr rfl) e14647), (w_e1 _ _ _), by omega, by omega, by omega⟩ ⟨by omega, by omega⟩
          · have c14655_ : x14637.toInt > 0 := en_k_le_f c14655
            refine At.enter rfl ?_
            refine r_aload_n e14645 ?_
            refine q_getR (Sh.ref hI14639.1 kx_204 rfl) ?_
            refine r_aload_n e14645 ?_
            refine q_getR (Sh.ref hI14639.1 kx_204 rfl) ?_
            refine r_iload e14650 ?_
            refine r_iconst 1 rfl ?_
            refine q_isub (x14637.toInt - 1) rfl (by omega) (fun v14662 hv14662 => ?_)
            obtain ⟨v14663, hv14663⟩ : ∃ v, eA g14638 218 (x14637.toInt + (-1)) = v := ⟨_, rfl⟩
            have rv14663 := RgA.at hI14639.2.2.1 (Sh.arr hI14639.1 ka_218).2 (p := 218) rfl (j := (x14637.toInt + (-1))) (by omega)
            rw [hv14663] at rv14663
            dsimp only at rv14663
            refine q_iald (Sh.arr hI14639.1 ka_218) (x14637.toInt + (-1)) (by omega) (by omega) v14663 hv14663 ?_
            refine q_lald (Sh.lar hI14639.1 ka_217) (v14663.toInt) rfl (by omega) (fun v14664 => ?_)
            refine r_aload_n e14645 ?_
            refine q_getR (Sh.ref hI14639.1 kx_204 rfl) ?_
            refine r_iload_n e14648 ?_
            refine q_lald (Sh.lar hI14639.1 ka_217) (x14555.toInt) rfl (by omega) (fun v14665 => ?_)
            refine r_lcmp _ rfl ?_
            refine r_ifs 134 rfl (fun c14666 => ?_) (fun c14666 => ?_)
            · have c14666_ : v14664.toInt ≥ v14665.toInt := en_j_ge_t c14666
              refine At.enter rfl ?_
              refine r_aload_n e14645 ?_
              refine q_getR (Sh.ref hI14639.1 kx_204 rfl) ?_
              refine r_iload e14650 ?_
              refine r_iload_n e14648 ?_
              refine q_iast (Sh.arr hI14639.1 ka_218) (x14637.toInt) rfl (by omega) ?_
              have hI14667 := HI.wA1 hI14639 ka_218 (p := 218) rfl rfl (x14637.toInt) (v := x14555) (by dsimp only; omega)
              have hF14668 := Fr.wA (p := 218) (j := x14637.toInt) (v := x14555) hF14640 rfl
              refine r_aload_n e14645 ?_
              refine r_dup rfl ?_
              refine q_getI (Sh.int hI14667.1 kx_204 rfl) x14556 ((gI_sW).trans e14644) ?_
              refine r_iconst 1 rfl ?_
              refine q_iadd (x14556.toInt + 1) rfl (by omega) (fun v14669 hv14669 => ?_)
              refine q_putI (Sh.int hI14667.1 kx_204 rfl) rfl ?_
              have hI14670 := HI.wI1 hI14667 kx_204 rfl (p := 204) (b := 16) (v := v14669) rfl (by dsimp only; omega)
              have hF14671 := Fr.wI (p := 204) (b := 16) (v := v14669) hF14668 rfl
              refine Ar.fall 174 rfl ?_
              refine At.enter rfl ?_
              refine q_iinc e14648 (x14555.toInt + 1) rfl (by omega) (fun v14672 hv14672 => ?_)
              refine r_goto ?_
              exact ih14562 (8 - v14672.toInt) _ _ ⟨v14672, v14669, by first | rfl | omega, hI14670, hF14671, (gI_sI_eq hI14667.1 kx_204 rfl _), (w_p1 (by decide) (Or.inr rfl) e14645), (w_p1 (by decide) (Or.inr rfl) e14646), (w_p1 (by decide) (Or.inr rfl) e14647), (w_e1 _ _ _), by omega, by omega, by omega⟩ ⟨by omega, by omega⟩
            · have c14666_ : v14664.toInt < v14665.toInt := en_j_ge_f c14666
              refine At.enter rfl ?_
              refine r_aload_n e14645 ?_
              refine q_getR (Sh.ref hI14639.1 kx_204 rfl) ?_
              refine r_iload e14650 ?_
              refine r_aload_n e14645 ?_
              refine q_getR (Sh.ref hI14639.1 kx_204 rfl) ?_
              refine r_iload e14650 ?_
              refine r_iconst 1 rfl ?_
              refine q_isub (x14637.toInt - 1) rfl (by omega) (fun v14673 hv14673 => ?_)
              refine q_iald (Sh.arr hI14639.1 ka_218) (x14637.toInt + (-1)) (by omega) (by omega) v14663 hv14663 ?_
              refine q_iast (Sh.arr hI14639.1 ka_218) (x14637.toInt) rfl (by omega) ?_
              have hI14674 := HI.wA1 hI14639 ka_218 (p := 218) rfl rfl (x14637.toInt) (v := v14663) (by dsimp only; omega)
              have hF14675 := Fr.wA (p := 218) (j := x14637.toInt) (v := v14663) hF14640 rfl
              refine q_iinc e14650 (x14637.toInt + (-1)) rfl (by omega) (fun v14676 hv14676 => ?_)
              refine r_goto ?_
              exact ih14643 (v14676.toInt - 0) _ _ ⟨v14676, by first | rfl | omega, hI14674, hF14675, ((gI_sW).trans e14644), (w_p1 (by decide) (Or.inr rfl) e14645), (w_p1 (by decide) (Or.inr rfl) e14646), (w_p1 (by decide) (Or.inr rfl) e14647), (w_p1 (by decide) (Or.inr rfl) e14648), (w_p1 (by decide) (Or.inr rfl) e14649), (w_e1 _ _ _), by omega, by omega⟩ ⟨by omega, by omega⟩
        · have c14586_ : v9861.toInt ≠ 0 := en_k_eq_f c14586
          refine At.enter rfl ?_
          refine r_aload_n (w_p1 (by decide) (Or.inr rfl) e14564) ?_
          refine q_getR (Sh.ref hI14558.1 kx_204 rfl) ?_
          refine r_iconst 0 rfl ?_
          refine r_iload_n (w_p1 (by decide) (Or.inr rfl) e14567) ?_
          refine r_iload (w_e1 _ _ _) ?_
          refine r_iload_n (w_p1 (by decide) (Or.inr rfl) e14565) ?_
          refine r_aload_n (w_p1 (by decide) (Or.inr rfl) e14564) ?_
          refine q_getR (Sh.ref hI14558.1 kx_204 rfl) ?_
          refine r_iload_n (w_p1 (by decide) (Or.inr rfl) e14567) ?_
          obtain ⟨v14677, hv14677⟩ : ∃ v, eA g0 214 x14555.toInt = v := ⟨_, rfl⟩
          refine q_iald (Sh.arr hI14558.1 ka_214) x14555.toInt rfl (by omega) v14677 ((eA_c (hF14559.2.1 214 (by decide))).trans hv14677) ?_
          refine r_aload_n (w_p1 (by decide) (Or.inr rfl) e14564) ?_
          refine q_getR (Sh.ref hI14558.1 kx_204 rfl) ?_
          refine r_iload (w_e1 _ _ _) ?_
          obtain ⟨v14678, hv14678⟩ : ∃ v, eA g0 205 v14578.toInt = v := ⟨_, rfl⟩
          refine q_iald (Sh.arr hI14558.1 ka_205) v14578.toInt rfl (by omega) v14678 ((eA_c (hF14559.2.1 205 (by decide))).trans hv14678) ?_
          refine r_aload_n (w_p1 (by decide) (Or.inr rfl) e14564) ?_
          refine q_getR (Sh.ref hI14558.1 kx_204 rfl) ?_
          refine r_iload (w_e1 _ _ _) ?_
          obtain ⟨v14679, hv14679⟩ : ∃ v, eA g0 206 v14578.toInt = v := ⟨_, rfl⟩
          refine q_iald (Sh.arr hI14558.1 ka_206) v14578.toInt rfl (by omega) v14679 ((eA_c (hF14559.2.1 206 (by decide))).trans hv14679) ?_
          refine r_callV 94 rfl [.ref 185, .int 0, .int x14555, .int v14578, .int a1, .int v14677, .int v14678, .int v14679] [.int x14555, .ref 217] (Nat.le_of_ble_eq_true rfl) rfl (T_X3_tells_185 _ hI14558 0 x14555 v14578 a1 v14677 v14678 v14679) ?_
          rintro _ _ ⟨g14680, rfl, hI14681, hF14682, v14683, rfl, hr14684⟩
          refine At.stl ?_
          have hF14685 := Fr.tr hF14559 hF14682 rfl rfl
          refine At.enter rfl ?_
          refine r_goto ?_
          refine At.enter rfl ?_
          refine q_last (Sh.lar hI14681.1 ka_217) (x14555.toInt) rfl (by omega) ?_
          have hI14686 := HI.wK hI14681 ka_217 (x14555.toInt) (v14683)
          have hF14687 := Fr.wK (p := 217) (j := x14555.toInt) (v := v14683) hF14685
          refine r_aload_n (w_p1 (by decide) (Or.inr rfl) e14564) ?_
          refine q_getI (Sh.int hI14686.1 kx_204 rfl) x14556 (((gI_sX).trans (hF14682.1 204 16 (by decide))).trans e14563) ?_
          refine r_istore _ rfl ?_
          refine Ar.fall 105 rfl ?_
          refine w_loopI (fun n_ l_ g_ => ∃ x14736 : Int32, n_ = x14736.toInt - 0 ∧ HI g_ ∧ Fr F_X1_lineUp_204 A_X1_lineUp_204 g0 g_ ∧ gI g_ 204 16 = x14556 ∧ en_get 0 l_ = some (.ref 204) ∧ en_get 1 l_ = some (.int a1) ∧ en_get 2 l_ = some (.int v9861) ∧ en_get 3 l_ = some (.int x14555) ∧ en_get 4 l_ = some (.int v14578) ∧ en_get 5 l_ = some (.int x14736) ∧ (0 ≤ x14736.toInt ∧ x14736.toInt ≤ 8) ∧ (x14736.toInt ≤ x14556.toInt)) ?_ (x14556.toInt - 0) ⟨x14556, by first | rfl | omega, hI14686, hF14687, (((gI_sX).trans (hF14682.1 204 16 (by decide))).trans e14563), (w_p1 (by decide) (Or.inr rfl) (w_p1 (by decide) (Or.inr rfl) e14564)), (w_p1 (by decide) (Or.inr rfl) (w_p1 (by decide) (Or.inr rfl) e14565)), (w_p1 (by decide) (Or.inr rfl) (w_p1 (by decide) (Or.inr rfl) e14566)), (w_p1 (by decide) (Or.inr rfl) (w_p1 (by decide) (Or.inr rfl) e14567)), (w_p1 (by decide) (Or.inr rfl) (w_e1 _ _ _)), (w_e1 _ _ _), by omega, by omega⟩
          rintro n14741 l14740 g14737 ⟨x14736, hm14752, hI14738, hF14739, e14743, e14744, e14745, e14746, e14747, e14748, e14749, r14750, q14751⟩ ih14742
          have tv14753 := congrArg Int32.toInt e14743
          refine At.enter rfl ?_
          refine r_iload e14749 ?_
          refine r_ifs 110 rfl (fun c14754 => ?_) (fun c14754 => ?_)
          · have c14754_ : x14736.toInt ≤ 0 := en_k_le_t c14754
            refine At.enter rfl ?_
            refine r_aload_n e14744 ?_
            refine q_getR (Sh.ref hI14738.1 kx_204 rfl) ?_
            refine r_iload e14749 ?_
            refine r_iload_n e14747 ?_
            refine q_iast (Sh.arr hI14738.1 ka_218) (x14736.toInt) rfl (by omega) ?_
            have hI14755 := HI.wA1 hI14738 ka_218 (p := 218) rfl rfl (x14736.toInt) (v := x14555) (by dsimp only; omega)
            have hF14756 := Fr.wA (p := 218) (j := x14736.toInt) (v := x14555) hF14739 rfl
            refine r_aload_n e14744 ?_
            refine r_dup rfl ?_
            refine q_getI (Sh.int hI14755.1 kx_204 rfl) x14556 ((gI_sW).trans e14743) ?_
            refine r_iconst 1 rfl ?_
            refine q_iadd (x14556.toInt + 1) rfl (by omega) (fun v14757 hv14757 => ?_)
            refine q_putI (Sh.int hI14755.1 kx_204 rfl) rfl ?_
            have hI14758 := HI.wI1 hI14755 kx_204 rfl (p := 204) (b := 16) (v := v14757) rfl (by dsimp only; omega)
            have hF14759 := Fr.wI (p := 204) (b := 16) (v := v14757) hF14756 rfl
            refine Ar.fall 174 rfl ?_
            refine At.enter rfl ?_
            refine q_iinc e14747 (x14555.toInt + 1) rfl (by omega) (fun v14760 hv14760 => ?_)
            refine r_goto ?_
            exact ih14562 (8 - v14760.toInt) _ _ ⟨v14760, v14757, by first | rfl | omega, hI14758, hF14759, (gI_sI_eq hI14755.1 kx_204 rfl _), (w_p1 (by decide) (Or.inr rfl) e14744), (w_p1 (by decide) (Or.inr rfl) e14745), (w_p1 (by decide) (Or.inr rfl) e14746), (w_e1 _ _ _), by omega, by omega, by omega⟩ ⟨by omega, by omega⟩
          · have c14754_ : x14736.toInt > 0 := en_k_le_f c14754
            refine At.enter rfl ?_
            refine r_aload_n e14744 ?_
            refine q_getR (Sh.ref hI14738.1 kx_204 rfl) ?_
            refine r_aload_n e14744 ?_
            refine q_getR (Sh.ref hI14738.1 kx_204 rfl) ?_
            refine r_iload e14749 ?_
            refine r_iconst 1 rfl ?_
            refine q_isub (x14736.toInt - 1) rfl (by omega) (fun v14761 hv14761 => ?_)
            obtain ⟨v14762, hv14762⟩ : ∃ v, eA g14737 218 (x14736.toInt + (-1)) = v := ⟨_, rfl⟩
            have rv14762 := RgA.at hI14738.2.2.1 (Sh.arr hI14738.1 ka_218).2 (p := 218) rfl (j := (x14736.toInt + (-1))) (by omega)
            rw [hv14762] at rv14762
            dsimp only at rv14762
            refine q_iald (Sh.arr hI14738.1 ka_218) (x14736.toInt + (-1)) (by omega) (by omega) v14762 hv14762 ?_
            refine q_lald (Sh.lar hI14738.1 ka_217) (v14762.toInt) rfl (by omega) (fun v14763 => ?_)
            refine r_aload_n e14744 ?_
            refine q_getR (Sh.ref hI14738.1 kx_204 rfl) ?_
            refine r_iload_n e14747 ?_
            refine q_lald (Sh.lar hI14738.1 ka_217) (x14555.toInt) rfl (by omega) (fun v14764 => ?_)
            refine r_lcmp _ rfl ?_
            refine r_ifs 134 rfl (fun c14765 => ?_) (fun c14765 => ?_)
            · have c14765_ : v14763.toInt ≥ v14764.toInt := en_j_ge_t c14765
              refine At.enter rfl ?_
              refine r_aload_n e14744 ?_
              refine q_getR (Sh.ref hI14738.1 kx_204 rfl) ?_
              refine r_iload e14749 ?_
              refine r_iload_n e14747 ?_
              refine q_iast (Sh.arr hI14738.1 ka_218) (x14736.toInt) rfl (by omega) ?_
              have hI14766 := HI.wA1 hI14738 ka_218 (p := 218) rfl rfl (x14736.toInt) (v := x14555) (by dsimp only; omega)
              have hF14767 := Fr.wA (p := 218) (j := x14736.toInt) (v := x14555) hF14739 rfl
              refine r_aload_n e14744 ?_
              refine r_dup rfl ?_
              refine q_getI (Sh.int hI14766.1 kx_204 rfl) x14556 ((gI_sW).trans e14743) ?_
              refine r_iconst 1 rfl ?_
              refine q_iadd (x14556.toInt + 1) rfl (by omega) (fun v14768 hv14768 => ?_)
              refine q_putI (Sh.int hI14766.1 kx_204 rfl) rfl ?_
              have hI14769 := HI.wI1 hI14766 kx_204 rfl (p := 204) (b := 16) (v := v14768) rfl (by dsimp only; omega)
              have hF14770 := Fr.wI (p := 204) (b := 16) (v := v14768) hF14767 rfl
              refine Ar.fall 174 rfl ?_
              refine At.enter rfl ?_
              refine q_iinc e14747 (x14555.toInt + 1) rfl (by omega) (fun v14771 hv14771 => ?_)
              refine r_goto ?_
              exact ih14562 (8 - v14771.toInt) _ _ ⟨v14771, v14768, by first | rfl | omega, hI14769, hF14770, (gI_sI_eq hI14766.1 kx_204 rfl _), (w_p1 (by decide) (Or.inr rfl) e14744), (w_p1 (by decide) (Or.inr rfl) e14745), (w_p1 (by decide) (Or.inr rfl) e14746), (w_e1 _ _ _), by omega, by omega, by omega⟩ ⟨by omega, by omega⟩
            · have c14765_ : v14763.toInt < v14764.toInt := en_j_ge_f c14765
              refine At.enter rfl ?_
              refine r_aload_n e14744 ?_
              refine q_getR (Sh.ref hI14738.1 kx_204 rfl) ?_
              refine r_iload e14749 ?_
              refine r_aload_n e14744 ?_
              refine q_getR (Sh.ref hI14738.1 kx_204 rfl) ?_
              refine r_iload e14749 ?_
              refine r_iconst 1 rfl ?_
              refine q_isub (x14736.toInt - 1) rfl (by omega) (fun v14772 hv14772 => ?_)
              refine q_iald (Sh.arr hI14738.1 ka_218) (x14736.toInt + (-1)) (by omega) (by omega) v14762 hv14762 ?_
              refine q_iast (Sh.arr hI14738.1 ka_218) (x14736.toInt) rfl (by omega) ?_
              have hI14773 := HI.wA1 hI14738 ka_218 (p := 218) rfl rfl (x14736.toInt) (v := v14762) (by dsimp only; omega)
              have hF14774 := Fr.wA (p := 218) (j := x14736.toInt) (v := v14762) hF14739 rfl
              refine q_iinc e14749 (x14736.toInt + (-1)) rfl (by omega) (fun v14775 hv14775 => ?_)
              refine r_goto ?_
              exact ih14742 (v14775.toInt - 0) _ _ ⟨v14775, by first | rfl | omega, hI14773, hF14774, ((gI_sW).trans e14743), (w_p1 (by decide) (Or.inr rfl) e14744), (w_p1 (by decide) (Or.inr rfl) e14745), (w_p1 (by decide) (Or.inr rfl) e14746), (w_p1 (by decide) (Or.inr rfl) e14747), (w_p1 (by decide) (Or.inr rfl) e14748), (w_e1 _ _ _), by omega, by omega⟩ ⟨by omega, by omega⟩

def F_X1_goOn_204 : List (Nat × Nat) := [(185, 3), (204, 18)]
def A_X1_goOn_204 : List Nat := [210, 211, 212, 213, 214, 215, 216]
set_option maxRecDepth 100000 in
set_option maxHeartbeats 4000000 in
theorem T_X1_goOn_204 (d : Nat) {N : Nat} {g0 : List en_E} (hI0 : HI g0) (a1 : Int32) : Ev (d + 4) 30 [.ref 204, .int a1] (g0, N) (fun w h' => ∃ g', h' = (g', N) ∧ HI g' ∧ Fr F_X1_goOn_204 A_X1_goOn_204 g0 g' ∧ w = none) := by
  have hF0 : Fr F_X1_goOn_204 A_X1_goOn_204 g0 g0 := Fr.rf
  refine Ev.mk rfl rfl ⟨Nat.le_of_ble_eq_true rfl, Or.inr (q_rc hI0.1 kx_204 rfl)⟩ ?_
  show At _ none _ _ (0, [(0, .ref 204), (1, .int a1)], [], (_, _)) _
  refine At.enter rfl ?_
  refine r_aload_n rfl ?_
  refine q_getR (Sh.ref hI0.1 kx_204 rfl) ?_
  refine q_inlV 7 rfl [.ref 1] [] (Nat.le_of_ble_eq_true rfl) rfl ?_
  refine Ev.mk rfl rfl ⟨Nat.le_of_ble_eq_true rfl, Or.inr (q_rc hI0.1 kx_1 rfl)⟩ ?_
  show At _ none _ _ (0, [(0, .ref 1)], [], (_, _)) _
  refine At.enter rfl ?_
  refine r_aload_n rfl ?_
  refine r_aload_n rfl ?_
  obtain ⟨v2707, hv2707⟩ : ∃ v, gI g0 1 9 = v := ⟨_, rfl⟩
  refine q_getI (Sh.int hI0.1 kx_1 rfl) v2707 hv2707 ?_
  refine r_callV 8 rfl [.ref 1, .int v2707] [] (Nat.le_of_ble_eq_true rfl) rfl (T_X0_lawAt_1 _ hI0 v2707) ?_
  rintro _ _ ⟨g2708, rfl, hI2709, hF2710, v2711, rfl, hr2712⟩
  refine At.str ?_
  have hF2713 := Fr.tr hF0 hF2710 rfl rfl
  refine At.enter rfl ?_
  refine q_aret ?_
  refine At.enter rfl ?_
  refine r_iconst 2 rfl ?_
  refine r_callV 11 rfl [.ref (v2711), .int 2] [] (Nat.le_of_ble_eq_true rfl) rfl (T_X4_speaksOf_law _ hI2709 (v2711) hr2712 2) ?_
  rintro _ _ ⟨g2714, rfl, hI2715, hF2716, v2717, rfl, hr2718⟩
  refine At.sti ?_
  have hF2719 := Fr.tr hF2713 hF2716 rfl rfl
  refine At.enter rfl ?_
  refine r_istore_n ([(2, .int v2717), (0, .ref 204), (1, .int a1)]) rfl ?_
  refine r_iconst 0 rfl ?_
  refine r_istore_n ([(3, .int 0), (2, .int v2717), (0, .ref 204), (1, .int a1)]) rfl ?_
  refine Ar.fall 14 rfl ?_
  have z_3894 : (0 : Int32).toInt = 0 := rfl
  refine w_loopI (fun n_ l_ g_ => ∃ x3882 : Int32, n_ = 8 - x3882.toInt ∧ HI g_ ∧ Fr F_X1_goOn_204 A_X1_goOn_204 g0 g_ ∧ en_get 0 l_ = some (.ref 204) ∧ en_get 1 l_ = some (.int a1) ∧ en_get 2 l_ = some (.int v2717) ∧ en_get 3 l_ = some (.int x3882) ∧ (0 ≤ x3882.toInt ∧ x3882.toInt ≤ 8)) ?_ (8 - 0) ⟨0, by first | rfl | omega, hI2715, hF2719, rfl, rfl, rfl, rfl, by decide⟩
  rintro n3887 l3886 g3883 ⟨x3882, hm3895, hI3884, hF3885, e3889, e3890, e3891, e3892, r3893⟩ ih3888
  refine At.enter rfl ?_
  refine r_iload_n e3892 ?_
  refine r_aload_n e3889 ?_
  obtain ⟨v3896, hv3896⟩ : ∃ v, gI g0 204 16 = v := ⟨_, rfl⟩
  have rv3896 := RgF.at hI0.2.1 (p := 204) (b := 16) rfl
  rw [hv3896] at rv3896
  dsimp only at rv3896
  refine q_getI (Sh.int hI3884.1 kx_204 rfl) v3896 ((hF3885.1 204 16 (by decide)).trans hv3896) ?_
  have bv3898 := q_bnd x3882
  have bv3899 := q_bnd v3896
  refine r_ics 22 rfl (fun c3897 => ?_) (fun c3897 => ?_)
  · have c3897_ : x3882.toInt ≥ v3896.toInt := en_i_ge_t c3897
    refine At.enter rfl ?_
    refine r_vret ?_
    exact ⟨_, rfl, hI3884, hF3885, rfl⟩
  · have c3897_ : x3882.toInt < v3896.toInt := en_i_ge_f c3897
    refine At.enter rfl ?_
    refine r_aload_n e3889 ?_
    refine q_getR (Sh.ref hI3884.1 kx_204 rfl) ?_
    refine r_iload_n e3892 ?_
    obtain ⟨v3900, hv3900⟩ : ∃ v, eA g0 218 x3882.toInt = v := ⟨_, rfl⟩
    have rv3900 := RgA.at hI0.2.2.1 (Sh.arr hI0.1 ka_218).2 (p := 218) rfl (j := x3882.toInt) (by omega)
    rw [hv3900] at rv3900
    dsimp only at rv3900
    refine q_iald (Sh.arr hI3884.1 ka_218) x3882.toInt rfl (by omega) v3900 ((eA_c (hF3885.2.1 218 (by decide))).trans hv3900) ?_
    refine r_istore _ rfl ?_
    refine r_aload_n (w_p1 (by decide) (Or.inr rfl) e3889) ?_
    refine q_getR (Sh.ref hI3884.1 kx_204 rfl) ?_
    refine r_iload (w_e1 _ _ _) ?_
    obtain ⟨v3901, hv3901⟩ : ∃ v, eA g3883 211 v3900.toInt = v := ⟨_, rfl⟩
    refine q_iald (Sh.arr hI3884.1 ka_211) v3900.toInt rfl (by omega) v3901 hv3901 ?_
    refine r_istore _ rfl ?_
    refine r_aload_n (w_p1 (by decide) (Or.inr rfl) (w_p1 (by decide) (Or.inr rfl) e3889)) ?_
    refine q_getR (Sh.ref hI3884.1 kx_204 rfl) ?_
    refine r_iload (w_e1 _ _ _) ?_
    refine q_inlV 48 rfl [.ref 1, .int v3901] [] (Nat.le_of_ble_eq_true rfl) rfl ?_
    refine Ev.mk rfl rfl ⟨Nat.le_of_ble_eq_true rfl, Or.inr (q_rc hI3884.1 kx_1 rfl)⟩ ?_
    show At _ none _ _ (0, [(0, .ref 1), (1, .int v3901)], [], (_, _)) _
    refine At.enter rfl ?_
    refine r_iload_n rfl ?_
    refine r_ifs 4 rfl (fun c3902 => ?_) (fun c3902 => ?_)
    · have c3902_ : v3901.toInt < 0 := en_k_lt_t c3902
      refine At.enter rfl ?_
      refine r_iconst 0 rfl ?_
      refine Ar.fall 17 rfl ?_
      refine At.enter rfl ?_
      refine q_iretz (by decide) ?_
      refine At.enter rfl ?_
      refine r_iff 51 rfl (by decide) ?_
      refine At.enter rfl ?_
      refine r_goto ?_
      refine At.enter rfl ?_
      refine q_iinc (w_p1 (by decide) (Or.inr rfl) (w_p1 (by decide) (Or.inr rfl) e3892)) (x3882.toInt + 1) rfl (by omega) (fun v3903 hv3903 => ?_)
      refine r_goto ?_
      exact ih3888 (8 - v3903.toInt) _ _ ⟨v3903, by first | rfl | omega, hI3884, hF3885, (w_p1 (by decide) (Or.inr rfl) (w_p1 (by decide) (Or.inr rfl) (w_p1 (by decide) (Or.inr rfl) e3889))), (w_p1 (by decide) (Or.inr rfl) (w_p1 (by decide) (Or.inr rfl) (w_p1 (by decide) (Or.inr rfl) e3890))), (w_p1 (by decide) (Or.inr rfl) (w_p1 (by decide) (Or.inr rfl) (w_p1 (by decide) (Or.inr rfl) e3891))), (w_e1 _ _ _), by omega⟩ ⟨by omega, by omega⟩
    · have c3902_ : v3901.toInt ≥ 0 := en_k_lt_f c3902
      refine At.enter rfl ?_
      refine r_iload_n rfl ?_
      refine r_aload_n rfl ?_
      obtain ⟨v3904, hv3904⟩ : ∃ v, gI g0 1 0 = v := ⟨_, rfl⟩
      have rv3904 := RgF.at hI0.2.1 (p := 1) (b := 0) rfl
      rw [hv3904] at rv3904
      dsimp only at rv3904
      refine q_getI (Sh.int hI3884.1 kx_1 rfl) v3904 ((hF3885.1 1 0 (by decide)).trans hv3904) ?_
      have bv3906 := q_bnd v3901
      have bv3907 := q_bnd v3904
      refine r_ics 12 rfl (fun c3905 => ?_) (fun c3905 => ?_)
      · have c3905_ : v3901.toInt ≥ v3904.toInt := en_i_ge_t c3905
        refine At.enter rfl ?_
        refine r_iconst 0 rfl ?_
        refine Ar.fall 17 rfl ?_
        refine At.enter rfl ?_
        refine q_iretz (by decide) ?_
        refine At.enter rfl ?_
        refine r_iff 51 rfl (by decide) ?_
        refine At.enter rfl ?_
        refine r_goto ?_
        refine At.enter rfl ?_
        refine q_iinc (w_p1 (by decide) (Or.inr rfl) (w_p1 (by decide) (Or.inr rfl) e3892)) (x3882.toInt + 1) rfl (by omega) (fun v3908 hv3908 => ?_)
        refine r_goto ?_
        exact ih3888 (8 - v3908.toInt) _ _ ⟨v3908, by first | rfl | omega, hI3884, hF3885, (w_p1 (by decide) (Or.inr rfl) (w_p1 (by decide) (Or.inr rfl) (w_p1 (by decide) (Or.inr rfl) e3889))), (w_p1 (by decide) (Or.inr rfl) (w_p1 (by decide) (Or.inr rfl) (w_p1 (by decide) (Or.inr rfl) e3890))), (w_p1 (by decide) (Or.inr rfl) (w_p1 (by decide) (Or.inr rfl) (w_p1 (by decide) (Or.inr rfl) e3891))), (w_e1 _ _ _), by omega⟩ ⟨by omega, by omega⟩
      · have c3905_ : v3901.toInt < v3904.toInt := en_i_ge_f c3905
        refine At.enter rfl ?_
        refine r_iconst 1 rfl ?_
        refine r_goto ?_
        refine At.enter rfl ?_
        refine q_iretz (by decide) ?_
        refine At.enter rfl ?_
        refine r_ift (by decide) ?_
        refine At.enter rfl ?_
        refine r_aload_n (w_p1 (by decide) (Or.inr rfl) (w_p1 (by decide) (Or.inr rfl) e3889)) ?_
        refine q_getR (Sh.ref hI3884.1 kx_204 rfl) ?_
        refine r_iload (w_e1 _ _ _) ?_
        obtain ⟨v3909, hv3909⟩ : ∃ v, eA g0 208 v3901.toInt = v := ⟨_, rfl⟩
        refine q_iald (Sh.arr hI3884.1 ka_208) v3901.toInt rfl (by omega) v3909 ((eA_c (hF3885.2.1 208 (by decide))).trans hv3909) ?_
        refine r_istore _ rfl ?_
        refine r_iload (w_e1 _ _ _) ?_
        refine r_aload_n (w_p1 (by decide) (Or.inr rfl) (w_p1 (by decide) (Or.inr rfl) (w_p1 (by decide) (Or.inr rfl) e3889))) ?_
        refine q_getR (Sh.ref hI3884.1 kx_204 rfl) ?_
        refine r_iload (w_p1 (by decide) (Or.inr rfl) (w_p1 (by decide) (Or.inr rfl) (w_e1 _ _ _))) ?_
        refine r_iconst 2 rfl ?_
        refine r_callV 75 rfl [.ref 1, .int v3900, .int 2] [.int v3909] (Nat.le_of_ble_eq_true rfl) rfl (T_X0_about_1 _ hI3884 v3900 2) ?_
        rintro _ _ ⟨g3910, rfl, hI3911, hF3912, v3913, rfl, hr3914⟩
        refine At.sti ?_
        have hF3915 := Fr.tr hF3885 hF3912 rfl rfl
        have zv3916 : (2 : Int32).toInt = 2 := rfl
        refine At.enter rfl ?_
        refine r_ics 78 rfl (fun c3917 => ?_) (fun c3917 => ?_)
        · have c3917_ : v3909.toInt ≠ v3913.toInt := en_i_ne_t c3917
          refine At.enter rfl ?_
          refine r_iconst 0 rfl ?_
          refine Ar.fall 83 rfl ?_
          refine At.enter rfl ?_
          refine r_istore _ rfl ?_
          refine r_iload (w_p1 (by decide) (Or.inr rfl) (w_e1 _ _ _)) ?_
          refine r_iconst (-1) rfl ?_
          refine r_ics 91 rfl (fun c3918 => ?_) (fun c3918 => ?_)
          · have c3918_ : v3909.toInt = (-1) := en_i_eq_t c3918
            refine At.enter rfl ?_
            refine r_iconst 0 rfl ?_
            refine Ar.fall 112 rfl ?_
            refine At.enter rfl ?_
            refine r_istore _ rfl ?_
            refine r_iload (w_e1 _ _ _) ?_
            refine r_ift (by decide) ?_
            refine At.enter rfl ?_
            refine r_iload (w_e1 _ _ _) ?_
            refine r_iff 174 rfl (by decide) ?_
            refine At.enter rfl ?_
            refine r_aload_n (w_p1 (by decide) (Or.inr rfl) (w_p1 (by decide) (Or.inr rfl) (w_p1 (by decide) (Or.inr rfl) (w_p1 (by decide) (Or.inr rfl) (w_p1 (by decide) (Or.inr rfl) e3889))))) ?_
            refine q_getR (Sh.ref hI3911.1 kx_204 rfl) ?_
            refine r_iload (w_p1 (by decide) (Or.inr rfl) (w_p1 (by decide) (Or.inr rfl) (w_p1 (by decide) (Or.inr rfl) (w_p1 (by decide) (Or.inr rfl) (w_e1 _ _ _))))) ?_
            refine r_dup2 ⟨rfl, rfl⟩ ?_
            obtain ⟨v3919, hv3919⟩ : ∃ v, eA g3883 214 v3900.toInt = v := ⟨_, rfl⟩
            refine q_iald (Sh.arr hI3911.1 ka_214) v3900.toInt rfl (by omega) v3919 ((eA_c (hF3912.2.1 214 (by decide))).trans hv3919) ?_
            refine r_iconst 1 rfl ?_
            refine q_iaddO (fun v3920 _ => ?_)
            refine q_iast (Sh.arr hI3911.1 ka_214) (v3900.toInt) rfl (by omega) ?_
            have hI3921 := HI.wA0 hI3911 ka_214 (p := 214) rfl rfl (v3900.toInt) (v3920)
            have hF3922 := Fr.wA (p := 214) (j := v3900.toInt) (v := v3920) hF3915 rfl
            refine r_aload_n (w_p1 (by decide) (Or.inr rfl) (w_p1 (by decide) (Or.inr rfl) (w_p1 (by decide) (Or.inr rfl) (w_p1 (by decide) (Or.inr rfl) (w_p1 (by decide) (Or.inr rfl) e3889))))) ?_
            refine q_getR (Sh.ref hI3921.1 kx_204 rfl) ?_
            refine r_iload (w_p1 (by decide) (Or.inr rfl) (w_p1 (by decide) (Or.inr rfl) (w_p1 (by decide) (Or.inr rfl) (w_p1 (by decide) (Or.inr rfl) (w_e1 _ _ _))))) ?_
            refine r_dup2 ⟨rfl, rfl⟩ ?_
            obtain ⟨v3923, hv3923⟩ : ∃ v, eA g3883 213 v3900.toInt = v := ⟨_, rfl⟩
            refine q_iald (Sh.arr hI3921.1 ka_213) v3900.toInt rfl (by omega) v3923 ((eA_c ((gA_sA_ne (by decide)).trans (hF3912.2.1 213 (by decide)))).trans hv3923) ?_
            refine r_iconst 1 rfl ?_
            refine q_iaddO (fun v3924 _ => ?_)
            refine q_iast (Sh.arr hI3921.1 ka_213) (v3900.toInt) rfl (by omega) ?_
            have hI3925 := HI.wA0 hI3921 ka_213 (p := 213) rfl rfl (v3900.toInt) (v3924)
            have hF3926 := Fr.wA (p := 213) (j := v3900.toInt) (v := v3924) hF3922 rfl
            refine r_goto ?_
            refine At.enter rfl ?_
            refine q_iinc (w_p1 (by decide) (Or.inr rfl) (w_p1 (by decide) (Or.inr rfl) (w_p1 (by decide) (Or.inr rfl) (w_p1 (by decide) (Or.inr rfl) (w_p1 (by decide) (Or.inr rfl) e3892))))) (x3882.toInt + 1) rfl (by omega) (fun v3927 hv3927 => ?_)
            refine r_goto ?_
            exact ih3888 (8 - v3927.toInt) _ _ ⟨v3927, by first | rfl | omega, hI3925, hF3926, (w_p1 (by decide) (Or.inr rfl) (w_p1 (by decide) (Or.inr rfl) (w_p1 (by decide) (Or.inr rfl) (w_p1 (by decide) (Or.inr rfl) (w_p1 (by decide) (Or.inr rfl) (w_p1 (by decide) (Or.inr rfl) e3889)))))), (w_p1 (by decide) (Or.inr rfl) (w_p1 (by decide) (Or.inr rfl) (w_p1 (by decide) (Or.inr rfl) (w_p1 (by decide) (Or.inr rfl) (w_p1 (by decide) (Or.inr rfl) (w_p1 (by decide) (Or.inr rfl) e3890)))))), (w_p1 (by decide) (Or.inr rfl) (w_p1 (by decide) (Or.inr rfl) (w_p1 (by decide) (Or.inr rfl) (w_p1 (by decide) (Or.inr rfl) (w_p1 (by decide) (Or.inr rfl) (w_p1 (by decide) (Or.inr rfl) e3891)))))), (w_e1 _ _ _), by omega⟩ ⟨by omega, by omega⟩
          · have c3918_ : v3909.toInt ≠ (-1) := en_i_eq_f c3918
            refine At.enter rfl ?_
            refine r_iload (w_e1 _ _ _) ?_
            refine r_iff 96 rfl (by decide) ?_
            refine At.enter rfl ?_
            refine r_aload_n (w_p1 (by decide) (Or.inr rfl) (w_p1 (by decide) (Or.inr rfl) (w_p1 (by decide) (Or.inr rfl) (w_p1 (by decide) (Or.inr rfl) e3889)))) ?_
            refine r_iload (w_p1 (by decide) (Or.inr rfl) (w_e1 _ _ _)) ?_
            refine r_iload (w_p1 (by decide) (Or.inr rfl) (w_p1 (by decide) (Or.inr rfl) (w_p1 (by decide) (Or.inr rfl) (w_e1 _ _ _)))) ?_
            refine r_callV 104 rfl [.ref 204, .int v3909, .int v3900] [] (Nat.le_of_ble_eq_true rfl) rfl (T_X1_canHold_204 _ hI3911 v3909 v3900) ?_
            rintro _ _ ⟨g3928, rfl, hI3929, hF3930, v3931, rfl, hr3932⟩
            refine At.sti ?_
            have hF3933 := Fr.tr hF3915 hF3930 rfl rfl
            refine At.enter rfl ?_
            refine r_ifs 107 rfl (fun c3934 => ?_) (fun c3934 => ?_)
            · have c3934_ : v3931.toInt = 0 := en_k_eq_t c3934
              refine At.enter rfl ?_
              refine r_iconst 0 rfl ?_
              refine Ar.fall 112 rfl ?_
              refine At.enter rfl ?_
              refine r_istore _ rfl ?_
              refine r_iload (w_e1 _ _ _) ?_
              refine r_ift (by decide) ?_
              refine At.enter rfl ?_
              refine r_iload (w_e1 _ _ _) ?_
              refine r_iff 174 rfl (by decide) ?_
              refine At.enter rfl ?_
              refine r_aload_n (w_p1 (by decide) (Or.inr rfl) (w_p1 (by decide) (Or.inr rfl) (w_p1 (by decide) (Or.inr rfl) (w_p1 (by decide) (Or.inr rfl) (w_p1 (by decide) (Or.inr rfl) e3889))))) ?_
              refine q_getR (Sh.ref hI3929.1 kx_204 rfl) ?_
              refine r_iload (w_p1 (by decide) (Or.inr rfl) (w_p1 (by decide) (Or.inr rfl) (w_p1 (by decide) (Or.inr rfl) (w_p1 (by decide) (Or.inr rfl) (w_e1 _ _ _))))) ?_
              refine r_dup2 ⟨rfl, rfl⟩ ?_
              obtain ⟨v3935, hv3935⟩ : ∃ v, eA g3883 214 v3900.toInt = v := ⟨_, rfl⟩
              refine q_iald (Sh.arr hI3929.1 ka_214) v3900.toInt rfl (by omega) v3935 ((eA_c ((hF3930.2.1 214 (by decide)).trans (hF3912.2.1 214 (by decide)))).trans hv3935) ?_
              refine r_iconst 1 rfl ?_
              refine q_iaddO (fun v3936 _ => ?_)
              refine q_iast (Sh.arr hI3929.1 ka_214) (v3900.toInt) rfl (by omega) ?_
              have hI3937 := HI.wA0 hI3929 ka_214 (p := 214) rfl rfl (v3900.toInt) (v3936)
              have hF3938 := Fr.wA (p := 214) (j := v3900.toInt) (v := v3936) hF3933 rfl
              refine r_aload_n (w_p1 (by decide) (Or.inr rfl) (w_p1 (by decide) (Or.inr rfl) (w_p1 (by decide) (Or.inr rfl) (w_p1 (by decide) (Or.inr rfl) (w_p1 (by decide) (Or.inr rfl) e3889))))) ?_
              refine q_getR (Sh.ref hI3937.1 kx_204 rfl) ?_
              refine r_iload (w_p1 (by decide) (Or.inr rfl) (w_p1 (by decide) (Or.inr rfl) (w_p1 (by decide) (Or.inr rfl) (w_p1 (by decide) (Or.inr rfl) (w_e1 _ _ _))))) ?_
              refine r_dup2 ⟨rfl, rfl⟩ ?_
              obtain ⟨v3939, hv3939⟩ : ∃ v, eA g3883 213 v3900.toInt = v := ⟨_, rfl⟩
              refine q_iald (Sh.arr hI3937.1 ka_213) v3900.toInt rfl (by omega) v3939 ((eA_c ((gA_sA_ne (by decide)).trans ((hF3930.2.1 213 (by decide)).trans (hF3912.2.1 213 (by decide))))).trans hv3939) ?_
              refine r_iconst 1 rfl ?_
              refine q_iaddO (fun v3940 _ => ?_)
              refine q_iast (Sh.arr hI3937.1 ka_213) (v3900.toInt) rfl (by omega) ?_
              have hI3941 := HI.wA0 hI3937 ka_213 (p := 213) rfl rfl (v3900.toInt) (v3940)
              have hF3942 := Fr.wA (p := 213) (j := v3900.toInt) (v := v3940) hF3938 rfl
              refine r_goto ?_
              refine At.enter rfl ?_
              refine q_iinc (w_p1 (by decide) (Or.inr rfl) (w_p1 (by decide) (Or.inr rfl) (w_p1 (by decide) (Or.inr rfl) (w_p1 (by decide) (Or.inr rfl) (w_p1 (by decide) (Or.inr rfl) e3892))))) (x3882.toInt + 1) rfl (by omega) (fun v3943 hv3943 => ?_)
              refine r_goto ?_
              exact ih3888 (8 - v3943.toInt) _ _ ⟨v3943, by first | rfl | omega, hI3941, hF3942, (w_p1 (by decide) (Or.inr rfl) (w_p1 (by decide) (Or.inr rfl) (w_p1 (by decide) (Or.inr rfl) (w_p1 (by decide) (Or.inr rfl) (w_p1 (by decide) (Or.inr rfl) (w_p1 (by decide) (Or.inr rfl) e3889)))))), (w_p1 (by decide) (Or.inr rfl) (w_p1 (by decide) (Or.inr rfl) (w_p1 (by decide) (Or.inr rfl) (w_p1 (by decide) (Or.inr rfl) (w_p1 (by decide) (Or.inr rfl) (w_p1 (by decide) (Or.inr rfl) e3890)))))), (w_p1 (by decide) (Or.inr rfl) (w_p1 (by decide) (Or.inr rfl) (w_p1 (by decide) (Or.inr rfl) (w_p1 (by decide) (Or.inr rfl) (w_p1 (by decide) (Or.inr rfl) (w_p1 (by decide) (Or.inr rfl) e3891)))))), (w_e1 _ _ _), by omega⟩ ⟨by omega, by omega⟩
            · have c3934_ : v3931.toInt ≠ 0 := en_k_eq_f c3934
              refine At.enter rfl ?_
              refine r_iconst 1 rfl ?_
              refine r_goto ?_
              refine At.enter rfl ?_
              refine r_istore _ rfl ?_
              refine r_iload (w_e1 _ _ _) ?_
              refine r_iff 119 rfl (by decide) ?_
              refine At.enter rfl ?_
              refine r_iload_n (w_p1 (by decide) (Or.inr rfl) (w_p1 (by decide) (Or.inr rfl) (w_p1 (by decide) (Or.inr rfl) (w_p1 (by decide) (Or.inr rfl) (w_p1 (by decide) (Or.inr rfl) e3891))))) ?_
              refine r_ifs 123 rfl (fun c3944 => ?_) (fun c3944 => ?_)
              · have c3944_ : v2717.toInt = 0 := en_k_eq_t c3944
                refine At.enter rfl ?_
                refine r_iload (w_e1 _ _ _) ?_
                refine r_ift (by decide) ?_
                refine At.enter rfl ?_
                refine r_aload_n (w_p1 (by decide) (Or.inr rfl) (w_p1 (by decide) (Or.inr rfl) (w_p1 (by decide) (Or.inr rfl) (w_p1 (by decide) (Or.inr rfl) (w_p1 (by decide) (Or.inr rfl) e3889))))) ?_
                refine r_iconst 1 rfl ?_
                refine q_putI (Sh.int hI3929.1 kx_204 rfl) rfl ?_
                have hI3945 := HI.wI0 hI3929 kx_204 rfl (p := 204) (b := 18) (v := 1) rfl
                have hF3946 := Fr.wI (p := 204) (b := 18) (v := 1) hF3933 rfl
                refine r_aload_n (w_p1 (by decide) (Or.inr rfl) (w_p1 (by decide) (Or.inr rfl) (w_p1 (by decide) (Or.inr rfl) (w_p1 (by decide) (Or.inr rfl) (w_p1 (by decide) (Or.inr rfl) e3889))))) ?_
                refine r_iload (w_p1 (by decide) (Or.inr rfl) (w_p1 (by decide) (Or.inr rfl) (w_p1 (by decide) (Or.inr rfl) (w_e1 _ _ _)))) ?_
                refine r_iload (w_p1 (by decide) (Or.inr rfl) (w_p1 (by decide) (Or.inr rfl) (w_p1 (by decide) (Or.inr rfl) (w_p1 (by decide) (Or.inr rfl) (w_e1 _ _ _))))) ?_
                refine r_callV 212 rfl [.ref 204, .int v3901, .int v3900] [] (Nat.le_of_ble_eq_true rfl) rfl (T_X1_giveUp_204 _ hI3945 v3901 v3900 (by omega)) ?_
                rintro _ _ ⟨g3947, rfl, hI3948, hF3949, rfl⟩
                refine At.stn ?_
                have hF3952 := Fr.tr hF3946 hF3949 rfl rfl
                refine At.enter rfl ?_
                refine r_aload_n (w_p1 (by decide) (Or.inr rfl) (w_p1 (by decide) (Or.inr rfl) (w_p1 (by decide) (Or.inr rfl) (w_p1 (by decide) (Or.inr rfl) (w_p1 (by decide) (Or.inr rfl) e3889))))) ?_
                refine q_getR (Sh.ref hI3948.1 kx_204 rfl) ?_
                refine r_iload (w_p1 (by decide) (Or.inr rfl) (w_p1 (by decide) (Or.inr rfl) (w_p1 (by decide) (Or.inr rfl) (w_p1 (by decide) (Or.inr rfl) (w_e1 _ _ _))))) ?_
                refine r_dup2 ⟨rfl, rfl⟩ ?_
                obtain ⟨v3953, hv3953⟩ : ∃ v, eA g3883 210 v3900.toInt = v := ⟨_, rfl⟩
                refine q_iald (Sh.arr hI3948.1 ka_210) v3900.toInt rfl (by omega) v3953 ((eA_c ((hF3949.2.1 210 (by decide)).trans ((gA_sI).trans ((hF3930.2.1 210 (by decide)).trans (hF3912.2.1 210 (by decide)))))).trans hv3953) ?_
                refine r_iconst 1 rfl ?_
                refine q_isubO (fun v3954 _ => ?_)
                refine q_iast (Sh.arr hI3948.1 ka_210) (v3900.toInt) rfl (by omega) ?_
                have hI3955 := HI.wA0 hI3948 ka_210 (p := 210) rfl rfl (v3900.toInt) (v3954)
                have hF3956 := Fr.wA (p := 210) (j := v3900.toInt) (v := v3954) hF3952 rfl
                refine r_iload (w_p1 (by decide) (Or.inr rfl) (w_e1 _ _ _)) ?_
                refine r_ift (by decide) ?_
                refine At.enter rfl ?_
                refine r_aload_n (w_p1 (by decide) (Or.inr rfl) (w_p1 (by decide) (Or.inr rfl) (w_p1 (by decide) (Or.inr rfl) (w_p1 (by decide) (Or.inr rfl) (w_p1 (by decide) (Or.inr rfl) e3889))))) ?_
                refine r_iload (w_p1 (by decide) (Or.inr rfl) (w_p1 (by decide) (Or.inr rfl) (w_e1 _ _ _))) ?_
                refine r_iload (w_p1 (by decide) (Or.inr rfl) (w_p1 (by decide) (Or.inr rfl) (w_p1 (by decide) (Or.inr rfl) (w_p1 (by decide) (Or.inr rfl) (w_e1 _ _ _))))) ?_
                refine r_callV 247 rfl [.ref 204, .int v3909, .int v3900] [] (Nat.le_of_ble_eq_true rfl) rfl (T_X1_take_204 _ hI3955 v3909 v3900 (by omega)) ?_
                rintro _ _ ⟨g3957, rfl, hI3958, hF3959, rfl⟩
                refine At.stn ?_
                have hF3962 := Fr.tr hF3956 hF3959 rfl rfl
                refine At.enter rfl ?_
                refine q_iinc (w_p1 (by decide) (Or.inr rfl) (w_p1 (by decide) (Or.inr rfl) (w_p1 (by decide) (Or.inr rfl) (w_p1 (by decide) (Or.inr rfl) (w_p1 (by decide) (Or.inr rfl) e3892))))) (x3882.toInt + 1) rfl (by omega) (fun v3963 hv3963 => ?_)
                refine r_goto ?_
                exact ih3888 (8 - v3963.toInt) _ _ ⟨v3963, by first | rfl | omega, hI3958, hF3962, (w_p1 (by decide) (Or.inr rfl) (w_p1 (by decide) (Or.inr rfl) (w_p1 (by decide) (Or.inr rfl) (w_p1 (by decide) (Or.inr rfl) (w_p1 (by decide) (Or.inr rfl) (w_p1 (by decide) (Or.inr rfl) e3889)))))), (w_p1 (by decide) (Or.inr rfl) (w_p1 (by decide) (Or.inr rfl) (w_p1 (by decide) (Or.inr rfl) (w_p1 (by decide) (Or.inr rfl) (w_p1 (by decide) (Or.inr rfl) (w_p1 (by decide) (Or.inr rfl) e3890)))))), (w_p1 (by decide) (Or.inr rfl) (w_p1 (by decide) (Or.inr rfl) (w_p1 (by decide) (Or.inr rfl) (w_p1 (by decide) (Or.inr rfl) (w_p1 (by decide) (Or.inr rfl) (w_p1 (by decide) (Or.inr rfl) e3891)))))), (w_e1 _ _ _), by omega⟩ ⟨by omega, by omega⟩
              · have c3944_ : v2717.toInt ≠ 0 := en_k_eq_f c3944
                refine At.enter rfl ?_
                refine r_aload_n (w_p1 (by decide) (Or.inr rfl) (w_p1 (by decide) (Or.inr rfl) (w_p1 (by decide) (Or.inr rfl) (w_p1 (by decide) (Or.inr rfl) (w_p1 (by decide) (Or.inr rfl) e3889))))) ?_
                refine q_getR (Sh.ref hI3929.1 kx_204 rfl) ?_
                refine r_iconst 2 rfl ?_
                refine r_iload (w_p1 (by decide) (Or.inr rfl) (w_p1 (by decide) (Or.inr rfl) (w_p1 (by decide) (Or.inr rfl) (w_p1 (by decide) (Or.inr rfl) (w_e1 _ _ _))))) ?_
                refine r_iload (w_p1 (by decide) (Or.inr rfl) (w_p1 (by decide) (Or.inr rfl) (w_p1 (by decide) (Or.inr rfl) (w_e1 _ _ _)))) ?_
                refine r_iload_n (w_p1 (by decide) (Or.inr rfl) (w_p1 (by decide) (Or.inr rfl) (w_p1 (by decide) (Or.inr rfl) (w_p1 (by decide) (Or.inr rfl) (w_p1 (by decide) (Or.inr rfl) e3890))))) ?_
                refine r_aload_n (w_p1 (by decide) (Or.inr rfl) (w_p1 (by decide) (Or.inr rfl) (w_p1 (by decide) (Or.inr rfl) (w_p1 (by decide) (Or.inr rfl) (w_p1 (by decide) (Or.inr rfl) e3889))))) ?_
                refine q_getR (Sh.ref hI3929.1 kx_204 rfl) ?_
                refine r_iload (w_p1 (by decide) (Or.inr rfl) (w_p1 (by decide) (Or.inr rfl) (w_p1 (by decide) (Or.inr rfl) (w_p1 (by decide) (Or.inr rfl) (w_e1 _ _ _))))) ?_
                obtain ⟨v3964, hv3964⟩ : ∃ v, eA g3883 214 v3900.toInt = v := ⟨_, rfl⟩
                refine q_iald (Sh.arr hI3929.1 ka_214) v3900.toInt rfl (by omega) v3964 ((eA_c ((hF3930.2.1 214 (by decide)).trans (hF3912.2.1 214 (by decide)))).trans hv3964) ?_
                refine r_aload_n (w_p1 (by decide) (Or.inr rfl) (w_p1 (by decide) (Or.inr rfl) (w_p1 (by decide) (Or.inr rfl) (w_p1 (by decide) (Or.inr rfl) (w_p1 (by decide) (Or.inr rfl) e3889))))) ?_
                refine q_getR (Sh.ref hI3929.1 kx_204 rfl) ?_
                refine r_iload (w_p1 (by decide) (Or.inr rfl) (w_p1 (by decide) (Or.inr rfl) (w_p1 (by decide) (Or.inr rfl) (w_e1 _ _ _)))) ?_
                obtain ⟨v3965, hv3965⟩ : ∃ v, eA g0 205 v3901.toInt = v := ⟨_, rfl⟩
                refine q_iald (Sh.arr hI3929.1 ka_205) v3901.toInt rfl (by omega) v3965 ((eA_c ((hF3930.2.1 205 (by decide)).trans ((hF3912.2.1 205 (by decide)).trans (hF3885.2.1 205 (by decide))))).trans hv3965) ?_
                refine r_aload_n (w_p1 (by decide) (Or.inr rfl) (w_p1 (by decide) (Or.inr rfl) (w_p1 (by decide) (Or.inr rfl) (w_p1 (by decide) (Or.inr rfl) (w_p1 (by decide) (Or.inr rfl) e3889))))) ?_
                refine q_getR (Sh.ref hI3929.1 kx_204 rfl) ?_
                refine r_iload (w_p1 (by decide) (Or.inr rfl) (w_p1 (by decide) (Or.inr rfl) (w_p1 (by decide) (Or.inr rfl) (w_e1 _ _ _)))) ?_
                obtain ⟨v3966, hv3966⟩ : ∃ v, eA g0 206 v3901.toInt = v := ⟨_, rfl⟩
                refine q_iald (Sh.arr hI3929.1 ka_206) v3901.toInt rfl (by omega) v3966 ((eA_c ((hF3930.2.1 206 (by decide)).trans ((hF3912.2.1 206 (by decide)).trans (hF3885.2.1 206 (by decide))))).trans hv3966) ?_
                refine r_callV 157 rfl [.ref 185, .int 2, .int v3900, .int v3901, .int a1, .int v3964, .int v3965, .int v3966] [] (Nat.le_of_ble_eq_true rfl) rfl (T_X3_tells_185 _ hI3929 2 v3900 v3901 a1 v3964 v3965 v3966) ?_
                rintro _ _ ⟨g3967, rfl, hI3968, hF3969, v3970, rfl, hr3971⟩
                refine At.stl ?_
                have hF3972 := Fr.tr hF3933 hF3969 rfl rfl
                refine At.enter rfl ?_
                refine r_lconst 0 rfl ?_
                refine r_lcmp _ rfl ?_
                refine r_ifs 162 rfl (fun c3973 => ?_) (fun c3973 => ?_)
                · have c3973_ : v3970.toInt ≠ 0 := en_j_ne_t c3973
                  refine At.enter rfl ?_
                  refine r_iconst 0 rfl ?_
                  refine Ar.fall 167 rfl ?_
                  refine At.enter rfl ?_
                  refine r_istore _ rfl ?_
                  refine Ar.fall 169 rfl ?_
                  refine At.enter rfl ?_
                  refine r_iload (w_e1 _ _ _) ?_
                  refine r_iff 174 rfl (by decide) ?_
                  refine At.enter rfl ?_
                  refine r_aload_n (w_p1 (by decide) (Or.inr rfl) (w_p1 (by decide) (Or.inr rfl) (w_p1 (by decide) (Or.inr rfl) (w_p1 (by decide) (Or.inr rfl) (w_p1 (by decide) (Or.inr rfl) (w_p1 (by decide) (Or.inr rfl) e3889)))))) ?_
                  refine q_getR (Sh.ref hI3968.1 kx_204 rfl) ?_
                  refine r_iload (w_p1 (by decide) (Or.inr rfl) (w_p1 (by decide) (Or.inr rfl) (w_p1 (by decide) (Or.inr rfl) (w_p1 (by decide) (Or.inr rfl) (w_p1 (by decide) (Or.inr rfl) (w_e1 _ _ _)))))) ?_
                  refine r_dup2 ⟨rfl, rfl⟩ ?_
                  refine q_iald (Sh.arr hI3968.1 ka_214) v3900.toInt rfl (by omega) v3964 ((eA_c ((hF3969.2.1 214 (by decide)).trans ((hF3930.2.1 214 (by decide)).trans (hF3912.2.1 214 (by decide))))).trans hv3964) ?_
                  refine r_iconst 1 rfl ?_
                  refine q_iaddO (fun v3974 _ => ?_)
                  refine q_iast (Sh.arr hI3968.1 ka_214) (v3900.toInt) rfl (by omega) ?_
                  have hI3975 := HI.wA0 hI3968 ka_214 (p := 214) rfl rfl (v3900.toInt) (v3974)
                  have hF3976 := Fr.wA (p := 214) (j := v3900.toInt) (v := v3974) hF3972 rfl
                  refine r_aload_n (w_p1 (by decide) (Or.inr rfl) (w_p1 (by decide) (Or.inr rfl) (w_p1 (by decide) (Or.inr rfl) (w_p1 (by decide) (Or.inr rfl) (w_p1 (by decide) (Or.inr rfl) (w_p1 (by decide) (Or.inr rfl) e3889)))))) ?_
                  refine q_getR (Sh.ref hI3975.1 kx_204 rfl) ?_
                  refine r_iload (w_p1 (by decide) (Or.inr rfl) (w_p1 (by decide) (Or.inr rfl) (w_p1 (by decide) (Or.inr rfl) (w_p1 (by decide) (Or.inr rfl) (w_p1 (by decide) (Or.inr rfl) (w_e1 _ _ _)))))) ?_
                  refine r_dup2 ⟨rfl, rfl⟩ ?_
                  obtain ⟨v3977, hv3977⟩ : ∃ v, eA g3883 213 v3900.toInt = v := ⟨_, rfl⟩
                  refine q_iald (Sh.arr hI3975.1 ka_213) v3900.toInt rfl (by omega) v3977 ((eA_c ((gA_sA_ne (by decide)).trans ((hF3969.2.1 213 (by decide)).trans ((hF3930.2.1 213 (by decide)).trans (hF3912.2.1 213 (by decide)))))).trans hv3977) ?_
                  refine r_iconst 1 rfl ?_
                  refine q_iaddO (fun v3978 _ => ?_)
                  refine q_iast (Sh.arr hI3975.1 ka_213) (v3900.toInt) rfl (by omega) ?_
                  have hI3979 := HI.wA0 hI3975 ka_213 (p := 213) rfl rfl (v3900.toInt) (v3978)
                  have hF3980 := Fr.wA (p := 213) (j := v3900.toInt) (v := v3978) hF3976 rfl
                  refine r_goto ?_
                  refine At.enter rfl ?_
                  refine q_iinc (w_p1 (by decide) (Or.inr rfl) (w_p1 (by decide) (Or.inr rfl) (w_p1 (by decide) (Or.inr rfl) (w_p1 (by decide) (Or.inr rfl) (w_p1 (by decide) (Or.inr rfl) (w_p1 (by decide) (Or.inr rfl) e3892)))))) (x3882.toInt + 1) rfl (by omega) (fun v3981 hv3981 => ?_)
                  refine r_goto ?_
                  exact ih3888 (8 - v3981.toInt) _ _ ⟨v3981, by first | rfl | omega, hI3979, hF3980, (w_p1 (by decide) (Or.inr rfl) (w_p1 (by decide) (Or.inr rfl) (w_p1 (by decide) (Or.inr rfl) (w_p1 (by decide) (Or.inr rfl) (w_p1 (by decide) (Or.inr rfl) (w_p1 (by decide) (Or.inr rfl) (w_p1 (by decide) (Or.inr rfl) e3889))))))), (w_p1 (by decide) (Or.inr rfl) (w_p1 (by decide) (Or.inr rfl) (w_p1 (by decide) (Or.inr rfl) (w_p1 (by decide) (Or.inr rfl) (w_p1 (by decide) (Or.inr rfl) (w_p1 (by decide) (Or.inr rfl) (w_p1 (by decide) (Or.inr rfl) e3890))))))), (w_p1 (by decide) (Or.inr rfl) (w_p1 (by decide) (Or.inr rfl) (w_p1 (by decide) (Or.inr rfl) (w_p1 (by decide) (Or.inr rfl) (w_p1 (by decide) (Or.inr rfl) (w_p1 (by decide) (Or.inr rfl) (w_p1 (by decide) (Or.inr rfl) e3891))))))), (w_e1 _ _ _), by omega⟩ ⟨by omega, by omega⟩
                · have c3973_ : v3970.toInt = 0 := en_j_ne_f c3973
                  refine At.enter rfl ?_
                  refine r_iconst 1 rfl ?_
                  refine r_goto ?_
                  refine At.enter rfl ?_
                  refine r_istore _ rfl ?_
                  refine Ar.fall 169 rfl ?_
                  refine At.enter rfl ?_
                  refine r_iload (w_e1 _ _ _) ?_
                  refine r_ift (by decide) ?_
                  refine At.enter rfl ?_
                  refine r_aload_n (w_p1 (by decide) (Or.inr rfl) (w_p1 (by decide) (Or.inr rfl) (w_p1 (by decide) (Or.inr rfl) (w_p1 (by decide) (Or.inr rfl) (w_p1 (by decide) (Or.inr rfl) (w_p1 (by decide) (Or.inr rfl) e3889)))))) ?_
                  refine r_iconst 1 rfl ?_
                  refine q_putI (Sh.int hI3968.1 kx_204 rfl) rfl ?_
                  have hI3982 := HI.wI0 hI3968 kx_204 rfl (p := 204) (b := 18) (v := 1) rfl
                  have hF3983 := Fr.wI (p := 204) (b := 18) (v := 1) hF3972 rfl
                  refine r_aload_n (w_p1 (by decide) (Or.inr rfl) (w_p1 (by decide) (Or.inr rfl) (w_p1 (by decide) (Or.inr rfl) (w_p1 (by decide) (Or.inr rfl) (w_p1 (by decide) (Or.inr rfl) (w_p1 (by decide) (Or.inr rfl) e3889)))))) ?_
                  refine r_iload (w_p1 (by decide) (Or.inr rfl) (w_p1 (by decide) (Or.inr rfl) (w_p1 (by decide) (Or.inr rfl) (w_p1 (by decide) (Or.inr rfl) (w_e1 _ _ _))))) ?_
                  refine r_iload (w_p1 (by decide) (Or.inr rfl) (w_p1 (by decide) (Or.inr rfl) (w_p1 (by decide) (Or.inr rfl) (w_p1 (by decide) (Or.inr rfl) (w_p1 (by decide) (Or.inr rfl) (w_e1 _ _ _)))))) ?_
                  refine r_callV 212 rfl [.ref 204, .int v3901, .int v3900] [] (Nat.le_of_ble_eq_true rfl) rfl (T_X1_giveUp_204 _ hI3982 v3901 v3900 (by omega)) ?_
                  rintro _ _ ⟨g3984, rfl, hI3985, hF3986, rfl⟩
                  refine At.stn ?_
                  have hF3989 := Fr.tr hF3983 hF3986 rfl rfl
                  refine At.enter rfl ?_
                  refine r_aload_n (w_p1 (by decide) (Or.inr rfl) (w_p1 (by decide) (Or.inr rfl) (w_p1 (by decide) (Or.inr rfl) (w_p1 (by decide) (Or.inr rfl) (w_p1 (by decide) (Or.inr rfl) (w_p1 (by decide) (Or.inr rfl) e3889)))))) ?_
                  refine q_getR (Sh.ref hI3985.1 kx_204 rfl) ?_
                  refine r_iload (w_p1 (by decide) (Or.inr rfl) (w_p1 (by decide) (Or.inr rfl) (w_p1 (by decide) (Or.inr rfl) (w_p1 (by decide) (Or.inr rfl) (w_p1 (by decide) (Or.inr rfl) (w_e1 _ _ _)))))) ?_
                  refine r_dup2 ⟨rfl, rfl⟩ ?_
                  obtain ⟨v3990, hv3990⟩ : ∃ v, eA g3883 210 v3900.toInt = v := ⟨_, rfl⟩
                  refine q_iald (Sh.arr hI3985.1 ka_210) v3900.toInt rfl (by omega) v3990 ((eA_c ((hF3986.2.1 210 (by decide)).trans ((gA_sI).trans ((hF3969.2.1 210 (by decide)).trans ((hF3930.2.1 210 (by decide)).trans (hF3912.2.1 210 (by decide))))))).trans hv3990) ?_
                  refine r_iconst 1 rfl ?_
                  refine q_isubO (fun v3991 _ => ?_)
                  refine q_iast (Sh.arr hI3985.1 ka_210) (v3900.toInt) rfl (by omega) ?_
                  have hI3992 := HI.wA0 hI3985 ka_210 (p := 210) rfl rfl (v3900.toInt) (v3991)
                  have hF3993 := Fr.wA (p := 210) (j := v3900.toInt) (v := v3991) hF3989 rfl
                  refine r_iload (w_p1 (by decide) (Or.inr rfl) (w_p1 (by decide) (Or.inr rfl) (w_e1 _ _ _))) ?_
                  refine r_ift (by decide) ?_
                  refine At.enter rfl ?_
                  refine r_aload_n (w_p1 (by decide) (Or.inr rfl) (w_p1 (by decide) (Or.inr rfl) (w_p1 (by decide) (Or.inr rfl) (w_p1 (by decide) (Or.inr rfl) (w_p1 (by decide) (Or.inr rfl) (w_p1 (by decide) (Or.inr rfl) e3889)))))) ?_
                  refine r_iload (w_p1 (by decide) (Or.inr rfl) (w_p1 (by decide) (Or.inr rfl) (w_p1 (by decide) (Or.inr rfl) (w_e1 _ _ _)))) ?_
                  refine r_iload (w_p1 (by decide) (Or.inr rfl) (w_p1 (by decide) (Or.inr rfl) (w_p1 (by decide) (Or.inr rfl) (w_p1 (by decide) (Or.inr rfl) (w_p1 (by decide) (Or.inr rfl) (w_e1 _ _ _)))))) ?_
                  refine r_callV 247 rfl [.ref 204, .int v3909, .int v3900] [] (Nat.le_of_ble_eq_true rfl) rfl (T_X1_take_204 _ hI3992 v3909 v3900 (by omega)) ?_
                  rintro _ _ ⟨g3994, rfl, hI3995, hF3996, rfl⟩
                  refine At.stn ?_
                  have hF3999 := Fr.tr hF3993 hF3996 rfl rfl
                  refine At.enter rfl ?_
                  refine q_iinc (w_p1 (by decide) (Or.inr rfl) (w_p1 (by decide) (Or.inr rfl) (w_p1 (by decide) (Or.inr rfl) (w_p1 (by decide) (Or.inr rfl) (w_p1 (by decide) (Or.inr rfl) (w_p1 (by decide) (Or.inr rfl) e3892)))))) (x3882.toInt + 1) rfl (by omega) (fun v4000 hv4000 => ?_)
                  refine r_goto ?_
                  exact ih3888 (8 - v4000.toInt) _ _ ⟨v4000, by first | rfl | omega, hI3995, hF3999, (w_p1 (by decide) (Or.inr rfl) (w_p1 (by decide) (Or.inr rfl) (w_p1 (by decide) (Or.inr rfl) (w_p1 (by decide) (Or.inr rfl) (w_p1 (by decide) (Or.inr rfl) (w_p1 (by decide) (Or.inr rfl) (w_p1 (by decide) (Or.inr rfl) e3889))))))), (w_p1 (by decide) (Or.inr rfl) (w_p1 (by decide) (Or.inr rfl) (w_p1 (by decide) (Or.inr rfl) (w_p1 (by decide) (Or.inr rfl) (w_p1 (by decide) (Or.inr rfl) (w_p1 (by decide) (Or.inr rfl) (w_p1 (by decide) (Or.inr rfl) e3890))))))), (w_p1 (by decide) (Or.inr rfl) (w_p1 (by decide) (Or.inr rfl) (w_p1 (by decide) (Or.inr rfl) (w_p1 (by decide) (Or.inr rfl) (w_p1 (by decide) (Or.inr rfl) (w_p1 (by decide) (Or.inr rfl) (w_p1 (by decide) (Or.inr rfl) e3891))))))), (w_e1 _ _ _), by omega⟩ ⟨by omega, by omega⟩
        · have c3917_ : v3909.toInt = v3913.toInt := en_i_ne_f c3917
          refine At.enter rfl ?_
          refine r_iconst 1 rfl ?_
          refine r_goto ?_
          refine At.enter rfl ?_
          refine r_istore _ rfl ?_
          refine r_iload (w_p1 (by decide) (Or.inr rfl) (w_e1 _ _ _)) ?_
          refine r_iconst (-1) rfl ?_
          refine r_ics 91 rfl (fun c4001 => ?_) (fun c4001 => ?_)
          · have c4001_ : v3909.toInt = (-1) := en_i_eq_t c4001
            refine At.enter rfl ?_
            refine r_iconst 0 rfl ?_
            refine Ar.fall 112 rfl ?_
            refine At.enter rfl ?_
            refine r_istore _ rfl ?_
            refine r_iload (w_e1 _ _ _) ?_
            refine r_ift (by decide) ?_
            refine At.enter rfl ?_
            refine r_iload (w_e1 _ _ _) ?_
            refine r_iff 174 rfl (by decide) ?_
            refine At.enter rfl ?_
            refine r_aload_n (w_p1 (by decide) (Or.inr rfl) (w_p1 (by decide) (Or.inr rfl) (w_p1 (by decide) (Or.inr rfl) (w_p1 (by decide) (Or.inr rfl) (w_p1 (by decide) (Or.inr rfl) e3889))))) ?_
            refine q_getR (Sh.ref hI3911.1 kx_204 rfl) ?_
            refine r_iload (w_p1 (by decide) (Or.inr rfl) (w_p1 (by decide) (Or.inr rfl) (w_p1 (by decide) (Or.inr rfl) (w_p1 (by decide) (Or.inr rfl) (w_e1 _ _ _))))) ?_
            refine r_dup2 ⟨rfl, rfl⟩ ?_
            obtain ⟨v4002, hv4002⟩ : ∃ v, eA g3883 214 v3900.toInt = v := ⟨_, rfl⟩
            refine q_iald (Sh.arr hI3911.1 ka_214) v3900.toInt rfl (by omega) v4002 ((eA_c (hF3912.2.1 214 (by decide))).trans hv4002) ?_
            refine r_iconst 1 rfl ?_
            refine q_iaddO (fun v4003 _ => ?_)
            refine q_iast (Sh.arr hI3911.1 ka_214) (v3900.toInt) rfl (by omega) ?_
            have hI4004 := HI.wA0 hI3911 ka_214 (p := 214) rfl rfl (v3900.toInt) (v4003)
            have hF4005 := Fr.wA (p := 214) (j := v3900.toInt) (v := v4003) hF3915 rfl
            refine r_aload_n (w_p1 (by decide) (Or.inr rfl) (w_p1 (by decide) (Or.inr rfl) (w_p1 (by decide) (Or.inr rfl) (w_p1 (by decide) (Or.inr rfl) (w_p1 (by decide) (Or.inr rfl) e3889))))) ?_
            refine q_getR (Sh.ref hI4004.1 kx_204 rfl) ?_
            refine r_iload (w_p1 (by decide) (Or.inr rfl) (w_p1 (by decide) (Or.inr rfl) (w_p1 (by decide) (Or.inr rfl) (w_p1 (by decide) (Or.inr rfl) (w_e1 _ _ _))))) ?_
            refine r_dup2 ⟨rfl, rfl⟩ ?_
            obtain ⟨v4006, hv4006⟩ : ∃ v, eA g3883 213 v3900.toInt = v := ⟨_, rfl⟩
            refine q_iald (Sh.arr hI4004.1 ka_213) v3900.toInt rfl (by omega) v4006 ((eA_c ((gA_sA_ne (by decide)).trans (hF3912.2.1 213 (by decide)))).trans hv4006) ?_
            refine r_iconst 1 rfl ?_
            refine q_iaddO (fun v4007 _ => ?_)
            refine q_iast (Sh.arr hI4004.1 ka_213) (v3900.toInt) rfl (by omega) ?_
            have hI4008 := HI.wA0 hI4004 ka_213 (p := 213) rfl rfl (v3900.toInt) (v4007)
            have hF4009 := Fr.wA (p := 213) (j := v3900.toInt) (v := v4007) hF4005 rfl
            refine r_goto ?_
            refine At.enter rfl ?_
            refine q_iinc (w_p1 (by decide) (Or.inr rfl) (w_p1 (by decide) (Or.inr rfl) (w_p1 (by decide) (Or.inr rfl) (w_p1 (by decide) (Or.inr rfl) (w_p1 (by decide) (Or.inr rfl) e3892))))) (x3882.toInt + 1) rfl (by omega) (fun v4010 hv4010 => ?_)
            refine r_goto ?_
            exact ih3888 (8 - v4010.toInt) _ _ ⟨v4010, by first | rfl | omega, hI4008, hF4009, (w_p1 (by decide) (Or.inr rfl) (w_p1 (by decide) (Or.inr rfl) (w_p1 (by decide) (Or.inr rfl) (w_p1 (by decide) (Or.inr rfl) (w_p1 (by decide) (Or.inr rfl) (w_p1 (by decide) (Or.inr rfl) e3889)))))), (w_p1 (by decide) (Or.inr rfl) (w_p1 (by decide) (Or.inr rfl) (w_p1 (by decide) (Or.inr rfl) (w_p1 (by decide) (Or.inr rfl) (w_p1 (by decide) (Or.inr rfl) (w_p1 (by decide) (Or.inr rfl) e3890)))))), (w_p1 (by decide) (Or.inr rfl) (w_p1 (by decide) (Or.inr rfl) (w_p1 (by decide) (Or.inr rfl) (w_p1 (by decide) (Or.inr rfl) (w_p1 (by decide) (Or.inr rfl) (w_p1 (by decide) (Or.inr rfl) e3891)))))), (w_e1 _ _ _), by omega⟩ ⟨by omega, by omega⟩
          · have c4001_ : v3909.toInt ≠ (-1) := en_i_eq_f c4001
            refine At.enter rfl ?_
            refine r_iload (w_e1 _ _ _) ?_
            refine r_ift (by decide) ?_
            refine At.enter rfl ?_
            refine r_iconst 1 rfl ?_
            refine r_goto ?_
            refine At.enter rfl ?_
            refine r_istore _ rfl ?_
            refine r_iload (w_e1 _ _ _) ?_
            refine r_iff 119 rfl (by decide) ?_
            refine At.enter rfl ?_
            refine r_iload_n (w_p1 (by decide) (Or.inr rfl) (w_p1 (by decide) (Or.inr rfl) (w_p1 (by decide) (Or.inr rfl) (w_p1 (by decide) (Or.inr rfl) (w_p1 (by decide) (Or.inr rfl) e3891))))) ?_
            refine r_ifs 123 rfl (fun c4011 => ?_) (fun c4011 => ?_)
            · have c4011_ : v2717.toInt = 0 := en_k_eq_t c4011
              refine At.enter rfl ?_
              refine r_iload (w_e1 _ _ _) ?_
              refine r_ift (by decide) ?_
              refine At.enter rfl ?_
              refine r_aload_n (w_p1 (by decide) (Or.inr rfl) (w_p1 (by decide) (Or.inr rfl) (w_p1 (by decide) (Or.inr rfl) (w_p1 (by decide) (Or.inr rfl) (w_p1 (by decide) (Or.inr rfl) e3889))))) ?_
              refine r_iconst 1 rfl ?_
              refine q_putI (Sh.int hI3911.1 kx_204 rfl) rfl ?_
              have hI4012 := HI.wI0 hI3911 kx_204 rfl (p := 204) (b := 18) (v := 1) rfl
              have hF4013 := Fr.wI (p := 204) (b := 18) (v := 1) hF3915 rfl
              refine r_aload_n (w_p1 (by decide) (Or.inr rfl) (w_p1 (by decide) (Or.inr rfl) (w_p1 (by decide) (Or.inr rfl) (w_p1 (by decide) (Or.inr rfl) (w_p1 (by decide) (Or.inr rfl) e3889))))) ?_
              refine r_iload (w_p1 (by decide) (Or.inr rfl) (w_p1 (by decide) (Or.inr rfl) (w_p1 (by decide) (Or.inr rfl) (w_e1 _ _ _)))) ?_
              refine r_iload (w_p1 (by decide) (Or.inr rfl) (w_p1 (by decide) (Or.inr rfl) (w_p1 (by decide) (Or.inr rfl) (w_p1 (by decide) (Or.inr rfl) (w_e1 _ _ _))))) ?_
              refine r_callV 212 rfl [.ref 204, .int v3901, .int v3900] [] (Nat.le_of_ble_eq_true rfl) rfl (T_X1_giveUp_204 _ hI4012 v3901 v3900 (by omega)) ?_
              rintro _ _ ⟨g4014, rfl, hI4015, hF4016, rfl⟩
              refine At.stn ?_
              have hF4019 := Fr.tr hF4013 hF4016 rfl rfl
              refine At.enter rfl ?_
              refine r_aload_n (w_p1 (by decide) (Or.inr rfl) (w_p1 (by decide) (Or.inr rfl) (w_p1 (by decide) (Or.inr rfl) (w_p1 (by decide) (Or.inr rfl) (w_p1 (by decide) (Or.inr rfl) e3889))))) ?_
              refine q_getR (Sh.ref hI4015.1 kx_204 rfl) ?_
              refine r_iload (w_p1 (by decide) (Or.inr rfl) (w_p1 (by decide) (Or.inr rfl) (w_p1 (by decide) (Or.inr rfl) (w_p1 (by decide) (Or.inr rfl) (w_e1 _ _ _))))) ?_
              refine r_dup2 ⟨rfl, rfl⟩ ?_
              obtain ⟨v4020, hv4020⟩ : ∃ v, eA g3883 210 v3900.toInt = v := ⟨_, rfl⟩
              refine q_iald (Sh.arr hI4015.1 ka_210) v3900.toInt rfl (by omega) v4020 ((eA_c ((hF4016.2.1 210 (by decide)).trans ((gA_sI).trans (hF3912.2.1 210 (by decide))))).trans hv4020) ?_
              refine r_iconst 1 rfl ?_
              refine q_isubO (fun v4021 _ => ?_)
              refine q_iast (Sh.arr hI4015.1 ka_210) (v3900.toInt) rfl (by omega) ?_
              have hI4022 := HI.wA0 hI4015 ka_210 (p := 210) rfl rfl (v3900.toInt) (v4021)
              have hF4023 := Fr.wA (p := 210) (j := v3900.toInt) (v := v4021) hF4019 rfl
              refine r_iload (w_p1 (by decide) (Or.inr rfl) (w_e1 _ _ _)) ?_
              refine r_iff 228 rfl (by decide) ?_
              refine At.enter rfl ?_
              refine r_aload_n (w_p1 (by decide) (Or.inr rfl) (w_p1 (by decide) (Or.inr rfl) (w_p1 (by decide) (Or.inr rfl) (w_p1 (by decide) (Or.inr rfl) (w_p1 (by decide) (Or.inr rfl) e3889))))) ?_
              refine q_getR (Sh.ref hI4022.1 kx_204 rfl) ?_
              refine r_iload (w_p1 (by decide) (Or.inr rfl) (w_p1 (by decide) (Or.inr rfl) (w_p1 (by decide) (Or.inr rfl) (w_p1 (by decide) (Or.inr rfl) (w_e1 _ _ _))))) ?_
              refine r_iload_n (w_p1 (by decide) (Or.inr rfl) (w_p1 (by decide) (Or.inr rfl) (w_p1 (by decide) (Or.inr rfl) (w_p1 (by decide) (Or.inr rfl) (w_p1 (by decide) (Or.inr rfl) e3890))))) ?_
              refine q_iast (Sh.arr hI4022.1 ka_212) (v3900.toInt) rfl (by omega) ?_
              have hI4024 := HI.wA0 hI4022 ka_212 (p := 212) rfl rfl (v3900.toInt) (a1)
              have hF4025 := Fr.wA (p := 212) (j := v3900.toInt) (v := a1) hF4023 rfl
              refine r_goto ?_
              refine At.enter rfl ?_
              refine q_iinc (w_p1 (by decide) (Or.inr rfl) (w_p1 (by decide) (Or.inr rfl) (w_p1 (by decide) (Or.inr rfl) (w_p1 (by decide) (Or.inr rfl) (w_p1 (by decide) (Or.inr rfl) e3892))))) (x3882.toInt + 1) rfl (by omega) (fun v4026 hv4026 => ?_)
              refine r_goto ?_
              exact ih3888 (8 - v4026.toInt) _ _ ⟨v4026, by first | rfl | omega, hI4024, hF4025, (w_p1 (by decide) (Or.inr rfl) (w_p1 (by decide) (Or.inr rfl) (w_p1 (by decide) (Or.inr rfl) (w_p1 (by decide) (Or.inr rfl) (w_p1 (by decide) (Or.inr rfl) (w_p1 (by decide) (Or.inr rfl) e3889)))))), (w_p1 (by decide) (Or.inr rfl) (w_p1 (by decide) (Or.inr rfl) (w_p1 (by decide) (Or.inr rfl) (w_p1 (by decide) (Or.inr rfl) (w_p1 (by decide) (Or.inr rfl) (w_p1 (by decide) (Or.inr rfl) e3890)))))), (w_p1 (by decide) (Or.inr rfl) (w_p1 (by decide) (Or.inr rfl) (w_p1 (by decide) (Or.inr rfl) (w_p1 (by decide) (Or.inr rfl) (w_p1 (by decide) (Or.inr rfl) (w_p1 (by decide) (Or.inr rfl) e3891)))))), (w_e1 _ _ _), by omega⟩ ⟨by omega, by omega⟩
            · have c4011_ : v2717.toInt ≠ 0 := en_k_eq_f c4011
              refine At.enter rfl ?_
              refine r_aload_n (w_p1 (by decide) (Or.inr rfl) (w_p1 (by decide) (Or.inr rfl) (w_p1 (by decide) (Or.inr rfl) (w_p1 (by decide) (Or.inr rfl) (w_p1 (by decide) (Or.inr rfl) e3889))))) ?_
              refine q_getR (Sh.ref hI3911.1 kx_204 rfl) ?_
              refine r_iconst 2 rfl ?_
              refine r_iload (w_p1 (by decide) (Or.inr rfl) (w_p1 (by decide) (Or.inr rfl) (w_p1 (by decide) (Or.inr rfl) (w_p1 (by decide) (Or.inr rfl) (w_e1 _ _ _))))) ?_
              refine r_iload (w_p1 (by decide) (Or.inr rfl) (w_p1 (by decide) (Or.inr rfl) (w_p1 (by decide) (Or.inr rfl) (w_e1 _ _ _)))) ?_
              refine r_iload_n (w_p1 (by decide) (Or.inr rfl) (w_p1 (by decide) (Or.inr rfl) (w_p1 (by decide) (Or.inr rfl) (w_p1 (by decide) (Or.inr rfl) (w_p1 (by decide) (Or.inr rfl) e3890))))) ?_
              refine r_aload_n (w_p1 (by decide) (Or.inr rfl) (w_p1 (by decide) (Or.inr rfl) (w_p1 (by decide) (Or.inr rfl) (w_p1 (by decide) (Or.inr rfl) (w_p1 (by decide) (Or.inr rfl) e3889))))) ?_
              refine q_getR (Sh.ref hI3911.1 kx_204 rfl) ?_
              refine r_iload (w_p1 (by decide) (Or.inr rfl) (w_p1 (by decide) (Or.inr rfl) (w_p1 (by decide) (Or.inr rfl) (w_p1 (by decide) (Or.inr rfl) (w_e1 _ _ _))))) ?_
              obtain ⟨v4027, hv4027⟩ : ∃ v, eA g3883 214 v3900.toInt = v := ⟨_, rfl⟩
              refine q_iald (Sh.arr hI3911.1 ka_214) v3900.toInt rfl (by omega) v4027 ((eA_c (hF3912.2.1 214 (by decide))).trans hv4027) ?_
              refine r_aload_n (w_p1 (by decide) (Or.inr rfl) (w_p1 (by decide) (Or.inr rfl) (w_p1 (by decide) (Or.inr rfl) (w_p1 (by decide) (Or.inr rfl) (w_p1 (by decide) (Or.inr rfl) e3889))))) ?_
              refine q_getR (Sh.ref hI3911.1 kx_204 rfl) ?_
              refine r_iload (w_p1 (by decide) (Or.inr rfl) (w_p1 (by decide) (Or.inr rfl) (w_p1 (by decide) (Or.inr rfl) (w_e1 _ _ _)))) ?_
              obtain ⟨v4028, hv4028⟩ : ∃ v, eA g0 205 v3901.toInt = v := ⟨_, rfl⟩
              refine q_iald (Sh.arr hI3911.1 ka_205) v3901.toInt rfl (by omega) v4028 ((eA_c ((hF3912.2.1 205 (by decide)).trans (hF3885.2.1 205 (by decide)))).trans hv4028) ?_
              refine r_aload_n (w_p1 (by decide) (Or.inr rfl) (w_p1 (by decide) (Or.inr rfl) (w_p1 (by decide) (Or.inr rfl) (w_p1 (by decide) (Or.inr rfl) (w_p1 (by decide) (Or.inr rfl) e3889))))) ?_
              refine q_getR (Sh.ref hI3911.1 kx_204 rfl) ?_
              refine r_iload (w_p1 (by decide) (Or.inr rfl) (w_p1 (by decide) (Or.inr rfl) (w_p1 (by decide) (Or.inr rfl) (w_e1 _ _ _)))) ?_
              obtain ⟨v4029, hv4029⟩ : ∃ v, eA g0 206 v3901.toInt = v := ⟨_, rfl⟩
              refine q_iald (Sh.arr hI3911.1 ka_206) v3901.toInt rfl (by omega) v4029 ((eA_c ((hF3912.2.1 206 (by decide)).trans (hF3885.2.1 206 (by decide)))).trans hv4029) ?_
              refine r_callV 157 rfl [.ref 185, .int 2, .int v3900, .int v3901, .int a1, .int v4027, .int v4028, .int v4029] [] (Nat.le_of_ble_eq_true rfl) rfl (T_X3_tells_185 _ hI3911 2 v3900 v3901 a1 v4027 v4028 v4029) ?_
              rintro _ _ ⟨g4030, rfl, hI4031, hF4032, v4033, rfl, hr4034⟩
              refine At.stl ?_
              have hF4035 := Fr.tr hF3915 hF4032 rfl rfl
              refine At.enter rfl ?_
              refine r_lconst 0 rfl ?_
              refine r_lcmp _ rfl ?_
              refine r_ifs 162 rfl (fun c4036 => ?_) (fun c4036 => ?_)
              · have c4036_ : v4033.toInt ≠ 0 := en_j_ne_t c4036
                refine At.enter rfl ?_
                refine r_iconst 0 rfl ?_
                refine Ar.fall 167 rfl ?_
                refine At.enter rfl ?_
                refine r_istore _ rfl ?_
                refine Ar.fall 169 rfl ?_
                refine At.enter rfl ?_
                refine r_iload (w_e1 _ _ _) ?_
                refine r_iff 174 rfl (by decide) ?_
                refine At.enter rfl ?_
                refine r_aload_n (w_p1 (by decide) (Or.inr rfl) (w_p1 (by decide) (Or.inr rfl) (w_p1 (by decide) (Or.inr rfl) (w_p1 (by decide) (Or.inr rfl) (w_p1 (by decide) (Or.inr rfl) (w_p1 (by decide) (Or.inr rfl) e3889)))))) ?_
                refine q_getR (Sh.ref hI4031.1 kx_204 rfl) ?_
                refine r_iload (w_p1 (by decide) (Or.inr rfl) (w_p1 (by decide) (Or.inr rfl) (w_p1 (by decide) (Or.inr rfl) (w_p1 (by decide) (Or.inr rfl) (w_p1 (by decide) (Or.inr rfl) (w_e1 _ _ _)))))) ?_
                refine r_dup2 ⟨rfl, rfl⟩ ?_
                refine q_iald (Sh.arr hI4031.1 ka_214) v3900.toInt rfl (by omega) v4027 ((eA_c ((hF4032.2.1 214 (by decide)).trans (hF3912.2.1 214 (by decide)))).trans hv4027) ?_
                refine r_iconst 1 rfl ?_
                refine q_iaddO (fun v4037 _ => ?_)
                refine q_iast (Sh.arr hI4031.1 ka_214) (v3900.toInt) rfl (by omega) ?_
                have hI4038 := HI.wA0 hI4031 ka_214 (p := 214) rfl rfl (v3900.toInt) (v4037)
                have hF4039 := Fr.wA (p := 214) (j := v3900.toInt) (v := v4037) hF4035 rfl
                refine r_aload_n (w_p1 (by decide) (Or.inr rfl) (w_p1 (by decide) (Or.inr rfl) (w_p1 (by decide) (Or.inr rfl) (w_p1 (by decide) (Or.inr rfl) (w_p1 (by decide) (Or.inr rfl) (w_p1 (by decide) (Or.inr rfl) e3889)))))) ?_
                refine q_getR (Sh.ref hI4038.1 kx_204 rfl) ?_
                refine r_iload (w_p1 (by decide) (Or.inr rfl) (w_p1 (by decide) (Or.inr rfl) (w_p1 (by decide) (Or.inr rfl) (w_p1 (by decide) (Or.inr rfl) (w_p1 (by decide) (Or.inr rfl) (w_e1 _ _ _)))))) ?_
                refine r_dup2 ⟨rfl, rfl⟩ ?_
                obtain ⟨v4040, hv4040⟩ : ∃ v, eA g3883 213 v3900.toInt = v := ⟨_, rfl⟩
                refine q_iald (Sh.arr hI4038.1 ka_213) v3900.toInt rfl (by omega) v4040 ((eA_c ((gA_sA_ne (by decide)).trans ((hF4032.2.1 213 (by decide)).trans (hF3912.2.1 213 (by decide))))).trans hv4040) ?_
                refine r_iconst 1 rfl ?_
                refine q_iaddO (fun v4041 _ => ?_)
                refine q_iast (Sh.arr hI4038.1 ka_213) (v3900.toInt) rfl (by omega) ?_
                have hI4042 := HI.wA0 hI4038 ka_213 (p := 213) rfl rfl (v3900.toInt) (v4041)
                have hF4043 := Fr.wA (p := 213) (j := v3900.toInt) (v := v4041) hF4039 rfl
                refine r_goto ?_
                refine At.enter rfl ?_
                refine q_iinc (w_p1 (by decide) (Or.inr rfl) (w_p1 (by decide) (Or.inr rfl) (w_p1 (by decide) (Or.inr rfl) (w_p1 (by decide) (Or.inr rfl) (w_p1 (by decide) (Or.inr rfl) (w_p1 (by decide) (Or.inr rfl) e3892)))))) (x3882.toInt + 1) rfl (by omega) (fun v4044 hv4044 => ?_)
                refine r_goto ?_
                exact ih3888 (8 - v4044.toInt) _ _ ⟨v4044, by first | rfl | omega, hI4042, hF4043, (w_p1 (by decide) (Or.inr rfl) (w_p1 (by decide) (Or.inr rfl) (w_p1 (by decide) (Or.inr rfl) (w_p1 (by decide) (Or.inr rfl) (w_p1 (by decide) (Or.inr rfl) (w_p1 (by decide) (Or.inr rfl) (w_p1 (by decide) (Or.inr rfl) e3889))))))), (w_p1 (by decide) (Or.inr rfl) (w_p1 (by decide) (Or.inr rfl) (w_p1 (by decide) (Or.inr rfl) (w_p1 (by decide) (Or.inr rfl) (w_p1 (by decide) (Or.inr rfl) (w_p1 (by decide) (Or.inr rfl) (w_p1 (by decide) (Or.inr rfl) e3890))))))), (w_p1 (by decide) (Or.inr rfl) (w_p1 (by decide) (Or.inr rfl) (w_p1 (by decide) (Or.inr rfl) (w_p1 (by decide) (Or.inr rfl) (w_p1 (by decide) (Or.inr rfl) (w_p1 (by decide) (Or.inr rfl) (w_p1 (by decide) (Or.inr rfl) e3891))))))), (w_e1 _ _ _), by omega⟩ ⟨by omega, by omega⟩
              · have c4036_ : v4033.toInt = 0 := en_j_ne_f c4036
                refine At.enter rfl ?_
                refine r_iconst 1 rfl ?_
                refine r_goto ?_
                refine At.enter rfl ?_
                refine r_istore _ rfl ?_
                refine Ar.fall 169 rfl ?_
                refine At.enter rfl ?_
                refine r_iload (w_e1 _ _ _) ?_
                refine r_ift (by decide) ?_
                refine At.enter rfl ?_
                refine r_aload_n (w_p1 (by decide) (Or.inr rfl) (w_p1 (by decide) (Or.inr rfl) (w_p1 (by decide) (Or.inr rfl) (w_p1 (by decide) (Or.inr rfl) (w_p1 (by decide) (Or.inr rfl) (w_p1 (by decide) (Or.inr rfl) e3889)))))) ?_
                refine r_iconst 1 rfl ?_
                refine q_putI (Sh.int hI4031.1 kx_204 rfl) rfl ?_
                have hI4045 := HI.wI0 hI4031 kx_204 rfl (p := 204) (b := 18) (v := 1) rfl
                have hF4046 := Fr.wI (p := 204) (b := 18) (v := 1) hF4035 rfl
                refine r_aload_n (w_p1 (by decide) (Or.inr rfl) (w_p1 (by decide) (Or.inr rfl) (w_p1 (by decide) (Or.inr rfl) (w_p1 (by decide) (Or.inr rfl) (w_p1 (by decide) (Or.inr rfl) (w_p1 (by decide) (Or.inr rfl) e3889)))))) ?_
                refine r_iload (w_p1 (by decide) (Or.inr rfl) (w_p1 (by decide) (Or.inr rfl) (w_p1 (by decide) (Or.inr rfl) (w_p1 (by decide) (Or.inr rfl) (w_e1 _ _ _))))) ?_
                refine r_iload (w_p1 (by decide) (Or.inr rfl) (w_p1 (by decide) (Or.inr rfl) (w_p1 (by decide) (Or.inr rfl) (w_p1 (by decide) (Or.inr rfl) (w_p1 (by decide) (Or.inr rfl) (w_e1 _ _ _)))))) ?_
                refine r_callV 212 rfl [.ref 204, .int v3901, .int v3900] [] (Nat.le_of_ble_eq_true rfl) rfl (T_X1_giveUp_204 _ hI4045 v3901 v3900 (by omega)) ?_
                rintro _ _ ⟨g4047, rfl, hI4048, hF4049, rfl⟩
                refine At.stn ?_
                have hF4052 := Fr.tr hF4046 hF4049 rfl rfl
                refine At.enter rfl ?_
                refine r_aload_n (w_p1 (by decide) (Or.inr rfl) (w_p1 (by decide) (Or.inr rfl) (w_p1 (by decide) (Or.inr rfl) (w_p1 (by decide) (Or.inr rfl) (w_p1 (by decide) (Or.inr rfl) (w_p1 (by decide) (Or.inr rfl) e3889)))))) ?_
                refine q_getR (Sh.ref hI4048.1 kx_204 rfl) ?_
                refine r_iload (w_p1 (by decide) (Or.inr rfl) (w_p1 (by decide) (Or.inr rfl) (w_p1 (by decide) (Or.inr rfl) (w_p1 (by decide) (Or.inr rfl) (w_p1 (by decide) (Or.inr rfl) (w_e1 _ _ _)))))) ?_
                refine r_dup2 ⟨rfl, rfl⟩ ?_
                obtain ⟨v4053, hv4053⟩ : ∃ v, eA g3883 210 v3900.toInt = v := ⟨_, rfl⟩
                refine q_iald (Sh.arr hI4048.1 ka_210) v3900.toInt rfl (by omega) v4053 ((eA_c ((hF4049.2.1 210 (by decide)).trans ((gA_sI).trans ((hF4032.2.1 210 (by decide)).trans (hF3912.2.1 210 (by decide)))))).trans hv4053) ?_
                refine r_iconst 1 rfl ?_
                refine q_isubO (fun v4054 _ => ?_)
                refine q_iast (Sh.arr hI4048.1 ka_210) (v3900.toInt) rfl (by omega) ?_
                have hI4055 := HI.wA0 hI4048 ka_210 (p := 210) rfl rfl (v3900.toInt) (v4054)
                have hF4056 := Fr.wA (p := 210) (j := v3900.toInt) (v := v4054) hF4052 rfl
                refine r_iload (w_p1 (by decide) (Or.inr rfl) (w_p1 (by decide) (Or.inr rfl) (w_e1 _ _ _))) ?_
                refine r_iff 228 rfl (by decide) ?_
                refine At.enter rfl ?_
                refine r_aload_n (w_p1 (by decide) (Or.inr rfl) (w_p1 (by decide) (Or.inr rfl) (w_p1 (by decide) (Or.inr rfl) (w_p1 (by decide) (Or.inr rfl) (w_p1 (by decide) (Or.inr rfl) (w_p1 (by decide) (Or.inr rfl) e3889)))))) ?_
                refine q_getR (Sh.ref hI4055.1 kx_204 rfl) ?_
                refine r_iload (w_p1 (by decide) (Or.inr rfl) (w_p1 (by decide) (Or.inr rfl) (w_p1 (by decide) (Or.inr rfl) (w_p1 (by decide) (Or.inr rfl) (w_p1 (by decide) (Or.inr rfl) (w_e1 _ _ _)))))) ?_
                refine r_iload_n (w_p1 (by decide) (Or.inr rfl) (w_p1 (by decide) (Or.inr rfl) (w_p1 (by decide) (Or.inr rfl) (w_p1 (by decide) (Or.inr rfl) (w_p1 (by decide) (Or.inr rfl) (w_p1 (by decide) (Or.inr rfl) e3890)))))) ?_
                refine q_iast (Sh.arr hI4055.1 ka_212) (v3900.toInt) rfl (by omega) ?_
                have hI4057 := HI.wA0 hI4055 ka_212 (p := 212) rfl rfl (v3900.toInt) (a1)
                have hF4058 := Fr.wA (p := 212) (j := v3900.toInt) (v := a1) hF4056 rfl
                refine r_goto ?_
                refine At.enter rfl ?_
                refine q_iinc (w_p1 (by decide) (Or.inr rfl) (w_p1 (by decide) (Or.inr rfl) (w_p1 (by decide) (Or.inr rfl) (w_p1 (by decide) (Or.inr rfl) (w_p1 (by decide) (Or.inr rfl) (w_p1 (by decide) (Or.inr rfl) e3892)))))) (x3882.toInt + 1) rfl (by omega) (fun v4059 hv4059 => ?_)
                refine r_goto ?_
                exact ih3888 (8 - v4059.toInt) _ _ ⟨v4059, by first | rfl | omega, hI4057, hF4058, (w_p1 (by decide) (Or.inr rfl) (w_p1 (by decide) (Or.inr rfl) (w_p1 (by decide) (Or.inr rfl) (w_p1 (by decide) (Or.inr rfl) (w_p1 (by decide) (Or.inr rfl) (w_p1 (by decide) (Or.inr rfl) (w_p1 (by decide) (Or.inr rfl) e3889))))))), (w_p1 (by decide) (Or.inr rfl) (w_p1 (by decide) (Or.inr rfl) (w_p1 (by decide) (Or.inr rfl) (w_p1 (by decide) (Or.inr rfl) (w_p1 (by decide) (Or.inr rfl) (w_p1 (by decide) (Or.inr rfl) (w_p1 (by decide) (Or.inr rfl) e3890))))))), (w_p1 (by decide) (Or.inr rfl) (w_p1 (by decide) (Or.inr rfl) (w_p1 (by decide) (Or.inr rfl) (w_p1 (by decide) (Or.inr rfl) (w_p1 (by decide) (Or.inr rfl) (w_p1 (by decide) (Or.inr rfl) (w_p1 (by decide) (Or.inr rfl) e3891))))))), (w_e1 _ _ _), by omega⟩ ⟨by omega, by omega⟩

def F_X1_begin_204 : List (Nat × Nat) := []
def A_X1_begin_204 : List Nat := [210, 211, 212, 213, 214, 215, 216]
set_option maxRecDepth 100000 in
set_option maxHeartbeats 4000000 in
theorem T_X1_begin_204 (d : Nat) {N : Nat} {g0 : List en_E} (hI0 : HI g0) : Ev (d + 2) 23 [.ref 204] (g0, N) (fun w h' => ∃ g', h' = (g', N) ∧ HI g' ∧ Fr F_X1_begin_204 A_X1_begin_204 g0 g' ∧ w = none) := by
  have hF0 : Fr F_X1_begin_204 A_X1_begin_204 g0 g0 := Fr.rf
  refine Ev.mk rfl rfl ⟨Nat.le_of_ble_eq_true rfl, Or.inr (q_rc hI0.1 kx_204 rfl)⟩ ?_
  show At _ none _ _ (0, [(0, .ref 204)], [], (_, _)) _
  refine At.enter rfl ?_
  refine r_aload_n rfl ?_
  refine q_getR (Sh.ref hI0.1 kx_204 rfl) ?_
  refine r_iconst (-1) rfl ?_
  refine q_inlS 8 rfl [.ref 211, .int (-1)] [] (Nat.le_of_ble_eq_true rfl) rfl ?_
  refine Ev.mk rfl rfl ⟨Nat.le_of_ble_eq_true rfl, Or.inl rfl⟩ ?_
  show At _ none _ _ (0, [(0, .ref 211), (1, .int (-1))], [], (_, _)) _
  refine At.enter rfl ?_
  refine r_iconst 0 rfl ?_
  refine r_istore_n ([(2, .int 0), (0, .ref 211), (1, .int (-1))]) rfl ?_
  refine r_aload_n rfl ?_
  refine r_alen (Sh.arr hI0.1 ka_211).1 (by decide) 8 (by unfold en_sz; dsimp only; rw [(Sh.arr hI0.1 ka_211).2]; rfl) ?_
  refine r_istore_n ([(3, .int 8), (2, .int 0), (0, .ref 211), (1, .int (-1))]) rfl ?_
  refine Ar.fall 5 rfl ?_
  have z_11715 : (0 : Int32).toInt = 0 := rfl
  refine w_loopI (fun n_ l_ g_ => ∃ x11703 : Int32, n_ = 8 - x11703.toInt ∧ HI g_ ∧ Fr F_X1_begin_204 A_X1_begin_204 g0 g_ ∧ en_get 0 l_ = some (.ref 211) ∧ en_get 1 l_ = some (.int (-1)) ∧ en_get 2 l_ = some (.int x11703) ∧ en_get 3 l_ = some (.int 8) ∧ (0 ≤ x11703.toInt ∧ x11703.toInt ≤ 8)) ?_ (8 - 0) ⟨0, by first | rfl | omega, hI0, hF0, rfl, rfl, rfl, rfl, by decide⟩
  rintro n11708 l11707 g11704 ⟨x11703, hm11716, hI11705, hF11706, e11710, e11711, e11712, e11713, r11714⟩ ih11709
  refine At.enter rfl ?_
  refine r_iload_n e11712 ?_
  refine r_iload_n e11713 ?_
  refine r_ics 10 rfl (fun c11717 => ?_) (fun c11717 => ?_)
  · have c11717_ : x11703.toInt ≥ 8 := en_i_ge_t c11717
    refine At.enter rfl ?_
    refine q_vret ?_
    refine At.enter rfl ?_
    refine r_aload_n rfl ?_
    refine q_getR (Sh.ref hI11705.1 kx_204 rfl) ?_
    refine r_iconst (-1) rfl ?_
    refine q_inlS 16 rfl [.ref 212, .int (-1)] [] (Nat.le_of_ble_eq_true rfl) rfl ?_
    refine Ev.mk rfl rfl ⟨Nat.le_of_ble_eq_true rfl, Or.inl rfl⟩ ?_
    show At _ none _ _ (0, [(0, .ref 212), (1, .int (-1))], [], (_, _)) _
    refine At.enter rfl ?_
    refine r_iconst 0 rfl ?_
    refine r_istore_n ([(2, .int 0), (0, .ref 212), (1, .int (-1))]) rfl ?_
    refine r_aload_n rfl ?_
    refine r_alen (Sh.arr hI11705.1 ka_212).1 (by decide) 8 (by unfold en_sz; dsimp only; rw [(Sh.arr hI11705.1 ka_212).2]; rfl) ?_
    refine r_istore_n ([(3, .int 8), (2, .int 0), (0, .ref 212), (1, .int (-1))]) rfl ?_
    refine Ar.fall 5 rfl ?_
    have z_12896 : (0 : Int32).toInt = 0 := rfl
    refine w_loopI (fun n_ l_ g_ => ∃ x12884 : Int32, n_ = 8 - x12884.toInt ∧ HI g_ ∧ Fr F_X1_begin_204 A_X1_begin_204 g0 g_ ∧ en_get 0 l_ = some (.ref 212) ∧ en_get 1 l_ = some (.int (-1)) ∧ en_get 2 l_ = some (.int x12884) ∧ en_get 3 l_ = some (.int 8) ∧ (0 ≤ x12884.toInt ∧ x12884.toInt ≤ 8)) ?_ (8 - 0) ⟨0, by first | rfl | omega, hI11705, hF11706, rfl, rfl, rfl, rfl, by decide⟩
    rintro n12889 l12888 g12885 ⟨x12884, hm12897, hI12886, hF12887, e12891, e12892, e12893, e12894, r12895⟩ ih12890
    refine At.enter rfl ?_
    refine r_iload_n e12893 ?_
    refine r_iload_n e12894 ?_
    refine r_ics 10 rfl (fun c12898 => ?_) (fun c12898 => ?_)
    · have c12898_ : x12884.toInt ≥ 8 := en_i_ge_t c12898
      refine At.enter rfl ?_
      refine q_vret ?_
      refine At.enter rfl ?_
      refine r_aload_n rfl ?_
      refine q_getR (Sh.ref hI12886.1 kx_204 rfl) ?_
      refine r_iconst 0 rfl ?_
      refine q_inlS 24 rfl [.ref 214, .int 0] [] (Nat.le_of_ble_eq_true rfl) rfl ?_
      refine Ev.mk rfl rfl ⟨Nat.le_of_ble_eq_true rfl, Or.inl rfl⟩ ?_
      show At _ none _ _ (0, [(0, .ref 214), (1, .int 0)], [], (_, _)) _
      refine At.enter rfl ?_
      refine r_iconst 0 rfl ?_
      refine r_istore_n ([(2, .int 0), (0, .ref 214), (1, .int 0)]) rfl ?_
      refine r_aload_n rfl ?_
      refine r_alen (Sh.arr hI12886.1 ka_214).1 (by decide) 8 (by unfold en_sz; dsimp only; rw [(Sh.arr hI12886.1 ka_214).2]; rfl) ?_
      refine r_istore_n ([(3, .int 8), (2, .int 0), (0, .ref 214), (1, .int 0)]) rfl ?_
      refine Ar.fall 5 rfl ?_
      have z_13485 : (0 : Int32).toInt = 0 := rfl
      refine w_loopI (fun n_ l_ g_ => ∃ x13473 : Int32, n_ = 8 - x13473.toInt ∧ HI g_ ∧ Fr F_X1_begin_204 A_X1_begin_204 g0 g_ ∧ en_get 0 l_ = some (.ref 214) ∧ en_get 1 l_ = some (.int 0) ∧ en_get 2 l_ = some (.int x13473) ∧ en_get 3 l_ = some (.int 8) ∧ (0 ≤ x13473.toInt ∧ x13473.toInt ≤ 8)) ?_ (8 - 0) ⟨0, by first | rfl | omega, hI12886, hF12887, rfl, rfl, rfl, rfl, by decide⟩
      rintro n13478 l13477 g13474 ⟨x13473, hm13486, hI13475, hF13476, e13480, e13481, e13482, e13483, r13484⟩ ih13479
      refine At.enter rfl ?_
      refine r_iload_n e13482 ?_
      refine r_iload_n e13483 ?_
      refine r_ics 10 rfl (fun c13487 => ?_) (fun c13487 => ?_)
      · have c13487_ : x13473.toInt ≥ 8 := en_i_ge_t c13487
        refine At.enter rfl ?_
        refine q_vret ?_
        refine At.enter rfl ?_
        refine r_aload_n rfl ?_
        refine q_getR (Sh.ref hI13475.1 kx_204 rfl) ?_
        refine r_iconst 0 rfl ?_
        refine q_inlS 32 rfl [.ref 213, .int 0] [] (Nat.le_of_ble_eq_true rfl) rfl ?_
        refine Ev.mk rfl rfl ⟨Nat.le_of_ble_eq_true rfl, Or.inl rfl⟩ ?_
        show At _ none _ _ (0, [(0, .ref 213), (1, .int 0)], [], (_, _)) _
        refine At.enter rfl ?_
        refine r_iconst 0 rfl ?_
        refine r_istore_n ([(2, .int 0), (0, .ref 213), (1, .int 0)]) rfl ?_
        refine r_aload_n rfl ?_
        refine r_alen (Sh.arr hI13475.1 ka_213).1 (by decide) 8 (by unfold en_sz; dsimp only; rw [(Sh.arr hI13475.1 ka_213).2]; rfl) ?_
        refine r_istore_n ([(3, .int 8), (2, .int 0), (0, .ref 213), (1, .int 0)]) rfl ?_
        refine Ar.fall 5 rfl ?_
        have z_13778 : (0 : Int32).toInt = 0 := rfl
        refine w_loopI (fun n_ l_ g_ => ∃ x13766 : Int32, n_ = 8 - x13766.toInt ∧ HI g_ ∧ Fr F_X1_begin_204 A_X1_begin_204 g0 g_ ∧ en_get 0 l_ = some (.ref 213) ∧ en_get 1 l_ = some (.int 0) ∧ en_get 2 l_ = some (.int x13766) ∧ en_get 3 l_ = some (.int 8) ∧ (0 ≤ x13766.toInt ∧ x13766.toInt ≤ 8)) ?_ (8 - 0) ⟨0, by first | rfl | omega, hI13475, hF13476, rfl, rfl, rfl, rfl, by decide⟩
        rintro n13771 l13770 g13767 ⟨x13766, hm13779, hI13768, hF13769, e13773, e13774, e13775, e13776, r13777⟩ ih13772
        refine At.enter rfl ?_
        refine r_iload_n e13775 ?_
        refine r_iload_n e13776 ?_
        refine r_ics 10 rfl (fun c13780 => ?_) (fun c13780 => ?_)
        · have c13780_ : x13766.toInt ≥ 8 := en_i_ge_t c13780
          refine At.enter rfl ?_
          refine q_vret ?_
          refine At.enter rfl ?_
          refine r_aload_n rfl ?_
          refine q_getR (Sh.ref hI13768.1 kx_204 rfl) ?_
          refine r_iconst 0 rfl ?_
          refine q_inlS 40 rfl [.ref 215, .int 0] [] (Nat.le_of_ble_eq_true rfl) rfl ?_
          refine Ev.mk rfl rfl ⟨Nat.le_of_ble_eq_true rfl, Or.inl rfl⟩ ?_
          show At _ none _ _ (0, [(0, .ref 215), (1, .int 0)], [], (_, _)) _
          refine At.enter rfl ?_
          refine r_iconst 0 rfl ?_
          refine r_istore_n ([(2, .int 0), (0, .ref 215), (1, .int 0)]) rfl ?_
          refine r_aload_n rfl ?_
          refine r_alen (Sh.arr hI13768.1 ka_215).1 (by decide) 12 (by unfold en_sz; dsimp only; rw [(Sh.arr hI13768.1 ka_215).2]; rfl) ?_
          refine r_istore_n ([(3, .int 12), (2, .int 0), (0, .ref 215), (1, .int 0)]) rfl ?_
          refine Ar.fall 5 rfl ?_
          have z_13929 : (0 : Int32).toInt = 0 := rfl
          refine w_loopI (fun n_ l_ g_ => ∃ x13917 : Int32, n_ = 12 - x13917.toInt ∧ HI g_ ∧ Fr F_X1_begin_204 A_X1_begin_204 g0 g_ ∧ en_get 0 l_ = some (.ref 215) ∧ en_get 1 l_ = some (.int 0) ∧ en_get 2 l_ = some (.int x13917) ∧ en_get 3 l_ = some (.int 12) ∧ (0 ≤ x13917.toInt ∧ x13917.toInt ≤ 12)) ?_ (12 - 0) ⟨0, by first | rfl | omega, hI13768, hF13769, rfl, rfl, rfl, rfl, by decide⟩
          rintro n13922 l13921 g13918 ⟨x13917, hm13930, hI13919, hF13920, e13924, e13925, e13926, e13927, r13928⟩ ih13923
          refine At.enter rfl ?_
          refine r_iload_n e13926 ?_
          refine r_iload_n e13927 ?_
          refine r_ics 10 rfl (fun c13931 => ?_) (fun c13931 => ?_)
          · have c13931_ : x13917.toInt ≥ 12 := en_i_ge_t c13931
            refine At.enter rfl ?_
            refine q_vret ?_
            refine At.enter rfl ?_
            refine r_aload_n rfl ?_
            refine q_getR (Sh.ref hI13919.1 kx_204 rfl) ?_
            refine r_iconst 0 rfl ?_
            refine q_inlS 48 rfl [.ref 216, .int 0] [] (Nat.le_of_ble_eq_true rfl) rfl ?_
            refine Ev.mk rfl rfl ⟨Nat.le_of_ble_eq_true rfl, Or.inl rfl⟩ ?_
            show At _ none _ _ (0, [(0, .ref 216), (1, .int 0)], [], (_, _)) _
            refine At.enter rfl ?_
            refine r_iconst 0 rfl ?_
            refine r_istore_n ([(2, .int 0), (0, .ref 216), (1, .int 0)]) rfl ?_
            refine r_aload_n rfl ?_
            refine r_alen (Sh.arr hI13919.1 ka_216).1 (by decide) 12 (by unfold en_sz; dsimp only; rw [(Sh.arr hI13919.1 ka_216).2]; rfl) ?_
            refine r_istore_n ([(3, .int 12), (2, .int 0), (0, .ref 216), (1, .int 0)]) rfl ?_
            refine Ar.fall 5 rfl ?_
            have z_14003 : (0 : Int32).toInt = 0 := rfl
            refine w_loopI (fun n_ l_ g_ => ∃ x13991 : Int32, n_ = 12 - x13991.toInt ∧ HI g_ ∧ Fr F_X1_begin_204 A_X1_begin_204 g0 g_ ∧ en_get 0 l_ = some (.ref 216) ∧ en_get 1 l_ = some (.int 0) ∧ en_get 2 l_ = some (.int x13991) ∧ en_get 3 l_ = some (.int 12) ∧ (0 ≤ x13991.toInt ∧ x13991.toInt ≤ 12)) ?_ (12 - 0) ⟨0, by first | rfl | omega, hI13919, hF13920, rfl, rfl, rfl, rfl, by decide⟩
            rintro n13996 l13995 g13992 ⟨x13991, hm14004, hI13993, hF13994, e13998, e13999, e14000, e14001, r14002⟩ ih13997
            refine At.enter rfl ?_
            refine r_iload_n e14000 ?_
            refine r_iload_n e14001 ?_
            refine r_ics 10 rfl (fun c14005 => ?_) (fun c14005 => ?_)
            · have c14005_ : x13991.toInt ≥ 12 := en_i_ge_t c14005
              refine At.enter rfl ?_
              refine q_vret ?_
              refine At.enter rfl ?_
              refine r_aload_n rfl ?_
              refine q_getR (Sh.ref hI13993.1 kx_204 rfl) ?_
              refine r_iconst 0 rfl ?_
              refine r_aload_n rfl ?_
              refine q_getR (Sh.ref hI13993.1 kx_204 rfl) ?_
              refine r_iconst 0 rfl ?_
              refine r_bipush 8 rfl ?_
              have zv14006 : (0 : Int32).toInt = 0 := rfl
              have zv14007 : (0 : Int32).toInt = 0 := rfl
              have zv14008 : (8 : Int32).toInt = 8 := rfl
              refine q_cpy rfl (Nat.le_of_ble_eq_true rfl) (Sh.arr hI13993.1 ka_209) (Sh.arr hI13993.1 ka_210) ⟨by omega, by omega, by omega, by omega, by omega⟩ ?_
              have hI14009 := HI.cpy0 hI13993 ka_209 ka_210 rfl rfl ((0 : Int32).toInt.toNat) ((0 : Int32).toInt.toNat) ((8 : Int32).toInt.toNat) (by omega) (by omega)
              have hF14010 := Fr.cpy (p0 := 209) (p1 := 210) hF13994 rfl ((0 : Int32).toInt.toNat) ((0 : Int32).toInt.toNat) ((8 : Int32).toInt.toNat)
              refine r_vret ?_
              exact ⟨_, rfl, hI14009, hF14010, rfl⟩
            · have c14005_ : x13991.toInt < 12 := en_i_ge_f c14005
              refine At.enter rfl ?_
              refine r_aload_n e13998 ?_
              refine r_iload_n e14000 ?_
              refine r_iload_n e13999 ?_
              refine q_iast (Sh.arr hI13993.1 ka_216) (x13991.toInt) rfl (by omega) ?_
              have hI14011 := HI.wA0 hI13993 ka_216 (p := 216) rfl rfl (x13991.toInt) (0)
              have hF14012 := Fr.wA (p := 216) (j := x13991.toInt) (v := 0) hF13994 rfl
              refine q_iinc e14000 (x13991.toInt + 1) rfl (by omega) (fun v14013 hv14013 => ?_)
              refine r_goto ?_
              exact ih13997 (12 - v14013.toInt) _ _ ⟨v14013, by first | rfl | omega, hI14011, hF14012, (w_p1 (by decide) (Or.inr rfl) e13998), (w_p1 (by decide) (Or.inr rfl) e13999), (w_e1 _ _ _), (w_p1 (by decide) (Or.inr rfl) e14001), by omega⟩ ⟨by omega, by omega⟩
          · have c13931_ : x13917.toInt < 12 := en_i_ge_f c13931
            refine At.enter rfl ?_
            refine r_aload_n e13924 ?_
            refine r_iload_n e13926 ?_
            refine r_iload_n e13925 ?_
            refine q_iast (Sh.arr hI13919.1 ka_215) (x13917.toInt) rfl (by omega) ?_
            have hI14014 := HI.wA0 hI13919 ka_215 (p := 215) rfl rfl (x13917.toInt) (0)
            have hF14015 := Fr.wA (p := 215) (j := x13917.toInt) (v := 0) hF13920 rfl
            refine q_iinc e13926 (x13917.toInt + 1) rfl (by omega) (fun v14016 hv14016 => ?_)
            refine r_goto ?_
            exact ih13923 (12 - v14016.toInt) _ _ ⟨v14016, by first | rfl | omega, hI14014, hF14015, (w_p1 (by decide) (Or.inr rfl) e13924), (w_p1 (by decide) (Or.inr rfl) e13925), (w_e1 _ _ _), (w_p1 (by decide) (Or.inr rfl) e13927), by omega⟩ ⟨by omega, by omega⟩
        · have c13780_ : x13766.toInt < 8 := en_i_ge_f c13780
          refine At.enter rfl ?_
          refine r_aload_n e13773 ?_
          refine r_iload_n e13775 ?_
          refine r_iload_n e13774 ?_
          refine q_iast (Sh.arr hI13768.1 ka_213) (x13766.toInt) rfl (by omega) ?_
          have hI14017 := HI.wA0 hI13768 ka_213 (p := 213) rfl rfl (x13766.toInt) (0)
          have hF14018 := Fr.wA (p := 213) (j := x13766.toInt) (v := 0) hF13769 rfl
          refine q_iinc e13775 (x13766.toInt + 1) rfl (by omega) (fun v14019 hv14019 => ?_)
          refine r_goto ?_
          exact ih13772 (8 - v14019.toInt) _ _ ⟨v14019, by first | rfl | omega, hI14017, hF14018, (w_p1 (by decide) (Or.inr rfl) e13773), (w_p1 (by decide) (Or.inr rfl) e13774), (w_e1 _ _ _), (w_p1 (by decide) (Or.inr rfl) e13776), by omega⟩ ⟨by omega, by omega⟩
      · have c13487_ : x13473.toInt < 8 := en_i_ge_f c13487
        refine At.enter rfl ?_
        refine r_aload_n e13480 ?_
        refine r_iload_n e13482 ?_
        refine r_iload_n e13481 ?_
        refine q_iast (Sh.arr hI13475.1 ka_214) (x13473.toInt) rfl (by omega) ?_
        have hI14020 := HI.wA0 hI13475 ka_214 (p := 214) rfl rfl (x13473.toInt) (0)
        have hF14021 := Fr.wA (p := 214) (j := x13473.toInt) (v := 0) hF13476 rfl
        refine q_iinc e13482 (x13473.toInt + 1) rfl (by omega) (fun v14022 hv14022 => ?_)
        refine r_goto ?_
        exact ih13479 (8 - v14022.toInt) _ _ ⟨v14022, by first | rfl | omega, hI14020, hF14021, (w_p1 (by decide) (Or.inr rfl) e13480), (w_p1 (by decide) (Or.inr rfl) e13481), (w_e1 _ _ _), (w_p1 (by decide) (Or.inr rfl) e13483), by omega⟩ ⟨by omega, by omega⟩
    · have c12898_ : x12884.toInt < 8 := en_i_ge_f c12898
      refine At.enter rfl ?_
      refine r_aload_n e12891 ?_
      refine r_iload_n e12893 ?_
      refine r_iload_n e12892 ?_
      refine q_iast (Sh.arr hI12886.1 ka_212) (x12884.toInt) rfl (by omega) ?_
      have hI14023 := HI.wA0 hI12886 ka_212 (p := 212) rfl rfl (x12884.toInt) ((-1))
      have hF14024 := Fr.wA (p := 212) (j := x12884.toInt) (v := (-1)) hF12887 rfl
      refine q_iinc e12893 (x12884.toInt + 1) rfl (by omega) (fun v14025 hv14025 => ?_)
      refine r_goto ?_
      exact ih12890 (8 - v14025.toInt) _ _ ⟨v14025, by first | rfl | omega, hI14023, hF14024, (w_p1 (by decide) (Or.inr rfl) e12891), (w_p1 (by decide) (Or.inr rfl) e12892), (w_e1 _ _ _), (w_p1 (by decide) (Or.inr rfl) e12894), by omega⟩ ⟨by omega, by omega⟩
  · have c11717_ : x11703.toInt < 8 := en_i_ge_f c11717
    refine At.enter rfl ?_
    refine r_aload_n e11710 ?_
    refine r_iload_n e11712 ?_
    refine r_iload_n e11711 ?_
    refine q_iast (Sh.arr hI11705.1 ka_211) (x11703.toInt) rfl (by omega) ?_
    have hI14026 := HI.wA0 hI11705 ka_211 (p := 211) rfl rfl (x11703.toInt) ((-1))
    have hF14027 := Fr.wA (p := 211) (j := x11703.toInt) (v := (-1)) hF11706 rfl
    refine q_iinc e11712 (x11703.toInt + 1) rfl (by omega) (fun v14028 hv14028 => ?_)
    refine r_goto ?_
    exact ih11709 (8 - v14028.toInt) _ _ ⟨v14028, by first | rfl | omega, hI14026, hF14027, (w_p1 (by decide) (Or.inr rfl) e11710), (w_p1 (by decide) (Or.inr rfl) e11711), (w_e1 _ _ _), (w_p1 (by decide) (Or.inr rfl) e11713), by omega⟩ ⟨by omega, by omega⟩

def F_X1_runWhole_204 : List (Nat × Nat) := [(185, 3), (204, 16), (204, 18)]
def A_X1_runWhole_204 : List Nat := [210, 211, 212, 213, 214, 215, 216, 218, 219]
set_option maxRecDepth 100000 in
set_option maxHeartbeats 4000000 in
theorem T_X1_runWhole_204 (d : Nat) {N : Nat} {g0 : List en_E} (hI0 : HI g0) : Ev (d + 5) 18 [.ref 204] (g0, N) (fun w h' => ∃ g', h' = (g', N) ∧ HI g' ∧ Fr F_X1_runWhole_204 A_X1_runWhole_204 g0 g' ∧ w = none) := by
  have hF0 : Fr F_X1_runWhole_204 A_X1_runWhole_204 g0 g0 := Fr.rf
  refine Ev.mk rfl rfl ⟨Nat.le_of_ble_eq_true rfl, Or.inr (q_rc hI0.1 kx_204 rfl)⟩ ?_
  show At _ none _ _ (0, [(0, .ref 204)], [], (_, _)) _
  refine At.enter rfl ?_
  refine r_aload_n rfl ?_
  refine r_callV 4 rfl [.ref 204] [] (Nat.le_of_ble_eq_true rfl) rfl (T_X1_begin_204 _ hI0) ?_
  rintro _ _ ⟨g843, rfl, hI844, hF845, rfl⟩
  refine At.stn ?_
  have hF848 := Fr.tr hF0 hF845 rfl rfl
  refine At.enter rfl ?_
  refine r_iconst 0 rfl ?_
  refine r_istore_n ([(1, .int 0), (0, .ref 204)]) rfl ?_
  refine Ar.fall 6 rfl ?_
  have z_1237 : (0 : Int32).toInt = 0 := rfl
  refine w_loopI (fun n_ l_ g_ => ∃ x1227 : Int32, n_ = 100 - x1227.toInt ∧ HI g_ ∧ Fr F_X1_runWhole_204 A_X1_runWhole_204 g0 g_ ∧ en_get 0 l_ = some (.ref 204) ∧ en_get 1 l_ = some (.int x1227) ∧ (0 ≤ x1227.toInt ∧ x1227.toInt ≤ 100)) ?_ (100 - 0) ⟨0, by first | rfl | omega, hI844, hF848, rfl, rfl, by decide⟩
  rintro n1232 l1231 g1228 ⟨x1227, hm1238, hI1229, hF1230, e1234, e1235, r1236⟩ ih1233
  refine At.enter rfl ?_
  refine r_iload_n e1235 ?_
  refine r_bipush 100 rfl ?_
  refine r_ics 12 rfl (fun c1239 => ?_) (fun c1239 => ?_)
  · have c1239_ : x1227.toInt ≥ 100 := en_i_ge_t c1239
    refine At.enter rfl ?_
    refine r_vret ?_
    exact ⟨_, rfl, hI1229, hF1230, rfl⟩
  · have c1239_ : x1227.toInt < 100 := en_i_ge_f c1239
    refine At.enter rfl ?_
    refine r_aload_n e1234 ?_
    refine r_iload_n e1235 ?_
    refine r_callV 17 rfl [.ref 204, .int x1227] [] (Nat.le_of_ble_eq_true rfl) rfl (T_X1_arrive_204 _ hI1229 x1227) ?_
    rintro _ _ ⟨g1240, rfl, hI1241, hF1242, rfl⟩
    refine At.stn ?_
    have hF1245 := Fr.tr hF1230 hF1242 rfl rfl
    refine At.enter rfl ?_
    refine r_aload_n e1234 ?_
    refine r_iload_n e1235 ?_
    refine r_callV 22 rfl [.ref 204, .int x1227] [] (Nat.le_of_ble_eq_true rfl) rfl (T_X1_lineUp_204 _ hI1241 x1227) ?_
    rintro _ _ ⟨g1246, rfl, hI1247, hF1248, rfl⟩
    refine At.stn ?_
    have hF1251 := Fr.tr hF1245 hF1248 rfl rfl
    refine At.enter rfl ?_
    refine r_aload_n e1234 ?_
    refine r_iload_n e1235 ?_
    refine r_callV 27 rfl [.ref 204, .int x1227] [] (Nat.le_of_ble_eq_true rfl) rfl (T_X1_goOn_204 _ hI1247 x1227) ?_
    rintro _ _ ⟨g1252, rfl, hI1253, hF1254, rfl⟩
    refine At.stn ?_
    have hF1257 := Fr.tr hF1251 hF1254 rfl rfl
    refine At.enter rfl ?_
    refine r_aload_n e1234 ?_
    refine q_getR (Sh.ref hI1253.1 kx_204 rfl) ?_
    refine r_iconst 0 rfl ?_
    refine r_aload_n e1234 ?_
    refine q_getR (Sh.ref hI1253.1 kx_204 rfl) ?_
    refine r_iload_n e1235 ?_
    refine r_bipush 8 rfl ?_
    refine q_imul (x1227.toInt * 8) rfl (by omega) (fun v1258 hv1258 => ?_)
    refine r_bipush 8 rfl ?_
    have zv1259 : (0 : Int32).toInt = 0 := rfl
    have zv1260 : (8 : Int32).toInt = 8 := rfl
    refine q_cpy rfl (Nat.le_of_ble_eq_true rfl) (Sh.arr hI1253.1 ka_211) (Sh.arr hI1253.1 ka_219) ⟨by omega, by omega, by omega, by omega, by omega⟩ ?_
    have hI1261 := HI.cpy0 hI1253 ka_211 ka_219 rfl rfl ((0 : Int32).toInt.toNat) ((v1258 : Int32).toInt.toNat) ((8 : Int32).toInt.toNat) (by omega) (by omega)
    have hF1262 := Fr.cpy (p0 := 211) (p1 := 219) hF1257 rfl ((0 : Int32).toInt.toNat) ((v1258 : Int32).toInt.toNat) ((8 : Int32).toInt.toNat)
    refine q_iinc e1235 (x1227.toInt + 1) rfl (by omega) (fun v1263 hv1263 => ?_)
    refine r_goto ?_
    exact ih1233 (100 - v1263.toInt) _ _ ⟨v1263, by first | rfl | omega, hI1261, hF1262, (w_p1 (by decide) (Or.inr rfl) e1234), (w_e1 _ _ _), by omega⟩ ⟨by omega, by omega⟩

def F_X1_comeByNoon_204 : List (Nat × Nat) := []
def A_X1_comeByNoon_204 : List Nat := []
set_option maxRecDepth 100000 in
set_option maxHeartbeats 4000000 in
theorem T_X1_comeByNoon_204 (d : Nat) {N : Nat} {g0 : List en_E} (hI0 : HI g0) : Ev (d + 1) 32 [.ref 204] (g0, N) (fun w h' => ∃ g', h' = (g', N) ∧ HI g' ∧ Fr F_X1_comeByNoon_204 A_X1_comeByNoon_204 g0 g' ∧ ∃ r : Int32, w = some (.int r) ∧ True) := by
  have hF0 : Fr F_X1_comeByNoon_204 A_X1_comeByNoon_204 g0 g0 := Fr.rf
  refine Ev.mk rfl rfl ⟨Nat.le_of_ble_eq_true rfl, Or.inr (q_rc hI0.1 kx_204 rfl)⟩ ?_
  show At _ none _ _ (0, [(0, .ref 204)], [], (_, _)) _
  refine At.enter rfl ?_
  refine r_iconst 0 rfl ?_
  refine r_istore_n ([(1, .int 0), (0, .ref 204)]) rfl ?_
  refine r_iconst 0 rfl ?_
  refine r_istore_n ([(2, .int 0), (1, .int 0), (0, .ref 204)]) rfl ?_
  refine Ar.fall 4 rfl ?_
  have z_1193 : (0 : Int32).toInt = 0 := rfl
  have z_1194 : (0 : Int32).toInt = 0 := rfl
  refine w_loopI (fun n_ l_ g_ => ∃ x1181 : Int32, ∃ x1182 : Int32, n_ = 8 - x1182.toInt ∧ HI g_ ∧ Fr F_X1_comeByNoon_204 A_X1_comeByNoon_204 g0 g_ ∧ en_get 0 l_ = some (.ref 204) ∧ en_get 1 l_ = some (.int x1181) ∧ en_get 2 l_ = some (.int x1182) ∧ (0 ≤ x1182.toInt ∧ x1182.toInt ≤ 8)) ?_ (8 - 0) ⟨0, 0, by first | rfl | omega, hI0, hF0, rfl, rfl, rfl, by decide⟩
  rintro n1187 l1186 g1183 ⟨x1181, x1182, hm1195, hI1184, hF1185, e1189, e1190, e1191, r1192⟩ ih1188
  refine At.enter rfl ?_
  refine r_iload_n e1191 ?_
  refine r_aload_n e1189 ?_
  refine q_getR (Sh.ref hI1184.1 kx_204 rfl) ?_
  obtain ⟨v1196, hv1196⟩ : ∃ v, gI g0 1 4 = v := ⟨_, rfl⟩
  have rv1196 := RgF.at hI0.2.1 (p := 1) (b := 4) rfl
  rw [hv1196] at rv1196
  dsimp only at rv1196
  refine q_getI (Sh.int hI1184.1 kx_1 rfl) v1196 ((hF1185.1 1 4 (by decide)).trans hv1196) ?_
  have bv1198 := q_bnd x1182
  have bv1199 := q_bnd v1196
  refine r_ics 15 rfl (fun c1197 => ?_) (fun c1197 => ?_)
  · have c1197_ : x1182.toInt ≥ v1196.toInt := en_i_ge_t c1197
    refine At.enter rfl ?_
    refine r_iload_n e1190 ?_
    refine r_ireti ?_
    exact ⟨_, rfl, hI1184, hF1185, _, rfl, trivial⟩
  · have c1197_ : x1182.toInt < v1196.toInt := en_i_ge_f c1197
    refine At.enter rfl ?_
    refine r_aload_n e1189 ?_
    refine q_getR (Sh.ref hI1184.1 kx_204 rfl) ?_
    refine r_iload_n e1191 ?_
    obtain ⟨v1200, hv1200⟩ : ∃ v, eA g0 212 x1182.toInt = v := ⟨_, rfl⟩
    refine q_iald (Sh.arr hI1184.1 ka_212) x1182.toInt rfl (by omega) v1200 ((eA_c (hF1185.2.1 212 (by decide))).trans hv1200) ?_
    refine r_iconst (-1) rfl ?_
    refine r_ics 25 rfl (fun c1201 => ?_) (fun c1201 => ?_)
    · have c1201_ : v1200.toInt = (-1) := en_i_eq_t c1201
      refine At.enter rfl ?_
      refine q_iinc e1191 (x1182.toInt + 1) rfl (by omega) (fun v1202 hv1202 => ?_)
      refine r_goto ?_
      have bv1203 := q_bnd x1181
      exact ih1188 (8 - v1202.toInt) _ _ ⟨x1181, v1202, by first | rfl | omega, hI1184, hF1185, (w_p1 (by decide) (Or.inr rfl) e1189), (w_p1 (by decide) (Or.inr rfl) e1190), (w_e1 _ _ _), by omega⟩ ⟨by omega, by omega⟩
    · have c1201_ : v1200.toInt ≠ (-1) := en_i_eq_f c1201
      refine At.enter rfl ?_
      refine r_aload_n e1189 ?_
      refine q_getR (Sh.ref hI1184.1 kx_204 rfl) ?_
      refine r_iload_n e1191 ?_
      refine q_iald (Sh.arr hI1184.1 ka_212) x1182.toInt rfl (by omega) v1200 ((eA_c (hF1185.2.1 212 (by decide))).trans hv1200) ?_
      refine r_aload_n e1189 ?_
      refine q_getR (Sh.ref hI1184.1 kx_204 rfl) ?_
      obtain ⟨v1204, hv1204⟩ : ∃ v, gI g0 1 10 = v := ⟨_, rfl⟩
      refine q_getI (Sh.int hI1184.1 kx_1 rfl) v1204 ((hF1185.1 1 10 (by decide)).trans hv1204) ?_
      have bv1206 := q_bnd v1200
      have bv1207 := q_bnd v1204
      refine r_ics 41 rfl (fun c1205 => ?_) (fun c1205 => ?_)
      · have c1205_ : v1200.toInt > v1204.toInt := en_i_gt_t c1205
        refine At.enter rfl ?_
        refine q_iinc e1191 (x1182.toInt + 1) rfl (by omega) (fun v1208 hv1208 => ?_)
        refine r_goto ?_
        have bv1209 := q_bnd x1181
        exact ih1188 (8 - v1208.toInt) _ _ ⟨x1181, v1208, by first | rfl | omega, hI1184, hF1185, (w_p1 (by decide) (Or.inr rfl) e1189), (w_p1 (by decide) (Or.inr rfl) e1190), (w_e1 _ _ _), by omega⟩ ⟨by omega, by omega⟩
      · have c1205_ : v1200.toInt ≤ v1204.toInt := en_i_gt_f c1205
        refine At.enter rfl ?_
        refine q_iincO e1190 (fun v1210 _ => ?_)
        refine Ar.fall 44 rfl ?_
        refine At.enter rfl ?_
        refine q_iinc (w_p1 (by decide) (Or.inr rfl) e1191) (x1182.toInt + 1) rfl (by omega) (fun v1211 hv1211 => ?_)
        refine r_goto ?_
        have bv1212 := q_bnd v1210
        exact ih1188 (8 - v1211.toInt) _ _ ⟨v1210, v1211, by first | rfl | omega, hI1184, hF1185, (w_p1 (by decide) (Or.inr rfl) (w_p1 (by decide) (Or.inr rfl) e1189)), (w_p1 (by decide) (Or.inr rfl) (w_e1 _ _ _)), (w_e1 _ _ _), by omega⟩ ⟨by omega, by omega⟩

def F_X1_failures_204 : List (Nat × Nat) := []
def A_X1_failures_204 : List Nat := []
set_option maxRecDepth 100000 in
set_option maxHeartbeats 4000000 in
theorem T_X1_failures_204 (d : Nat) {N : Nat} {g0 : List en_E} (hI0 : HI g0) : Ev (d + 1) 33 [.ref 204] (g0, N) (fun w h' => ∃ g', h' = (g', N) ∧ HI g' ∧ Fr F_X1_failures_204 A_X1_failures_204 g0 g' ∧ ∃ r : Int32, w = some (.int r) ∧ True) := by
  have hF0 : Fr F_X1_failures_204 A_X1_failures_204 g0 g0 := Fr.rf
  refine Ev.mk rfl rfl ⟨Nat.le_of_ble_eq_true rfl, Or.inr (q_rc hI0.1 kx_204 rfl)⟩ ?_
  show At _ none _ _ (0, [(0, .ref 204)], [], (_, _)) _
  refine At.enter rfl ?_
  refine r_iconst 0 rfl ?_
  refine r_istore_n ([(1, .int 0), (0, .ref 204)]) rfl ?_
  refine r_iconst 0 rfl ?_
  refine r_istore_n ([(2, .int 0), (1, .int 0), (0, .ref 204)]) rfl ?_
  refine Ar.fall 4 rfl ?_
  have z_853 : (0 : Int32).toInt = 0 := rfl
  have z_854 : (0 : Int32).toInt = 0 := rfl
  refine w_loopI (fun n_ l_ g_ => ∃ x841 : Int32, ∃ x842 : Int32, n_ = 8 - x842.toInt ∧ HI g_ ∧ Fr F_X1_failures_204 A_X1_failures_204 g0 g_ ∧ en_get 0 l_ = some (.ref 204) ∧ en_get 1 l_ = some (.int x841) ∧ en_get 2 l_ = some (.int x842) ∧ (0 ≤ x842.toInt ∧ x842.toInt ≤ 8)) ?_ (8 - 0) ⟨0, 0, by first | rfl | omega, hI0, hF0, rfl, rfl, rfl, by decide⟩
  rintro n847 l846 g843 ⟨x841, x842, hm855, hI844, hF845, e849, e850, e851, r852⟩ ih848
  refine At.enter rfl ?_
  refine r_iload_n e851 ?_
  refine r_aload_n e849 ?_
  refine q_getR (Sh.ref hI844.1 kx_204 rfl) ?_
  obtain ⟨v856, hv856⟩ : ∃ v, gI g0 1 4 = v := ⟨_, rfl⟩
  have rv856 := RgF.at hI0.2.1 (p := 1) (b := 4) rfl
  rw [hv856] at rv856
  dsimp only at rv856
  refine q_getI (Sh.int hI844.1 kx_1 rfl) v856 ((hF845.1 1 4 (by decide)).trans hv856) ?_
  have bv858 := q_bnd x842
  have bv859 := q_bnd v856
  refine r_ics 15 rfl (fun c857 => ?_) (fun c857 => ?_)
  · have c857_ : x842.toInt ≥ v856.toInt := en_i_ge_t c857
    refine At.enter rfl ?_
    refine r_iload_n e850 ?_
    refine r_ireti ?_
    exact ⟨_, rfl, hI844, hF845, _, rfl, trivial⟩
  · have c857_ : x842.toInt < v856.toInt := en_i_ge_f c857
    refine At.enter rfl ?_
    refine r_aload_n e849 ?_
    refine q_getR (Sh.ref hI844.1 kx_204 rfl) ?_
    refine r_iload_n e851 ?_
    obtain ⟨v860, hv860⟩ : ∃ v, eA g0 212 x842.toInt = v := ⟨_, rfl⟩
    refine q_iald (Sh.arr hI844.1 ka_212) x842.toInt rfl (by omega) v860 ((eA_c (hF845.2.1 212 (by decide))).trans hv860) ?_
    refine r_iconst (-1) rfl ?_
    refine r_ics 25 rfl (fun c861 => ?_) (fun c861 => ?_)
    · have c861_ : v860.toInt ≠ (-1) := en_i_ne_t c861
      refine At.enter rfl ?_
      refine q_iinc e851 (x842.toInt + 1) rfl (by omega) (fun v862 hv862 => ?_)
      refine r_goto ?_
      have bv863 := q_bnd x841
      exact ih848 (8 - v862.toInt) _ _ ⟨x841, v862, by first | rfl | omega, hI844, hF845, (w_p1 (by decide) (Or.inr rfl) e849), (w_p1 (by decide) (Or.inr rfl) e850), (w_e1 _ _ _), by omega⟩ ⟨by omega, by omega⟩
    · have c861_ : v860.toInt = (-1) := en_i_ne_f c861
      refine At.enter rfl ?_
      refine q_iincO e850 (fun v864 _ => ?_)
      refine Ar.fall 28 rfl ?_
      refine At.enter rfl ?_
      refine q_iinc (w_p1 (by decide) (Or.inr rfl) e851) (x842.toInt + 1) rfl (by omega) (fun v865 hv865 => ?_)
      refine r_goto ?_
      have bv866 := q_bnd v864
      exact ih848 (8 - v865.toInt) _ _ ⟨v864, v865, by first | rfl | omega, hI844, hF845, (w_p1 (by decide) (Or.inr rfl) (w_p1 (by decide) (Or.inr rfl) e849)), (w_p1 (by decide) (Or.inr rfl) (w_e1 _ _ _)), (w_e1 _ _ _), by omega⟩ ⟨by omega, by omega⟩

def F_X1_isStuck_188 : List (Nat × Nat) := [(185, 3)]
def A_X1_isStuck_188 : List Nat := []
set_option maxRecDepth 100000 in
set_option maxHeartbeats 4000000 in
theorem T_X1_isStuck_188 (d : Nat) {N : Nat} {g0 : List en_E} (hI0 : HI g0) (a1 : Int32) (h_a1 : 0 ≤ a1.toInt ∧ a1.toInt ≤ 7) : Ev (d + 4) 35 [.ref 188, .int a1] (g0, N) (fun w h' => ∃ g', h' = (g', N) ∧ HI g' ∧ Fr F_X1_isStuck_188 A_X1_isStuck_188 g0 g' ∧ ∃ r : Int32, w = some (.int r) ∧ (0 ≤ r.toInt ∧ r.toInt ≤ 1)) := by
  have hF0 : Fr F_X1_isStuck_188 A_X1_isStuck_188 g0 g0 := Fr.rf
  refine Ev.mk rfl rfl ⟨Nat.le_of_ble_eq_true rfl, Or.inr (q_rc hI0.1 kx_188 rfl)⟩ ?_
  show At _ none _ _ (0, [(0, .ref 188), (1, .int a1)], [], (_, _)) _
  refine At.enter rfl ?_
  refine r_aload_n rfl ?_
  refine q_getR (Sh.ref hI0.1 kx_188 rfl) ?_
  refine r_iload_n rfl ?_
  obtain ⟨v73, hv73⟩ : ∃ v, eA g0 195 a1.toInt = v := ⟨_, rfl⟩
  refine q_iald (Sh.arr hI0.1 ka_195) a1.toInt rfl (by omega) v73 hv73 ?_
  refine r_istore_n ([(2, .int v73), (0, .ref 188), (1, .int a1)]) rfl ?_
  refine r_aload_n rfl ?_
  refine q_getR (Sh.ref hI0.1 kx_188 rfl) ?_
  refine r_iload_n rfl ?_
  refine q_inlV 15 rfl [.ref 1, .int v73] [] (Nat.le_of_ble_eq_true rfl) rfl ?_
  refine Ev.mk rfl rfl ⟨Nat.le_of_ble_eq_true rfl, Or.inr (q_rc hI0.1 kx_1 rfl)⟩ ?_
  show At _ none _ _ (0, [(0, .ref 1), (1, .int v73)], [], (_, _)) _
  refine At.enter rfl ?_
  refine r_iload_n rfl ?_
  refine r_ifs 4 rfl (fun c74 => ?_) (fun c74 => ?_)
  · have c74_ : v73.toInt < 0 := en_k_lt_t c74
    refine At.enter rfl ?_
    refine r_iconst 0 rfl ?_
    refine Ar.fall 17 rfl ?_
    refine At.enter rfl ?_
    refine q_iretz (by decide) ?_
    refine At.enter rfl ?_
    refine r_iff 18 rfl (by decide) ?_
    refine At.enter rfl ?_
    refine r_iconst 0 rfl ?_
    refine r_iretz (by decide) ?_
    exact ⟨_, rfl, hI0, hF0, _, rfl, by decide⟩
  · have c74_ : v73.toInt ≥ 0 := en_k_lt_f c74
    refine At.enter rfl ?_
    refine r_iload_n rfl ?_
    refine r_aload_n rfl ?_
    obtain ⟨v75, hv75⟩ : ∃ v, gI g0 1 0 = v := ⟨_, rfl⟩
    have rv75 := RgF.at hI0.2.1 (p := 1) (b := 0) rfl
    rw [hv75] at rv75
    dsimp only at rv75
    refine q_getI (Sh.int hI0.1 kx_1 rfl) v75 hv75 ?_
    have bv77 := q_bnd v73
    have bv78 := q_bnd v75
    refine r_ics 12 rfl (fun c76 => ?_) (fun c76 => ?_)
    · have c76_ : v73.toInt ≥ v75.toInt := en_i_ge_t c76
      refine At.enter rfl ?_
      refine r_iconst 0 rfl ?_
      refine Ar.fall 17 rfl ?_
      refine At.enter rfl ?_
      refine q_iretz (by decide) ?_
      refine At.enter rfl ?_
      refine r_iff 18 rfl (by decide) ?_
      refine At.enter rfl ?_
      refine r_iconst 0 rfl ?_
      refine r_iretz (by decide) ?_
      exact ⟨_, rfl, hI0, hF0, _, rfl, by decide⟩
    · have c76_ : v73.toInt < v75.toInt := en_i_ge_f c76
      refine At.enter rfl ?_
      refine r_iconst 1 rfl ?_
      refine r_goto ?_
      refine At.enter rfl ?_
      refine q_iretz (by decide) ?_
      refine At.enter rfl ?_
      refine r_ift (by decide) ?_
      refine At.enter rfl ?_
      refine r_aload_n rfl ?_
      refine q_getR (Sh.ref hI0.1 kx_188 rfl) ?_
      refine r_iload_n rfl ?_
      obtain ⟨v79, hv79⟩ : ∃ v, eA g0 192 v73.toInt = v := ⟨_, rfl⟩
      refine q_iald (Sh.arr hI0.1 ka_192) v73.toInt rfl (by omega) v79 hv79 ?_
      refine r_istore_n ([(3, .int v79), (2, .int v73), (0, .ref 188), (1, .int a1)]) rfl ?_
      refine r_iload_n rfl ?_
      refine r_iconst (-1) rfl ?_
      refine r_ics 32 rfl (fun c80 => ?_) (fun c80 => ?_)
      · have c80_ : v79.toInt = (-1) := en_i_eq_t c80
        refine At.enter rfl ?_
        refine r_iconst 0 rfl ?_
        refine r_iretz (by decide) ?_
        exact ⟨_, rfl, hI0, hF0, _, rfl, by decide⟩
      · have c80_ : v79.toInt ≠ (-1) := en_i_eq_f c80
        refine At.enter rfl ?_
        refine r_iload_n rfl ?_
        refine r_aload_n rfl ?_
        refine q_getR (Sh.ref hI0.1 kx_188 rfl) ?_
        refine r_iload_n rfl ?_
        refine r_iconst 2 rfl ?_
        refine r_callV 42 rfl [.ref 1, .int a1, .int 2] [.int v79] (Nat.le_of_ble_eq_true rfl) rfl (T_X0_about_1 _ hI0 a1 2) ?_
        rintro _ _ ⟨g81, rfl, hI82, hF83, v84, rfl, hr85⟩
        refine At.sti ?_
        have hF86 := Fr.tr hF0 hF83 rfl rfl
        have zv87 : (2 : Int32).toInt = 2 := rfl
        refine At.enter rfl ?_
        refine r_ics 45 rfl (fun c88 => ?_) (fun c88 => ?_)
        · have c88_ : v79.toInt = v84.toInt := en_i_eq_t c88
          refine At.enter rfl ?_
          refine r_iconst 0 rfl ?_
          refine r_iretz (by decide) ?_
          exact ⟨_, rfl, hI82, hF86, _, rfl, by decide⟩
        · have c88_ : v79.toInt ≠ v84.toInt := en_i_eq_f c88
          refine At.enter rfl ?_
          refine r_aload_n rfl ?_
          refine r_iload_n rfl ?_
          refine r_iload_n rfl ?_
          refine r_callV 51 rfl [.ref 188, .int v79, .int a1] [] (Nat.le_of_ble_eq_true rfl) rfl (T_X1_canHold_188 _ hI82 v79 a1) ?_
          rintro _ _ ⟨g89, rfl, hI90, hF91, v92, rfl, hr93⟩
          refine At.sti ?_
          have hF94 := Fr.tr hF86 hF91 rfl rfl
          refine At.enter rfl ?_
          refine r_ifs 54 rfl (fun c95 => ?_) (fun c95 => ?_)
          · have c95_ : v92.toInt = 0 := en_k_eq_t c95
            refine At.enter rfl ?_
            refine r_iconst 0 rfl ?_
            refine r_aload_n rfl ?_
            refine q_getR (Sh.ref hI90.1 kx_188 rfl) ?_
            refine r_iload_n rfl ?_
            obtain ⟨v96, hv96⟩ : ∃ v, eA g0 198 a1.toInt = v := ⟨_, rfl⟩
            refine q_iald (Sh.arr hI90.1 ka_198) a1.toInt rfl (by omega) v96 ((eA_c ((hF91.2.1 198 (by decide)).trans (hF83.2.1 198 (by decide)))).trans hv96) ?_
            refine r_iconst 1 rfl ?_
            refine q_isubO (fun v97 _ => ?_)
            refine q_mmax rfl (Nat.le_of_ble_eq_true rfl) (fun v98 hv98 => ?_)
            have zv99 : (0 : Int32).toInt = 0 := rfl
            refine r_istore ([(4, .int v98), (3, .int v79), (2, .int v73), (0, .ref 188), (1, .int a1)]) rfl ?_
            refine r_aload_n rfl ?_
            refine q_getR (Sh.ref hI90.1 kx_188 rfl) ?_
            refine r_iconst 2 rfl ?_
            refine r_iload_n rfl ?_
            refine r_iload_n rfl ?_
            refine r_bipush 99 rfl ?_
            refine r_iload rfl ?_
            refine r_aload_n rfl ?_
            refine q_getR (Sh.ref hI90.1 kx_188 rfl) ?_
            refine r_iload_n rfl ?_
            obtain ⟨v100, hv100⟩ : ∃ v, eA g0 189 v73.toInt = v := ⟨_, rfl⟩
            refine q_iald (Sh.arr hI90.1 ka_189) v73.toInt rfl (by omega) v100 ((eA_c ((hF91.2.1 189 (by decide)).trans (hF83.2.1 189 (by decide)))).trans hv100) ?_
            refine r_aload_n rfl ?_
            refine q_getR (Sh.ref hI90.1 kx_188 rfl) ?_
            refine r_iload_n rfl ?_
            obtain ⟨v101, hv101⟩ : ∃ v, eA g0 190 v73.toInt = v := ⟨_, rfl⟩
            refine q_iald (Sh.arr hI90.1 ka_190) v73.toInt rfl (by omega) v101 ((eA_c ((hF91.2.1 190 (by decide)).trans (hF83.2.1 190 (by decide)))).trans hv101) ?_
            refine r_callV 96 rfl [.ref 185, .int 2, .int a1, .int v73, .int 99, .int v98, .int v100, .int v101] [] (Nat.le_of_ble_eq_true rfl) rfl (T_X3_tells_185 _ hI90 2 a1 v73 99 v98 v100 v101) ?_
            rintro _ _ ⟨g102, rfl, hI103, hF104, v105, rfl, hr106⟩
            refine At.stl ?_
            have hF107 := Fr.tr hF94 hF104 rfl rfl
            refine At.enter rfl ?_
            refine r_lconst 0 rfl ?_
            refine r_lcmp _ rfl ?_
            refine r_ifs 101 rfl (fun c108 => ?_) (fun c108 => ?_)
            · have c108_ : v105.toInt ≠ 0 := en_j_ne_t c108
              refine At.enter rfl ?_
              refine r_iconst 0 rfl ?_
              refine Ar.fall 106 rfl ?_
              refine At.enter rfl ?_
              refine r_iretz (by decide) ?_
              exact ⟨_, rfl, hI103, hF107, _, rfl, by decide⟩
            · have c108_ : v105.toInt = 0 := en_j_ne_f c108
              refine At.enter rfl ?_
              refine r_iconst 1 rfl ?_
              refine r_goto ?_
              refine At.enter rfl ?_
              refine r_iretz (by decide) ?_
              exact ⟨_, rfl, hI103, hF107, _, rfl, by decide⟩
          · have c95_ : v92.toInt ≠ 0 := en_k_eq_f c95
            refine At.enter rfl ?_
            refine r_iconst 0 rfl ?_
            refine r_iretz (by decide) ?_
            exact ⟨_, rfl, hI90, hF94, _, rfl, by decide⟩

def F_X1_roundOf_188 : List (Nat × Nat) := []
def A_X1_roundOf_188 : List Nat := []
set_option maxRecDepth 100000 in
set_option maxHeartbeats 4000000 in
theorem T_X1_roundOf_188 (d : Nat) {N : Nat} {g0 : List en_E} (hI0 : HI g0) (a1 : Int32) (a2 : Int32) : Ev (d + 2) 36 [.ref 188, .int a1, .int a2] (g0, N) (fun w h' => ∃ g', h' = (g', N) ∧ HI g' ∧ Fr F_X1_roundOf_188 A_X1_roundOf_188 g0 g' ∧ ∃ r : Int32, w = some (.int r) ∧ True) := by
  have hF0 : Fr F_X1_roundOf_188 A_X1_roundOf_188 g0 g0 := Fr.rf
  refine Ev.mk rfl rfl ⟨Nat.le_of_ble_eq_true rfl, Or.inr (q_rc hI0.1 kx_188 rfl)⟩ ?_
  show At _ none _ _ (0, [(0, .ref 188), (1, .int a1), (2, .int a2)], [], (_, _)) _
  refine At.enter rfl ?_
  refine r_iconst 0 rfl ?_
  refine r_istore_n ([(3, .int 0), (0, .ref 188), (1, .int a1), (2, .int a2)]) rfl ?_
  refine r_iload_n rfl ?_
  refine r_istore ([(4, .int a1), (3, .int 0), (0, .ref 188), (1, .int a1), (2, .int a2)]) rfl ?_
  refine r_iconst 0 rfl ?_
  refine r_istore ([(5, .int 0), (4, .int a1), (3, .int 0), (0, .ref 188), (1, .int a1), (2, .int a2)]) rfl ?_
  refine Ar.fall 8 rfl ?_
  have z_569 : (0 : Int32).toInt = 0 := rfl
  have z_570 : (0 : Int32).toInt = 0 := rfl
  refine w_loopI (fun n_ l_ g_ => ∃ x553 : Int32, ∃ x554 : Int32, ∃ x555 : Int32, n_ = 12 - x555.toInt ∧ HI g_ ∧ Fr F_X1_roundOf_188 A_X1_roundOf_188 g0 g_ ∧ en_get 0 l_ = some (.ref 188) ∧ en_get 1 l_ = some (.int a1) ∧ en_get 2 l_ = some (.int a2) ∧ en_get 3 l_ = some (.int x553) ∧ en_get 4 l_ = some (.int x554) ∧ en_get 5 l_ = some (.int x555) ∧ (0 ≤ x555.toInt ∧ x555.toInt ≤ 12)) ?_ (12 - 0) ⟨0, a1, 0, by first | rfl | omega, hI0, hF0, rfl, rfl, rfl, rfl, rfl, rfl, by decide⟩
  rintro n560 l559 g556 ⟨x553, x554, x555, hm571, hI557, hF558, e562, e563, e564, e565, e566, e567, r568⟩ ih561
  refine At.enter rfl ?_
  refine r_iload e567 ?_
  refine r_bipush 12 rfl ?_
  refine r_ics 15 rfl (fun c572 => ?_) (fun c572 => ?_)
  · have c572_ : x555.toInt ≥ 12 := en_i_ge_t c572
    refine At.enter rfl ?_
    refine r_iconst 0 rfl ?_
    refine r_ireti ?_
    exact ⟨_, rfl, hI557, hF558, _, rfl, trivial⟩
  · have c572_ : x555.toInt < 12 := en_i_ge_f c572
    refine At.enter rfl ?_
    refine r_aload_n e562 ?_
    refine q_getR (Sh.ref hI557.1 kx_188 rfl) ?_
    refine r_iload e566 ?_
    refine q_inlV 24 rfl [.ref 1, .int x554] [] (Nat.le_of_ble_eq_true rfl) rfl ?_
    refine Ev.mk rfl rfl ⟨Nat.le_of_ble_eq_true rfl, Or.inr (q_rc hI557.1 kx_1 rfl)⟩ ?_
    show At _ none _ _ (0, [(0, .ref 1), (1, .int x554)], [], (_, _)) _
    refine At.enter rfl ?_
    refine r_iload_n rfl ?_
    refine r_ifs 4 rfl (fun c573 => ?_) (fun c573 => ?_)
    · have c573_ : x554.toInt < 0 := en_k_lt_t c573
      refine At.enter rfl ?_
      refine r_iconst 0 rfl ?_
      refine Ar.fall 17 rfl ?_
      refine At.enter rfl ?_
      refine q_iretz (by decide) ?_
      refine At.enter rfl ?_
      refine r_ift (by decide) ?_
      refine At.enter rfl ?_
      refine r_iconst 0 rfl ?_
      refine r_ireti ?_
      exact ⟨_, rfl, hI557, hF558, _, rfl, trivial⟩
    · have c573_ : x554.toInt ≥ 0 := en_k_lt_f c573
      refine At.enter rfl ?_
      refine r_iload_n rfl ?_
      refine r_aload_n rfl ?_
      obtain ⟨v574, hv574⟩ : ∃ v, gI g0 1 0 = v := ⟨_, rfl⟩
      have rv574 := RgF.at hI0.2.1 (p := 1) (b := 0) rfl
      rw [hv574] at rv574
      dsimp only at rv574
      refine q_getI (Sh.int hI557.1 kx_1 rfl) v574 ((hF558.1 1 0 (by decide)).trans hv574) ?_
      have bv576 := q_bnd x554
      have bv577 := q_bnd v574
      refine r_ics 12 rfl (fun c575 => ?_) (fun c575 => ?_)
      · have c575_ : x554.toInt ≥ v574.toInt := en_i_ge_t c575
        refine At.enter rfl ?_
        refine r_iconst 0 rfl ?_
        refine Ar.fall 17 rfl ?_
        refine At.enter rfl ?_
        refine q_iretz (by decide) ?_
        refine At.enter rfl ?_
        refine r_ift (by decide) ?_
        refine At.enter rfl ?_
        refine r_iconst 0 rfl ?_
        refine r_ireti ?_
        exact ⟨_, rfl, hI557, hF558, _, rfl, trivial⟩
      · have c575_ : x554.toInt < v574.toInt := en_i_ge_f c575
        refine At.enter rfl ?_
        refine r_iconst 1 rfl ?_
        refine r_goto ?_
        refine At.enter rfl ?_
        refine q_iretz (by decide) ?_
        refine At.enter rfl ?_
        refine r_iff 27 rfl (by decide) ?_
        refine At.enter rfl ?_
        refine r_iload_n e564 ?_
        refine r_iload e566 ?_
        refine q_inlS 33 rfl [.int a2, .int x554] [] (Nat.le_of_ble_eq_true rfl) rfl ?_
        refine Ev.mk rfl rfl ⟨Nat.le_of_ble_eq_true rfl, Or.inl rfl⟩ ?_
        show At _ none _ _ (0, [(0, .int a2), (1, .int x554)], [], (_, _)) _
        refine At.enter rfl ?_
        refine r_iload_n rfl ?_
        refine r_iload_n rfl ?_
        refine q_ishrO (fun v578 hv578 => ?_)
        refine r_iconst 1 rfl ?_
        refine q_iandO (fun v579 hv579 => ?_)
        refine r_ifs 8 rfl (fun c580 => ?_) (fun c580 => ?_)
        · have c580_ : v579.toInt = 0 := en_k_eq_t c580
          refine At.enter rfl ?_
          refine r_iconst 0 rfl ?_
          refine Ar.fall 13 rfl ?_
          refine At.enter rfl ?_
          refine q_iretz (by decide) ?_
          refine At.enter rfl ?_
          refine r_ift (by decide) ?_
          refine At.enter rfl ?_
          refine r_iconst 0 rfl ?_
          refine r_ireti ?_
          exact ⟨_, rfl, hI557, hF558, _, rfl, trivial⟩
        · have c580_ : v579.toInt ≠ 0 := en_k_eq_f c580
          refine At.enter rfl ?_
          refine r_iconst 1 rfl ?_
          refine r_goto ?_
          refine At.enter rfl ?_
          refine q_iretz (by decide) ?_
          refine At.enter rfl ?_
          refine r_iff 36 rfl (by decide) ?_
          refine At.enter rfl ?_
          refine r_iload_n e565 ?_
          refine r_iconst 1 rfl ?_
          refine r_iload e566 ?_
          refine q_ishlO (fun v581 hv581 => ?_)
          refine q_iorO (fun v582 hv582 => ?_)
          refine r_istore_n _ rfl ?_
          refine r_aload_n (w_p1 (by decide) (Or.inr rfl) e562) ?_
          refine q_getR (Sh.ref hI557.1 kx_188 rfl) ?_
          refine r_iload (w_p1 (by decide) (Or.inr rfl) e566) ?_
          obtain ⟨v583, hv583⟩ : ∃ v, eA g0 192 x554.toInt = v := ⟨_, rfl⟩
          refine q_iald (Sh.arr hI557.1 ka_192) x554.toInt rfl (by omega) v583 ((eA_c (hF558.2.1 192 (by decide))).trans hv583) ?_
          refine r_istore _ rfl ?_
          refine r_iload (w_e1 _ _ _) ?_
          refine r_iload_n (w_p1 (by decide) (Or.inr rfl) (w_p1 (by decide) (Or.inr rfl) e563)) ?_
          refine r_ics 58 rfl (fun c584 => ?_) (fun c584 => ?_)
          · have c584_ : v583.toInt ≠ a1.toInt := en_i_ne_t c584
            refine At.enter rfl ?_
            refine q_iinc (w_p1 (by decide) (Or.inr rfl) (w_p1 (by decide) (Or.inr rfl) e567)) (x555.toInt + 1) rfl (by omega) (fun v585 hv585 => ?_)
            refine r_goto ?_
            have bv586 := q_bnd v582
            have bv587 := q_bnd v583
            exact ih561 (12 - v585.toInt) _ _ ⟨v582, v583, v585, by first | rfl | omega, hI557, hF558, (w_p1 (by decide) (Or.inr rfl) (w_p1 (by decide) (Or.inr rfl) (w_p1 (by decide) (Or.inr rfl) e562))), (w_p1 (by decide) (Or.inr rfl) (w_p1 (by decide) (Or.inr rfl) (w_p1 (by decide) (Or.inr rfl) e563))), (w_p1 (by decide) (Or.inr rfl) (w_p1 (by decide) (Or.inr rfl) (w_p1 (by decide) (Or.inr rfl) e564))), (w_p1 (by decide) (Or.inr rfl) (w_p1 (by decide) (Or.inr rfl) (w_e1 _ _ _))), (w_p1 (by decide) (Or.inr rfl) (w_e1 _ _ _)), (w_e1 _ _ _), by omega⟩ ⟨by omega, by omega⟩
          · have c584_ : v583.toInt = a1.toInt := en_i_ne_f c584
            refine At.enter rfl ?_
            refine r_iload_n (w_p1 (by decide) (Or.inr rfl) (w_e1 _ _ _)) ?_
            refine r_ireti ?_
            exact ⟨_, rfl, hI557, hF558, _, rfl, trivial⟩

def F_X1_chokingRound_188 : List (Nat × Nat) := [(185, 3)]
def A_X1_chokingRound_188 : List Nat := []
set_option maxRecDepth 100000 in
set_option maxHeartbeats 4000000 in
theorem T_X1_chokingRound_188 (d : Nat) {N : Nat} {g0 : List en_E} (hI0 : HI g0) : Ev (d + 5) 34 [.ref 188] (g0, N) (fun w h' => ∃ g', h' = (g', N) ∧ HI g' ∧ Fr F_X1_chokingRound_188 A_X1_chokingRound_188 g0 g' ∧ ∃ r : Int32, w = some (.int r) ∧ True) := by
  have hF0 : Fr F_X1_chokingRound_188 A_X1_chokingRound_188 g0 g0 := Fr.rf
  refine Ev.mk rfl rfl ⟨Nat.le_of_ble_eq_true rfl, Or.inr (q_rc hI0.1 kx_188 rfl)⟩ ?_
  show At _ none _ _ (0, [(0, .ref 188)], [], (_, _)) _
  refine At.enter rfl ?_
  refine r_iconst 0 rfl ?_
  refine r_istore_n ([(1, .int 0), (0, .ref 188)]) rfl ?_
  refine r_iconst 0 rfl ?_
  refine r_istore_n ([(2, .int 0), (1, .int 0), (0, .ref 188)]) rfl ?_
  refine Ar.fall 4 rfl ?_
  have z_3947 : (0 : Int32).toInt = 0 := rfl
  have z_3948 : (0 : Int32).toInt = 0 := rfl
  refine w_loopI (fun n_ l_ g_ => ∃ x3935 : Int32, ∃ x3936 : Int32, n_ = 8 - x3936.toInt ∧ HI g_ ∧ Fr F_X1_chokingRound_188 A_X1_chokingRound_188 g0 g_ ∧ en_get 0 l_ = some (.ref 188) ∧ en_get 1 l_ = some (.int x3935) ∧ en_get 2 l_ = some (.int x3936) ∧ (0 ≤ x3936.toInt ∧ x3936.toInt ≤ 8)) ?_ (8 - 0) ⟨0, 0, by first | rfl | omega, hI0, hF0, rfl, rfl, rfl, by decide⟩
  rintro n3941 l3940 g3937 ⟨x3935, x3936, hm3949, hI3938, hF3939, e3943, e3944, e3945, r3946⟩ ih3942
  refine At.enter rfl ?_
  refine r_iload_n e3945 ?_
  refine r_aload_n e3943 ?_
  refine q_getR (Sh.ref hI3938.1 kx_188 rfl) ?_
  obtain ⟨v3950, hv3950⟩ : ∃ v, gI g0 1 4 = v := ⟨_, rfl⟩
  have rv3950 := RgF.at hI0.2.1 (p := 1) (b := 4) rfl
  rw [hv3950] at rv3950
  dsimp only at rv3950
  refine q_getI (Sh.int hI3938.1 kx_1 rfl) v3950 ((hF3939.1 1 4 (by decide)).trans hv3950) ?_
  have bv3952 := q_bnd x3936
  have bv3953 := q_bnd v3950
  refine r_ics 15 rfl (fun c3951 => ?_) (fun c3951 => ?_)
  · have c3951_ : x3936.toInt ≥ v3950.toInt := en_i_ge_t c3951
    refine At.enter rfl ?_
    refine r_iconst 0 rfl ?_
    refine r_istore_n _ rfl ?_
    refine Ar.fall 42 rfl ?_
    have z_4091 : (0 : Int32).toInt = 0 := rfl
    refine w_loopI (fun n_ l_ g_ => ∃ x4080 : Int32, n_ = 12 - x4080.toInt ∧ HI g_ ∧ Fr F_X1_chokingRound_188 A_X1_chokingRound_188 g0 g_ ∧ en_get 0 l_ = some (.ref 188) ∧ en_get 1 l_ = some (.int x3935) ∧ en_get 2 l_ = some (.int x4080) ∧ (0 ≤ x4080.toInt ∧ x4080.toInt ≤ 12)) ?_ (12 - 0) ⟨0, by first | rfl | omega, hI3938, hF3939, (w_p1 (by decide) (Or.inr rfl) e3943), (w_p1 (by decide) (Or.inr rfl) e3944), (w_e1 _ _ _), by decide⟩
    rintro n4085 l4084 g4081 ⟨x4080, hm4092, hI4082, hF4083, e4087, e4088, e4089, r4090⟩ ih4086
    refine At.enter rfl ?_
    refine r_iload_n e4089 ?_
    refine r_aload_n e4087 ?_
    refine q_getR (Sh.ref hI4082.1 kx_188 rfl) ?_
    obtain ⟨v4093, hv4093⟩ : ∃ v, gI g0 1 0 = v := ⟨_, rfl⟩
    have rv4093 := RgF.at hI0.2.1 (p := 1) (b := 0) rfl
    rw [hv4093] at rv4093
    dsimp only at rv4093
    refine q_getI (Sh.int hI4082.1 kx_1 rfl) v4093 ((hF4083.1 1 0 (by decide)).trans hv4093) ?_
    have bv4095 := q_bnd x4080
    have bv4096 := q_bnd v4093
    refine r_ics 53 rfl (fun c4094 => ?_) (fun c4094 => ?_)
    · have c4094_ : x4080.toInt ≥ v4093.toInt := en_i_ge_t c4094
      refine At.enter rfl ?_
      refine r_iconst 0 rfl ?_
      refine r_ireti ?_
      exact ⟨_, rfl, hI4082, hF4083, _, rfl, trivial⟩
    · have c4094_ : x4080.toInt < v4093.toInt := en_i_ge_f c4094
      refine At.enter rfl ?_
      refine r_aload_n e4087 ?_
      refine r_iload_n e4089 ?_
      refine r_iload_n e4088 ?_
      refine r_callV 59 rfl [.ref 188, .int x4080, .int x3935] [] (Nat.le_of_ble_eq_true rfl) rfl (T_X1_roundOf_188 _ hI4082 x4080 x3935) ?_
      rintro _ _ ⟨g4097, rfl, hI4098, hF4099, v4100, rfl, hr4101⟩
      refine At.sti ?_
      have hF4102 := Fr.tr hF4083 hF4099 rfl rfl
      refine At.enter rfl ?_
      refine r_istore_n _ rfl ?_
      refine r_iload_n (w_e1 _ _ _) ?_
      refine r_ifs 64 rfl (fun c4103 => ?_) (fun c4103 => ?_)
      · have c4103_ : v4100.toInt = 0 := en_k_eq_t c4103
        refine At.enter rfl ?_
        refine q_iinc (w_p1 (by decide) (Or.inr rfl) e4089) (x4080.toInt + 1) rfl (by omega) (fun v4104 hv4104 => ?_)
        refine r_goto ?_
        exact ih4086 (12 - v4104.toInt) _ _ ⟨v4104, by first | rfl | omega, hI4098, hF4102, (w_p1 (by decide) (Or.inr rfl) (w_p1 (by decide) (Or.inr rfl) e4087)), (w_p1 (by decide) (Or.inr rfl) (w_p1 (by decide) (Or.inr rfl) e4088)), (w_e1 _ _ _), by omega⟩ ⟨by omega, by omega⟩
      · have c4103_ : v4100.toInt ≠ 0 := en_k_eq_f c4103
        refine At.enter rfl ?_
        refine r_iload_n (w_e1 _ _ _) ?_
        refine r_ireti ?_
        exact ⟨_, rfl, hI4098, hF4102, _, rfl, trivial⟩
  · have c3951_ : x3936.toInt < v3950.toInt := en_i_ge_f c3951
    refine At.enter rfl ?_
    refine r_aload_n e3943 ?_
    refine r_iload_n e3945 ?_
    refine r_callV 20 rfl [.ref 188, .int x3936] [] (Nat.le_of_ble_eq_true rfl) rfl (T_X1_isStuck_188 _ hI3938 x3936 (by omega)) ?_
    rintro _ _ ⟨g4105, rfl, hI4106, hF4107, v4108, rfl, hr4109⟩
    refine At.sti ?_
    have hF4110 := Fr.tr hF3939 hF4107 rfl rfl
    refine At.enter rfl ?_
    refine r_ifs 23 rfl (fun c4111 => ?_) (fun c4111 => ?_)
    · have c4111_ : v4108.toInt = 0 := en_k_eq_t c4111
      refine At.enter rfl ?_
      refine q_iinc e3945 (x3936.toInt + 1) rfl (by omega) (fun v4112 hv4112 => ?_)
      refine r_goto ?_
      have bv4113 := q_bnd x3935
      exact ih3942 (8 - v4112.toInt) _ _ ⟨x3935, v4112, by first | rfl | omega, hI4106, hF4110, (w_p1 (by decide) (Or.inr rfl) e3943), (w_p1 (by decide) (Or.inr rfl) e3944), (w_e1 _ _ _), by omega⟩ ⟨by omega, by omega⟩
    · have c4111_ : v4108.toInt ≠ 0 := en_k_eq_f c4111
      refine At.enter rfl ?_
      refine r_iload_n e3944 ?_
      refine r_iconst 1 rfl ?_
      refine r_aload_n e3943 ?_
      refine q_getR (Sh.ref hI4106.1 kx_188 rfl) ?_
      refine r_iload_n e3945 ?_
      obtain ⟨v4114, hv4114⟩ : ∃ v, eA g0 195 x3936.toInt = v := ⟨_, rfl⟩
      refine q_iald (Sh.arr hI4106.1 ka_195) x3936.toInt rfl (by omega) v4114 ((eA_c ((hF4107.2.1 195 (by decide)).trans (hF3939.2.1 195 (by decide)))).trans hv4114) ?_
      refine q_ishlO (fun v4115 hv4115 => ?_)
      refine q_iorO (fun v4116 hv4116 => ?_)
      refine r_istore_n _ rfl ?_
      refine Ar.fall 34 rfl ?_
      refine At.enter rfl ?_
      refine q_iinc (w_p1 (by decide) (Or.inr rfl) e3945) (x3936.toInt + 1) rfl (by omega) (fun v4117 hv4117 => ?_)
      refine r_goto ?_
      have bv4118 := q_bnd v4116
      exact ih3942 (8 - v4117.toInt) _ _ ⟨v4116, v4117, by first | rfl | omega, hI4106, hF4110, (w_p1 (by decide) (Or.inr rfl) (w_p1 (by decide) (Or.inr rfl) e3943)), (w_p1 (by decide) (Or.inr rfl) (w_e1 _ _ _)), (w_e1 _ _ _), by omega⟩ ⟨by omega, by omega⟩

def F_X1_lastStart_204 : List (Nat × Nat) := []
def A_X1_lastStart_204 : List Nat := []
set_option maxRecDepth 100000 in
set_option maxHeartbeats 4000000 in
theorem T_X1_lastStart_204 (d : Nat) {N : Nat} {g0 : List en_E} (hI0 : HI g0) : Ev (d + 1) 20 [.ref 204] (g0, N) (fun w h' => ∃ g', h' = (g', N) ∧ HI g' ∧ Fr F_X1_lastStart_204 A_X1_lastStart_204 g0 g' ∧ ∃ r : Int32, w = some (.int r) ∧ (0 ≤ r.toInt)) := by
  have hF0 : Fr F_X1_lastStart_204 A_X1_lastStart_204 g0 g0 := Fr.rf
  refine Ev.mk rfl rfl ⟨Nat.le_of_ble_eq_true rfl, Or.inr (q_rc hI0.1 kx_204 rfl)⟩ ?_
  show At _ none _ _ (0, [(0, .ref 204)], [], (_, _)) _
  refine At.enter rfl ?_
  refine r_iconst 0 rfl ?_
  refine r_istore_n ([(1, .int 0), (0, .ref 204)]) rfl ?_
  refine r_iconst 0 rfl ?_
  refine r_istore_n ([(2, .int 0), (1, .int 0), (0, .ref 204)]) rfl ?_
  refine Ar.fall 4 rfl ?_
  have z_270 : (0 : Int32).toInt = 0 := rfl
  have z_271 : (0 : Int32).toInt = 0 := rfl
  refine w_loopI (fun n_ l_ g_ => ∃ x257 : Int32, ∃ x258 : Int32, n_ = 8 - x258.toInt ∧ HI g_ ∧ Fr F_X1_lastStart_204 A_X1_lastStart_204 g0 g_ ∧ en_get 0 l_ = some (.ref 204) ∧ en_get 1 l_ = some (.int x257) ∧ en_get 2 l_ = some (.int x258) ∧ 0 ≤ x257.toInt ∧ (0 ≤ x258.toInt ∧ x258.toInt ≤ 8)) ?_ (8 - 0) ⟨0, 0, by first | rfl | omega, hI0, hF0, rfl, rfl, rfl, by decide, by decide⟩
  rintro n263 l262 g259 ⟨x257, x258, hm272, hI260, hF261, e265, e266, e267, r268, r269⟩ ih264
  refine At.enter rfl ?_
  refine r_iload_n e267 ?_
  refine r_aload_n e265 ?_
  refine q_getR (Sh.ref hI260.1 kx_204 rfl) ?_
  obtain ⟨v273, hv273⟩ : ∃ v, gI g0 1 4 = v := ⟨_, rfl⟩
  have rv273 := RgF.at hI0.2.1 (p := 1) (b := 4) rfl
  rw [hv273] at rv273
  dsimp only at rv273
  refine q_getI (Sh.int hI260.1 kx_1 rfl) v273 ((hF261.1 1 4 (by decide)).trans hv273) ?_
  have bv275 := q_bnd x258
  have bv276 := q_bnd v273
  refine r_ics 15 rfl (fun c274 => ?_) (fun c274 => ?_)
  · have c274_ : x258.toInt ≥ v273.toInt := en_i_ge_t c274
    refine At.enter rfl ?_
    refine r_iload_n e266 ?_
    refine r_ireti ?_
    exact ⟨_, rfl, hI260, hF261, _, rfl, by omega⟩
  · have c274_ : x258.toInt < v273.toInt := en_i_ge_f c274
    refine At.enter rfl ?_
    refine r_iload_n e266 ?_
    refine r_aload_n e265 ?_
    refine q_getR (Sh.ref hI260.1 kx_204 rfl) ?_
    refine r_iload_n e267 ?_
    obtain ⟨v277, hv277⟩ : ∃ v, eA g0 207 x258.toInt = v := ⟨_, rfl⟩
    refine q_iald (Sh.arr hI260.1 ka_207) x258.toInt rfl (by omega) v277 ((eA_c (hF261.2.1 207 (by decide))).trans hv277) ?_
    refine q_mmax rfl (Nat.le_of_ble_eq_true rfl) (fun v278 hv278 => ?_)
    refine r_istore_n _ rfl ?_
    refine q_iinc (w_p1 (by decide) (Or.inr rfl) e267) (x258.toInt + 1) rfl (by omega) (fun v279 hv279 => ?_)
    refine r_goto ?_
    have bv280 := q_bnd v278
    exact ih264 (8 - v279.toInt) _ _ ⟨v278, v279, by first | rfl | omega, hI260, hF261, (w_p1 (by decide) (Or.inr rfl) (w_p1 (by decide) (Or.inr rfl) e265)), (w_p1 (by decide) (Or.inr rfl) (w_e1 _ _ _)), (w_e1 _ _ _), by omega, by omega⟩ ⟨by omega, by omega⟩

def F_X1_isCarried_204 : List (Nat × Nat) := []
def A_X1_isCarried_204 : List Nat := []
set_option maxRecDepth 100000 in
set_option maxHeartbeats 4000000 in
theorem T_X1_isCarried_204 (d : Nat) {N : Nat} {g0 : List en_E} (hI0 : HI g0) (a1 : Int32) (h_a1 : 0 ≤ a1.toInt ∧ a1.toInt ≤ 7) : Ev (d + 2) 22 [.ref 204, .int a1] (g0, N) (fun w h' => ∃ g', h' = (g', N) ∧ HI g' ∧ Fr F_X1_isCarried_204 A_X1_isCarried_204 g0 g' ∧ ∃ r : Int32, w = some (.int r) ∧ (0 ≤ r.toInt ∧ r.toInt ≤ 1)) := by
  have hF0 : Fr F_X1_isCarried_204 A_X1_isCarried_204 g0 g0 := Fr.rf
  refine Ev.mk rfl rfl ⟨Nat.le_of_ble_eq_true rfl, Or.inr (q_rc hI0.1 kx_204 rfl)⟩ ?_
  show At _ none _ _ (0, [(0, .ref 204), (1, .int a1)], [], (_, _)) _
  refine At.enter rfl ?_
  refine r_aload_n rfl ?_
  refine q_getR (Sh.ref hI0.1 kx_204 rfl) ?_
  refine r_iload_n rfl ?_
  refine r_iconst 1 rfl ?_
  refine r_callV 9 rfl [.ref 1, .int a1, .int 1] [] (Nat.le_of_ble_eq_true rfl) rfl (T_X0_about_1 _ hI0 a1 1) ?_
  rintro _ _ ⟨g847, rfl, hI848, hF849, v850, rfl, hr851⟩
  refine At.sti ?_
  have hF852 := Fr.tr hF0 hF849 rfl rfl
  have zv853 : (1 : Int32).toInt = 1 := rfl
  refine At.enter rfl ?_
  refine r_istore_n ([(2, .int v850), (0, .ref 204), (1, .int a1)]) rfl ?_
  refine r_aload_n rfl ?_
  refine q_getR (Sh.ref hI848.1 kx_204 rfl) ?_
  refine r_iload_n rfl ?_
  refine r_iconst 0 rfl ?_
  refine r_callV 19 rfl [.ref 1, .int a1, .int 0] [] (Nat.le_of_ble_eq_true rfl) rfl (T_X0_about_1 _ hI848 a1 0) ?_
  rintro _ _ ⟨g854, rfl, hI855, hF856, v857, rfl, hr858⟩
  refine At.sti ?_
  have hF859 := Fr.tr hF852 hF856 rfl rfl
  have zv860 : (0 : Int32).toInt = 0 := rfl
  refine At.enter rfl ?_
  refine r_istore_n ([(3, .int v857), (2, .int v850), (0, .ref 204), (1, .int a1)]) rfl ?_
  refine r_iconst 0 rfl ?_
  refine r_istore ([(4, .int 0), (3, .int v857), (2, .int v850), (0, .ref 204), (1, .int a1)]) rfl ?_
  refine Ar.fall 23 rfl ?_
  have z_1253 : (0 : Int32).toInt = 0 := rfl
  refine w_loopI (fun n_ l_ g_ => ∃ x1239 : Int32, ∃ x1240 : Int32, n_ = 2147483647 - x1240.toInt ∧ HI g_ ∧ Fr F_X1_isCarried_204 A_X1_isCarried_204 g0 g_ ∧ en_get 0 l_ = some (.ref 204) ∧ en_get 1 l_ = some (.int a1) ∧ en_get 2 l_ = some (.int x1239) ∧ en_get 3 l_ = some (.int v857) ∧ en_get 4 l_ = some (.int x1240) ∧ 0 ≤ x1240.toInt) ?_ (2147483647 - 0) ⟨v850, 0, by first | rfl | omega, hI855, hF859, rfl, rfl, rfl, rfl, rfl, by decide⟩
  rintro n1245 l1244 g1241 ⟨x1239, x1240, hm1254, hI1242, hF1243, e1247, e1248, e1249, e1250, e1251, r1252⟩ ih1246
  refine At.enter rfl ?_
  refine r_iload e1251 ?_
  refine r_aload_n e1247 ?_
  refine q_getR (Sh.ref hI1242.1 kx_204 rfl) ?_
  refine r_iload_n e1248 ?_
  obtain ⟨v1255, hv1255⟩ : ∃ v, eA g0 209 a1.toInt = v := ⟨_, rfl⟩
  refine q_iald (Sh.arr hI1242.1 ka_209) a1.toInt rfl (by omega) v1255 ((eA_c (hF1243.2.1 209 (by decide))).trans hv1255) ?_
  have bv1257 := q_bnd x1240
  have bv1258 := q_bnd v1255
  refine r_ics 34 rfl (fun c1256 => ?_) (fun c1256 => ?_)
  · have c1256_ : x1240.toInt ≥ v1255.toInt := en_i_ge_t c1256
    refine At.enter rfl ?_
    refine r_iconst 1 rfl ?_
    refine r_iretz (by decide) ?_
    exact ⟨_, rfl, hI1242, hF1243, _, rfl, by decide⟩
  · have c1256_ : x1240.toInt < v1255.toInt := en_i_ge_f c1256
    refine At.enter rfl ?_
    refine r_aload_n e1247 ?_
    refine q_getR (Sh.ref hI1242.1 kx_204 rfl) ?_
    refine r_iload_n e1249 ?_
    refine q_inlV 42 rfl [.ref 1, .int x1239] [] (Nat.le_of_ble_eq_true rfl) rfl ?_
    refine Ev.mk rfl rfl ⟨Nat.le_of_ble_eq_true rfl, Or.inr (q_rc hI1242.1 kx_1 rfl)⟩ ?_
    show At _ none _ _ (0, [(0, .ref 1), (1, .int x1239)], [], (_, _)) _
    refine At.enter rfl ?_
    refine r_iload_n rfl ?_
    refine r_ifs 4 rfl (fun c1259 => ?_) (fun c1259 => ?_)
    · have c1259_ : x1239.toInt < 0 := en_k_lt_t c1259
      refine At.enter rfl ?_
      refine r_iconst 0 rfl ?_
      refine Ar.fall 17 rfl ?_
      refine At.enter rfl ?_
      refine q_iretz (by decide) ?_
      refine At.enter rfl ?_
      refine r_ift (by decide) ?_
      refine At.enter rfl ?_
      refine r_iconst 1 rfl ?_
      refine r_iretz (by decide) ?_
      exact ⟨_, rfl, hI1242, hF1243, _, rfl, by decide⟩
    · have c1259_ : x1239.toInt ≥ 0 := en_k_lt_f c1259
      refine At.enter rfl ?_
      refine r_iload_n rfl ?_
      refine r_aload_n rfl ?_
      obtain ⟨v1260, hv1260⟩ : ∃ v, gI g0 1 0 = v := ⟨_, rfl⟩
      have rv1260 := RgF.at hI0.2.1 (p := 1) (b := 0) rfl
      rw [hv1260] at rv1260
      dsimp only at rv1260
      refine q_getI (Sh.int hI1242.1 kx_1 rfl) v1260 ((hF1243.1 1 0 (by decide)).trans hv1260) ?_
      have bv1262 := q_bnd x1239
      have bv1263 := q_bnd v1260
      refine r_ics 12 rfl (fun c1261 => ?_) (fun c1261 => ?_)
      · have c1261_ : x1239.toInt ≥ v1260.toInt := en_i_ge_t c1261
        refine At.enter rfl ?_
        refine r_iconst 0 rfl ?_
        refine Ar.fall 17 rfl ?_
        refine At.enter rfl ?_
        refine q_iretz (by decide) ?_
        refine At.enter rfl ?_
        refine r_ift (by decide) ?_
        refine At.enter rfl ?_
        refine r_iconst 1 rfl ?_
        refine r_iretz (by decide) ?_
        exact ⟨_, rfl, hI1242, hF1243, _, rfl, by decide⟩
      · have c1261_ : x1239.toInt < v1260.toInt := en_i_ge_f c1261
        refine At.enter rfl ?_
        refine r_iconst 1 rfl ?_
        refine r_goto ?_
        refine At.enter rfl ?_
        refine q_iretz (by decide) ?_
        refine At.enter rfl ?_
        refine r_iff 45 rfl (by decide) ?_
        refine At.enter rfl ?_
        refine r_aload_n e1247 ?_
        refine q_getR (Sh.ref hI1242.1 kx_204 rfl) ?_
        refine r_iload_n e1249 ?_
        obtain ⟨v1264, hv1264⟩ : ∃ v, eA g0 205 x1239.toInt = v := ⟨_, rfl⟩
        refine q_iald (Sh.arr hI1242.1 ka_205) x1239.toInt rfl (by omega) v1264 ((eA_c (hF1243.2.1 205 (by decide))).trans hv1264) ?_
        refine r_iload_n e1250 ?_
        have bv1266 := q_bnd v1264
        have bv1267 := q_bnd v857
        refine r_ics 55 rfl (fun c1265 => ?_) (fun c1265 => ?_)
        · have c1265_ : v1264.toInt ≥ v857.toInt := en_i_ge_t c1265
          refine At.enter rfl ?_
          refine r_aload_n e1247 ?_
          refine q_getR (Sh.ref hI1242.1 kx_204 rfl) ?_
          refine r_iload_n e1249 ?_
          obtain ⟨v1268, hv1268⟩ : ∃ v, eA g0 208 x1239.toInt = v := ⟨_, rfl⟩
          refine q_iald (Sh.arr hI1242.1 ka_208) x1239.toInt rfl (by omega) v1268 ((eA_c (hF1243.2.1 208 (by decide))).trans hv1268) ?_
          refine r_istore_n _ rfl ?_
          refine q_iinc (w_p1 (by decide) (Or.inr rfl) e1251) (x1240.toInt + 1) rfl (by omega) (fun v1269 hv1269 => ?_)
          refine r_goto ?_
          have bv1270 := q_bnd v1268
          have bv1271 := q_bnd v1269
          exact ih1246 (2147483647 - v1269.toInt) _ _ ⟨v1268, v1269, by first | rfl | omega, hI1242, hF1243, (w_p1 (by decide) (Or.inr rfl) (w_p1 (by decide) (Or.inr rfl) e1247)), (w_p1 (by decide) (Or.inr rfl) (w_p1 (by decide) (Or.inr rfl) e1248)), (w_p1 (by decide) (Or.inr rfl) (w_e1 _ _ _)), (w_p1 (by decide) (Or.inr rfl) (w_p1 (by decide) (Or.inr rfl) e1250)), (w_e1 _ _ _), by omega⟩ ⟨by omega, by omega⟩
        · have c1265_ : v1264.toInt < v857.toInt := en_i_ge_f c1265
          refine At.enter rfl ?_
          refine r_iconst 0 rfl ?_
          refine r_iretz (by decide) ?_
          exact ⟨_, rfl, hI1242, hF1243, _, rfl, by decide⟩

def F_X1_canComeBy_204 : List (Nat × Nat) := []
def A_X1_canComeBy_204 : List Nat := []
set_option maxRecDepth 100000 in
set_option maxHeartbeats 4000000 in
theorem T_X1_canComeBy_204 (d : Nat) {N : Nat} {g0 : List en_E} (hI0 : HI g0) (a1 : Int32) (a2 : Int32) : Ev (d + 3) 21 [.ref 204, .int a1, .int a2] (g0, N) (fun w h' => ∃ g', h' = (g', N) ∧ HI g' ∧ Fr F_X1_canComeBy_204 A_X1_canComeBy_204 g0 g' ∧ ∃ r : Int32, w = some (.int r) ∧ (0 ≤ r.toInt ∧ r.toInt ≤ 1)) := by
  have hF0 : Fr F_X1_canComeBy_204 A_X1_canComeBy_204 g0 g0 := Fr.rf
  refine Ev.mk rfl rfl ⟨Nat.le_of_ble_eq_true rfl, Or.inr (q_rc hI0.1 kx_204 rfl)⟩ ?_
  show At _ none _ _ (0, [(0, .ref 204), (1, .int a1), (2, .int a2)], [], (_, _)) _
  refine At.enter rfl ?_
  refine r_iconst 0 rfl ?_
  refine r_istore_n ([(3, .int 0), (0, .ref 204), (1, .int a1), (2, .int a2)]) rfl ?_
  refine Ar.fall 2 rfl ?_
  have z_681 : (0 : Int32).toInt = 0 := rfl
  refine w_loopI (fun n_ l_ g_ => ∃ x669 : Int32, n_ = 8 - x669.toInt ∧ HI g_ ∧ Fr F_X1_canComeBy_204 A_X1_canComeBy_204 g0 g_ ∧ en_get 0 l_ = some (.ref 204) ∧ en_get 1 l_ = some (.int a1) ∧ en_get 2 l_ = some (.int a2) ∧ en_get 3 l_ = some (.int x669) ∧ (0 ≤ x669.toInt ∧ x669.toInt ≤ 8)) ?_ (8 - 0) ⟨0, by first | rfl | omega, hI0, hF0, rfl, rfl, rfl, rfl, by decide⟩
  rintro n674 l673 g670 ⟨x669, hm682, hI671, hF672, e676, e677, e678, e679, r680⟩ ih675
  refine At.enter rfl ?_
  refine r_iload_n e679 ?_
  refine r_aload_n e676 ?_
  refine q_getR (Sh.ref hI671.1 kx_204 rfl) ?_
  obtain ⟨v683, hv683⟩ : ∃ v, gI g0 1 4 = v := ⟨_, rfl⟩
  have rv683 := RgF.at hI0.2.1 (p := 1) (b := 4) rfl
  rw [hv683] at rv683
  dsimp only at rv683
  refine q_getI (Sh.int hI671.1 kx_1 rfl) v683 ((hF672.1 1 4 (by decide)).trans hv683) ?_
  have bv685 := q_bnd x669
  have bv686 := q_bnd v683
  refine r_ics 13 rfl (fun c684 => ?_) (fun c684 => ?_)
  · have c684_ : x669.toInt ≥ v683.toInt := en_i_ge_t c684
    refine At.enter rfl ?_
    refine r_iconst 1 rfl ?_
    refine r_iretz (by decide) ?_
    exact ⟨_, rfl, hI671, hF672, _, rfl, by decide⟩
  · have c684_ : x669.toInt < v683.toInt := en_i_ge_f c684
    refine At.enter rfl ?_
    refine r_iload_n e677 ?_
    refine r_iload_n e679 ?_
    refine q_inlS 18 rfl [.int a1, .int x669] [] (Nat.le_of_ble_eq_true rfl) rfl ?_
    refine Ev.mk rfl rfl ⟨Nat.le_of_ble_eq_true rfl, Or.inl rfl⟩ ?_
    show At _ none _ _ (0, [(0, .int a1), (1, .int x669)], [], (_, _)) _
    refine At.enter rfl ?_
    refine r_iload_n rfl ?_
    refine r_iload_n rfl ?_
    refine q_ishrO (fun v687 hv687 => ?_)
    refine r_iconst 1 rfl ?_
    refine q_iandO (fun v688 hv688 => ?_)
    refine r_ifs 8 rfl (fun c689 => ?_) (fun c689 => ?_)
    · have c689_ : v688.toInt = 0 := en_k_eq_t c689
      refine At.enter rfl ?_
      refine r_iconst 0 rfl ?_
      refine Ar.fall 13 rfl ?_
      refine At.enter rfl ?_
      refine q_iretz (by decide) ?_
      refine At.enter rfl ?_
      refine r_ift (by decide) ?_
      refine At.enter rfl ?_
      refine q_iinc e679 (x669.toInt + 1) rfl (by omega) (fun v690 hv690 => ?_)
      refine r_goto ?_
      exact ih675 (8 - v690.toInt) _ _ ⟨v690, by first | rfl | omega, hI671, hF672, (w_p1 (by decide) (Or.inr rfl) e676), (w_p1 (by decide) (Or.inr rfl) e677), (w_p1 (by decide) (Or.inr rfl) e678), (w_e1 _ _ _), by omega⟩ ⟨by omega, by omega⟩
    · have c689_ : v688.toInt ≠ 0 := en_k_eq_f c689
      refine At.enter rfl ?_
      refine r_iconst 1 rfl ?_
      refine r_goto ?_
      refine At.enter rfl ?_
      refine q_iretz (by decide) ?_
      refine At.enter rfl ?_
      refine r_iff 21 rfl (by decide) ?_
      refine At.enter rfl ?_
      refine r_aload_n e676 ?_
      refine q_getR (Sh.ref hI671.1 kx_204 rfl) ?_
      refine r_iload_n e679 ?_
      obtain ⟨v691, hv691⟩ : ∃ v, eA g0 209 x669.toInt = v := ⟨_, rfl⟩
      refine q_iald (Sh.arr hI671.1 ka_209) x669.toInt rfl (by omega) v691 ((eA_c (hF672.2.1 209 (by decide))).trans hv691) ?_
      refine r_iconst (-1) rfl ?_
      refine r_ics 31 rfl (fun c692 => ?_) (fun c692 => ?_)
      · have c692_ : v691.toInt = (-1) := en_i_eq_t c692
        refine At.enter rfl ?_
        refine r_iconst 0 rfl ?_
        refine r_iretz (by decide) ?_
        exact ⟨_, rfl, hI671, hF672, _, rfl, by decide⟩
      · have c692_ : v691.toInt ≠ (-1) := en_i_eq_f c692
        refine At.enter rfl ?_
        refine r_aload_n e676 ?_
        refine q_getR (Sh.ref hI671.1 kx_204 rfl) ?_
        refine r_iload_n e679 ?_
        obtain ⟨v693, hv693⟩ : ∃ v, eA g0 207 x669.toInt = v := ⟨_, rfl⟩
        refine q_iald (Sh.arr hI671.1 ka_207) x669.toInt rfl (by omega) v693 ((eA_c (hF672.2.1 207 (by decide))).trans hv693) ?_
        refine r_iconst 0 rfl ?_
        refine r_aload_n e676 ?_
        refine q_getR (Sh.ref hI671.1 kx_204 rfl) ?_
        refine r_iload_n e679 ?_
        refine q_iald (Sh.arr hI671.1 ka_209) x669.toInt rfl (by omega) v691 ((eA_c (hF672.2.1 209 (by decide))).trans hv691) ?_
        refine r_iconst 1 rfl ?_
        refine q_isubO (fun v694 _ => ?_)
        refine q_mmax rfl (Nat.le_of_ble_eq_true rfl) (fun v695 hv695 => ?_)
        have zv696 : (0 : Int32).toInt = 0 := rfl
        refine q_iaddO (fun v697 _ => ?_)
        refine r_iload_n e678 ?_
        have bv699 := q_bnd v697
        have bv700 := q_bnd a2
        refine r_ics 54 rfl (fun c698 => ?_) (fun c698 => ?_)
        · have c698_ : v697.toInt > a2.toInt := en_i_gt_t c698
          refine At.enter rfl ?_
          refine r_iconst 0 rfl ?_
          refine r_iretz (by decide) ?_
          exact ⟨_, rfl, hI671, hF672, _, rfl, by decide⟩
        · have c698_ : v697.toInt ≤ a2.toInt := en_i_gt_f c698
          refine At.enter rfl ?_
          refine r_aload_n e676 ?_
          refine r_iload_n e679 ?_
          refine r_callV 59 rfl [.ref 204, .int x669] [] (Nat.le_of_ble_eq_true rfl) rfl (T_X1_isCarried_204 _ hI671 x669 (by omega)) ?_
          rintro _ _ ⟨g701, rfl, hI702, hF703, v704, rfl, hr705⟩
          refine At.sti ?_
          have hF706 := Fr.tr hF672 hF703 rfl rfl
          refine At.enter rfl ?_
          refine r_ifs 62 rfl (fun c707 => ?_) (fun c707 => ?_)
          · have c707_ : v704.toInt ≠ 0 := en_k_ne_t c707
            refine At.enter rfl ?_
            refine q_iinc e679 (x669.toInt + 1) rfl (by omega) (fun v708 hv708 => ?_)
            refine r_goto ?_
            exact ih675 (8 - v708.toInt) _ _ ⟨v708, by first | rfl | omega, hI702, hF706, (w_p1 (by decide) (Or.inr rfl) e676), (w_p1 (by decide) (Or.inr rfl) e677), (w_p1 (by decide) (Or.inr rfl) e678), (w_e1 _ _ _), by omega⟩ ⟨by omega, by omega⟩
          · have c707_ : v704.toInt = 0 := en_k_ne_f c707
            refine At.enter rfl ?_
            refine r_iconst 0 rfl ?_
            refine r_iretz (by decide) ?_
            exact ⟨_, rfl, hI702, hF706, _, rfl, by decide⟩

def F_X1_comesBy_204 : List (Nat × Nat) := [(185, 3), (204, 16), (204, 18)]
def A_X1_comesBy_204 : List Nat := [210, 211, 212, 213, 214, 215, 216, 218]
set_option maxRecDepth 100000 in
set_option maxHeartbeats 4000000 in
theorem T_X1_comesBy_204 (d : Nat) {N : Nat} {g0 : List en_E} (hI0 : HI g0) (a1 : Int32) (a2 : Int32) : Ev (d + 5) 19 [.ref 204, .int a1, .int a2] (g0, N) (fun w h' => ∃ g', h' = (g', N) ∧ HI g' ∧ Fr F_X1_comesBy_204 A_X1_comesBy_204 g0 g' ∧ ∃ r : Int32, w = some (.int r) ∧ (0 ≤ r.toInt ∧ r.toInt ≤ 1)) := by
  have hF0 : Fr F_X1_comesBy_204 A_X1_comesBy_204 g0 g0 := Fr.rf
  refine Ev.mk rfl rfl ⟨Nat.le_of_ble_eq_true rfl, Or.inr (q_rc hI0.1 kx_204 rfl)⟩ ?_
  show At _ none _ _ (0, [(0, .ref 204), (1, .int a1), (2, .int a2)], [], (_, _)) _
  refine At.enter rfl ?_
  refine r_aload_n rfl ?_
  refine r_iload_n rfl ?_
  refine r_iload_n rfl ?_
  refine r_callV 6 rfl [.ref 204, .int a1, .int a2] [] (Nat.le_of_ble_eq_true rfl) rfl (T_X1_canComeBy_204 _ hI0 a1 a2) ?_
  rintro _ _ ⟨g23119, rfl, hI23120, hF23121, v23122, rfl, hr23123⟩
  refine At.sti ?_
  have hF23124 := Fr.tr hF0 hF23121 rfl rfl
  refine At.enter rfl ?_
  refine r_ifs 9 rfl (fun c23125 => ?_) (fun c23125 => ?_)
  · have c23125_ : v23122.toInt ≠ 0 := en_k_ne_t c23125
    refine At.enter rfl ?_
    refine r_aload_n rfl ?_
    refine r_callV 15 rfl [.ref 204] [] (Nat.le_of_ble_eq_true rfl) rfl (T_X1_begin_204 _ hI23120) ?_
    rintro _ _ ⟨g23126, rfl, hI23127, hF23128, rfl⟩
    refine At.stn ?_
    have hF23131 := Fr.tr hF23124 hF23128 rfl rfl
    refine At.enter rfl ?_
    refine r_iload_n rfl ?_
    refine r_istore_n ([(3, .int a1), (0, .ref 204), (1, .int a1), (2, .int a2)]) rfl ?_
    refine r_aload_n rfl ?_
    refine r_callV 21 rfl [.ref 204] [] (Nat.le_of_ble_eq_true rfl) rfl (T_X1_lastStart_204 _ hI23127) ?_
    rintro _ _ ⟨g23132, rfl, hI23133, hF23134, v23135, rfl, hr23136⟩
    refine At.sti ?_
    have hF23137 := Fr.tr hF23131 hF23134 rfl rfl
    refine At.enter rfl ?_
    refine r_istore ([(4, .int v23135), (3, .int a1), (0, .ref 204), (1, .int a1), (2, .int a2)]) rfl ?_
    refine r_aload_n rfl ?_
    refine q_getR (Sh.ref hI23133.1 kx_204 rfl) ?_
    refine q_inlV 30 rfl [.ref 1] [] (Nat.le_of_ble_eq_true rfl) rfl ?_
    refine Ev.mk rfl rfl ⟨Nat.le_of_ble_eq_true rfl, Or.inr (q_rc hI23133.1 kx_1 rfl)⟩ ?_
    show At _ none _ _ (0, [(0, .ref 1)], [], (_, _)) _
    refine At.enter rfl ?_
    refine r_aload_n rfl ?_
    refine r_aload_n rfl ?_
    obtain ⟨v23138, hv23138⟩ : ∃ v, gI g0 1 9 = v := ⟨_, rfl⟩
    refine q_getI (Sh.int hI23133.1 kx_1 rfl) v23138 (((hF23134.1 1 9 (by decide)).trans ((hF23128.1 1 9 (by decide)).trans (hF23121.1 1 9 (by decide)))).trans hv23138) ?_
    refine r_callV 8 rfl [.ref 1, .int v23138] [] (Nat.le_of_ble_eq_true rfl) rfl (T_X0_lawAt_1 _ hI23133 v23138) ?_
    rintro _ _ ⟨g23139, rfl, hI23140, hF23141, v23142, rfl, hr23143⟩
    refine At.str ?_
    have hF23144 := Fr.tr hF23137 hF23141 rfl rfl
    refine At.enter rfl ?_
    refine q_aret ?_
    refine At.enter rfl ?_
    refine r_callV 33 rfl [.ref (v23142)] [] (Nat.le_of_ble_eq_true rfl) rfl (T_X4_asksOfTime_law _ hI23140 (v23142) hr23143) ?_
    rintro _ _ ⟨g23145, rfl, hI23146, hF23147, v23148, rfl, hr23149⟩
    refine At.sti ?_
    have hF23150 := Fr.tr hF23144 hF23147 rfl rfl
    refine At.enter rfl ?_
    refine r_ifs 36 rfl (fun c23151 => ?_) (fun c23151 => ?_)
    · have c23151_ : v23148.toInt ≠ 0 := en_k_ne_t c23151
      refine At.enter rfl ?_
      refine r_iconst 0 rfl ?_
      refine Ar.fall 41 rfl ?_
      refine At.enter rfl ?_
      refine r_istore ([(5, .int 0), (4, .int v23135), (3, .int a1), (0, .ref 204), (1, .int a1), (2, .int a2)]) rfl ?_
      refine r_iconst 0 rfl ?_
      refine r_istore ([(6, .int 0), (5, .int 0), (4, .int v23135), (3, .int a1), (0, .ref 204), (1, .int a1), (2, .int a2)]) rfl ?_
      refine Ar.fall 46 rfl ?_
      have z_28365 : (0 : Int32).toInt = 0 := rfl
      refine w_loopI (fun n_ l_ g_ => ∃ x28349 : Int32, ∃ x28350 : Int32, n_ = 100 - x28350.toInt ∧ HI g_ ∧ Fr F_X1_comesBy_204 A_X1_comesBy_204 g0 g_ ∧ en_get 0 l_ = some (.ref 204) ∧ en_get 1 l_ = some (.int a1) ∧ en_get 2 l_ = some (.int a2) ∧ en_get 3 l_ = some (.int x28349) ∧ en_get 4 l_ = some (.int v23135) ∧ en_get 5 l_ = some (.int 0) ∧ en_get 6 l_ = some (.int x28350) ∧ (0 ≤ x28350.toInt ∧ x28350.toInt ≤ 100)) ?_ (100 - 0) ⟨a1, 0, by first | rfl | omega, hI23146, hF23150, rfl, rfl, rfl, rfl, rfl, rfl, rfl, by decide⟩
      rintro n28355 l28354 g28351 ⟨x28349, x28350, hm28366, hI28352, hF28353, e28357, e28358, e28359, e28360, e28361, e28362, e28363, r28364⟩ ih28356
      refine At.enter rfl ?_
      refine r_iload e28363 ?_
      refine r_bipush 100 rfl ?_
      refine r_ics 53 rfl (fun c28367 => ?_) (fun c28367 => ?_)
      · have c28367_ : x28350.toInt ≥ 100 := en_i_ge_t c28367
        refine At.enter rfl ?_
        refine r_iload_n e28360 ?_
        refine r_ifs 191 rfl (fun c28368 => ?_) (fun c28368 => ?_)
        · have c28368_ : x28349.toInt ≠ 0 := en_k_ne_t c28368
          refine At.enter rfl ?_
          refine r_iconst 0 rfl ?_
          refine Ar.fall 196 rfl ?_
          refine At.enter rfl ?_
          refine r_iretz (by decide) ?_
          exact ⟨_, rfl, hI28352, hF28353, _, rfl, by decide⟩
        · have c28368_ : x28349.toInt = 0 := en_k_ne_f c28368
          refine At.enter rfl ?_
          refine r_iconst 1 rfl ?_
          refine r_goto ?_
          refine At.enter rfl ?_
          refine r_iretz (by decide) ?_
          exact ⟨_, rfl, hI28352, hF28353, _, rfl, by decide⟩
      · have c28367_ : x28350.toInt < 100 := en_i_ge_f c28367
        refine At.enter rfl ?_
        refine r_iload_n e28360 ?_
        refine r_ifs 57 rfl (fun c28369 => ?_) (fun c28369 => ?_)
        · have c28369_ : x28349.toInt = 0 := en_k_eq_t c28369
          refine At.enter rfl ?_
          refine r_iload_n e28360 ?_
          refine r_ifs 191 rfl (fun c28370 => ?_) (fun c28370 => ?_)
          · have c28370_ : x28349.toInt ≠ 0 := en_k_ne_t c28370
            exfalso; omega
          · have c28370_ : x28349.toInt = 0 := en_k_ne_f c28370
            refine At.enter rfl ?_
            refine r_iconst 1 rfl ?_
            refine r_goto ?_
            refine At.enter rfl ?_
            refine r_iretz (by decide) ?_
            exact ⟨_, rfl, hI28352, hF28353, _, rfl, by decide⟩
        · have c28369_ : x28349.toInt ≠ 0 := en_k_eq_f c28369
          refine At.enter rfl ?_
          refine r_aload_n e28357 ?_
          refine r_iconst 0 rfl ?_
          refine q_putI (Sh.int hI28352.1 kx_204 rfl) rfl ?_
          have hI28371 := HI.wI0 hI28352 kx_204 rfl (p := 204) (b := 18) (v := 0) rfl
          have hF28372 := Fr.wI (p := 204) (b := 18) (v := 0) hF28353 rfl
          refine r_aload_n e28357 ?_
          refine r_iload e28363 ?_
          refine r_callV 68 rfl [.ref 204, .int x28350] [] (Nat.le_of_ble_eq_true rfl) rfl (T_X1_arrive_204 _ hI28371 x28350) ?_
          rintro _ _ ⟨g28373, rfl, hI28374, hF28375, rfl⟩
          refine At.stn ?_
          have hF28378 := Fr.tr hF28372 hF28375 rfl rfl
          refine At.enter rfl ?_
          refine r_aload_n e28357 ?_
          refine r_iload e28363 ?_
          refine r_callV 74 rfl [.ref 204, .int x28350] [] (Nat.le_of_ble_eq_true rfl) rfl (T_X1_lineUp_204 _ hI28374 x28350) ?_
          rintro _ _ ⟨g28379, rfl, hI28380, hF28381, rfl⟩
          refine At.stn ?_
          have hF28384 := Fr.tr hF28378 hF28381 rfl rfl
          refine At.enter rfl ?_
          refine r_aload_n e28357 ?_
          refine r_iload e28363 ?_
          refine r_callV 80 rfl [.ref 204, .int x28350] [] (Nat.le_of_ble_eq_true rfl) rfl (T_X1_goOn_204 _ hI28380 x28350) ?_
          rintro _ _ ⟨g28385, rfl, hI28386, hF28387, rfl⟩
          refine At.stn ?_
          have hF28390 := Fr.tr hF28384 hF28387 rfl rfl
          refine At.enter rfl ?_
          refine r_iconst 0 rfl ?_
          refine r_istore _ rfl ?_
          refine Ar.fall 83 rfl ?_
          have z_28695 : (0 : Int32).toInt = 0 := rfl
          refine w_loopI (fun n_ l_ g_ => ∃ x28678 : Int32, ∃ x28679 : Int32, n_ = 8 - x28679.toInt ∧ HI g_ ∧ Fr F_X1_comesBy_204 A_X1_comesBy_204 g0 g_ ∧ en_get 0 l_ = some (.ref 204) ∧ en_get 1 l_ = some (.int a1) ∧ en_get 2 l_ = some (.int a2) ∧ en_get 3 l_ = some (.int x28678) ∧ en_get 4 l_ = some (.int v23135) ∧ en_get 5 l_ = some (.int 0) ∧ en_get 6 l_ = some (.int x28350) ∧ en_get 7 l_ = some (.int x28679) ∧ (0 ≤ x28679.toInt ∧ x28679.toInt ≤ 8)) ?_ (8 - 0) ⟨x28349, 0, by first | rfl | omega, hI28386, hF28390, (w_p1 (by decide) (Or.inr rfl) e28357), (w_p1 (by decide) (Or.inr rfl) e28358), (w_p1 (by decide) (Or.inr rfl) e28359), (w_p1 (by decide) (Or.inr rfl) e28360), (w_p1 (by decide) (Or.inr rfl) e28361), (w_p1 (by decide) (Or.inr rfl) e28362), (w_p1 (by decide) (Or.inr rfl) e28363), (w_e1 _ _ _), by decide⟩
          rintro n28684 l28683 g28680 ⟨x28678, x28679, hm28696, hI28681, hF28682, e28686, e28687, e28688, e28689, e28690, e28691, e28692, e28693, r28694⟩ ih28685
          refine At.enter rfl ?_
          refine r_iload e28693 ?_
          refine r_aload_n e28686 ?_
          refine q_getR (Sh.ref hI28681.1 kx_204 rfl) ?_
          obtain ⟨v28697, hv28697⟩ : ∃ v, gI g0 1 4 = v := ⟨_, rfl⟩
          have rv28697 := RgF.at hI0.2.1 (p := 1) (b := 4) rfl
          rw [hv28697] at rv28697
          dsimp only at rv28697
          refine q_getI (Sh.int hI28681.1 kx_1 rfl) v28697 ((hF28682.1 1 4 (by decide)).trans hv28697) ?_
          have bv28699 := q_bnd x28679
          have bv28700 := q_bnd v28697
          refine r_ics 95 rfl (fun c28698 => ?_) (fun c28698 => ?_)
          · have c28698_ : x28679.toInt ≥ v28697.toInt := en_i_ge_t c28698
            refine At.enter rfl ?_
            refine r_iload_n e28689 ?_
            refine r_ifs 160 rfl (fun c28701 => ?_) (fun c28701 => ?_)
            · have c28701_ : x28678.toInt = 0 := en_k_eq_t c28701
              refine At.enter rfl ?_
              refine q_iinc e28692 (x28350.toInt + 1) rfl (by omega) (fun v28702 hv28702 => ?_)
              refine r_goto ?_
              have bv28703 := q_bnd x28678
              exact ih28356 (100 - v28702.toInt) _ _ ⟨x28678, v28702, by first | rfl | omega, hI28681, hF28682, (w_p1 (by decide) (Or.inr rfl) e28686), (w_p1 (by decide) (Or.inr rfl) e28687), (w_p1 (by decide) (Or.inr rfl) e28688), (w_p1 (by decide) (Or.inr rfl) e28689), (w_p1 (by decide) (Or.inr rfl) e28690), (w_p1 (by decide) (Or.inr rfl) e28691), (w_e1 _ _ _), by omega⟩ ⟨by omega, by omega⟩
            · have c28701_ : x28678.toInt ≠ 0 := en_k_eq_f c28701
              refine At.enter rfl ?_
              refine r_aload_n e28686 ?_
              obtain ⟨v28704, hv28704⟩ : ∃ v, gI g28680 204 18 = v := ⟨_, rfl⟩
              refine q_getI (Sh.int hI28681.1 kx_204 rfl) v28704 hv28704 ?_
              refine r_ifs 167 rfl (fun c28705 => ?_) (fun c28705 => ?_)
              · have c28705_ : v28704.toInt ≠ 0 := en_k_ne_t c28705
                refine At.enter rfl ?_
                refine q_iinc e28692 (x28350.toInt + 1) rfl (by omega) (fun v28706 hv28706 => ?_)
                refine r_goto ?_
                have bv28707 := q_bnd x28678
                exact ih28356 (100 - v28706.toInt) _ _ ⟨x28678, v28706, by first | rfl | omega, hI28681, hF28682, (w_p1 (by decide) (Or.inr rfl) e28686), (w_p1 (by decide) (Or.inr rfl) e28687), (w_p1 (by decide) (Or.inr rfl) e28688), (w_p1 (by decide) (Or.inr rfl) e28689), (w_p1 (by decide) (Or.inr rfl) e28690), (w_p1 (by decide) (Or.inr rfl) e28691), (w_e1 _ _ _), by omega⟩ ⟨by omega, by omega⟩
              · have c28705_ : v28704.toInt = 0 := en_k_ne_f c28705
                refine At.enter rfl ?_
                refine r_iload e28691 ?_
                refine r_ift (by decide) ?_
                refine At.enter rfl ?_
                refine q_iinc e28692 (x28350.toInt + 1) rfl (by omega) (fun v28708 hv28708 => ?_)
                refine r_goto ?_
                have bv28709 := q_bnd x28678
                exact ih28356 (100 - v28708.toInt) _ _ ⟨x28678, v28708, by first | rfl | omega, hI28681, hF28682, (w_p1 (by decide) (Or.inr rfl) e28686), (w_p1 (by decide) (Or.inr rfl) e28687), (w_p1 (by decide) (Or.inr rfl) e28688), (w_p1 (by decide) (Or.inr rfl) e28689), (w_p1 (by decide) (Or.inr rfl) e28690), (w_p1 (by decide) (Or.inr rfl) e28691), (w_e1 _ _ _), by omega⟩ ⟨by omega, by omega⟩
          · have c28698_ : x28679.toInt < v28697.toInt := en_i_ge_f c28698
            refine At.enter rfl ?_
            refine r_iload_n e28689 ?_
            refine r_iload e28693 ?_
            refine q_inlS 101 rfl [.int x28678, .int x28679] [] (Nat.le_of_ble_eq_true rfl) rfl ?_
            refine Ev.mk rfl rfl ⟨Nat.le_of_ble_eq_true rfl, Or.inl rfl⟩ ?_
            show At _ none _ _ (0, [(0, .int x28678), (1, .int x28679)], [], (_, _)) _
            refine At.enter rfl ?_
            refine r_iload_n rfl ?_
            refine r_iload_n rfl ?_
            refine q_ishrO (fun v28710 hv28710 => ?_)
            refine r_iconst 1 rfl ?_
            refine q_iandO (fun v28711 hv28711 => ?_)
            refine r_ifs 8 rfl (fun c28712 => ?_) (fun c28712 => ?_)
            · have c28712_ : v28711.toInt = 0 := en_k_eq_t c28712
              refine At.enter rfl ?_
              refine r_iconst 0 rfl ?_
              refine Ar.fall 13 rfl ?_
              refine At.enter rfl ?_
              refine q_iretz (by decide) ?_
              refine At.enter rfl ?_
              refine r_ift (by decide) ?_
              refine At.enter rfl ?_
              refine r_iload_n e28689 ?_
              refine r_iload e28693 ?_
              refine q_inlS 131 rfl [.int x28678, .int x28679] [] (Nat.le_of_ble_eq_true rfl) rfl ?_
              refine Ev.mk rfl rfl ⟨Nat.le_of_ble_eq_true rfl, Or.inl rfl⟩ ?_
              show At _ none _ _ (0, [(0, .int x28678), (1, .int x28679)], [], (_, _)) _
              refine At.enter rfl ?_
              refine r_iload_n rfl ?_
              refine r_iload_n rfl ?_
              refine q_ishrO (fun v28713 hv28713 => ?_)
              refine r_iconst 1 rfl ?_
              refine q_iandO (fun v28714 hv28714 => ?_)
              refine r_ifs 8 rfl (fun c28715 => ?_) (fun c28715 => ?_)
              · have c28715_ : v28714.toInt = 0 := en_k_eq_t c28715
                refine At.enter rfl ?_
                refine r_iconst 0 rfl ?_
                refine Ar.fall 13 rfl ?_
                refine At.enter rfl ?_
                refine q_iretz (by decide) ?_
                refine At.enter rfl ?_
                refine r_ift (by decide) ?_
                refine At.enter rfl ?_
                refine q_iinc e28693 (x28679.toInt + 1) rfl (by omega) (fun v28716 hv28716 => ?_)
                refine r_goto ?_
                have bv28717 := q_bnd x28678
                exact ih28685 (8 - v28716.toInt) _ _ ⟨x28678, v28716, by first | rfl | omega, hI28681, hF28682, (w_p1 (by decide) (Or.inr rfl) e28686), (w_p1 (by decide) (Or.inr rfl) e28687), (w_p1 (by decide) (Or.inr rfl) e28688), (w_p1 (by decide) (Or.inr rfl) e28689), (w_p1 (by decide) (Or.inr rfl) e28690), (w_p1 (by decide) (Or.inr rfl) e28691), (w_p1 (by decide) (Or.inr rfl) e28692), (w_e1 _ _ _), by omega⟩ ⟨by omega, by omega⟩
              · have c28715_ : v28714.toInt ≠ 0 := en_k_eq_f c28715
                refine At.enter rfl ?_
                refine r_iconst 1 rfl ?_
                refine r_goto ?_
                refine At.enter rfl ?_
                refine q_iretz (by decide) ?_
                refine At.enter rfl ?_
                refine r_iff 134 rfl (by decide) ?_
                refine At.enter rfl ?_
                refine r_iload e28692 ?_
                refine r_aload_n e28686 ?_
                refine q_getR (Sh.ref hI28681.1 kx_204 rfl) ?_
                refine r_iload e28693 ?_
                obtain ⟨v28718, hv28718⟩ : ∃ v, eA g28680 210 x28679.toInt = v := ⟨_, rfl⟩
                refine q_iald (Sh.arr hI28681.1 ka_210) x28679.toInt rfl (by omega) v28718 hv28718 ?_
                refine q_iaddO (fun v28719 _ => ?_)
                refine r_iload_n e28688 ?_
                have bv28721 := q_bnd v28719
                have bv28722 := q_bnd a2
                refine r_ics 148 rfl (fun c28720 => ?_) (fun c28720 => ?_)
                · have c28720_ : v28719.toInt ≤ a2.toInt := en_i_le_t c28720
                  refine At.enter rfl ?_
                  refine q_iinc e28693 (x28679.toInt + 1) rfl (by omega) (fun v28723 hv28723 => ?_)
                  refine r_goto ?_
                  have bv28724 := q_bnd x28678
                  exact ih28685 (8 - v28723.toInt) _ _ ⟨x28678, v28723, by first | rfl | omega, hI28681, hF28682, (w_p1 (by decide) (Or.inr rfl) e28686), (w_p1 (by decide) (Or.inr rfl) e28687), (w_p1 (by decide) (Or.inr rfl) e28688), (w_p1 (by decide) (Or.inr rfl) e28689), (w_p1 (by decide) (Or.inr rfl) e28690), (w_p1 (by decide) (Or.inr rfl) e28691), (w_p1 (by decide) (Or.inr rfl) e28692), (w_e1 _ _ _), by omega⟩ ⟨by omega, by omega⟩
                · have c28720_ : v28719.toInt > a2.toInt := en_i_le_f c28720
                  refine At.enter rfl ?_
                  refine r_iconst 0 rfl ?_
                  refine r_iretz (by decide) ?_
                  exact ⟨_, rfl, hI28681, hF28682, _, rfl, by decide⟩
            · have c28712_ : v28711.toInt ≠ 0 := en_k_eq_f c28712
              refine At.enter rfl ?_
              refine r_iconst 1 rfl ?_
              refine r_goto ?_
              refine At.enter rfl ?_
              refine q_iretz (by decide) ?_
              refine At.enter rfl ?_
              refine r_iff 104 rfl (by decide) ?_
              refine At.enter rfl ?_
              refine r_aload_n e28686 ?_
              refine q_getR (Sh.ref hI28681.1 kx_204 rfl) ?_
              refine r_iload e28693 ?_
              obtain ⟨v28725, hv28725⟩ : ∃ v, eA g28680 212 x28679.toInt = v := ⟨_, rfl⟩
              refine q_iald (Sh.arr hI28681.1 ka_212) x28679.toInt rfl (by omega) v28725 hv28725 ?_
              refine r_iconst (-1) rfl ?_
              refine r_ics 115 rfl (fun c28726 => ?_) (fun c28726 => ?_)
              · have c28726_ : v28725.toInt = (-1) := en_i_eq_t c28726
                refine At.enter rfl ?_
                refine r_iload_n e28689 ?_
                refine r_iload e28693 ?_
                refine q_inlS 131 rfl [.int x28678, .int x28679] [] (Nat.le_of_ble_eq_true rfl) rfl ?_
                refine Ev.mk rfl rfl ⟨Nat.le_of_ble_eq_true rfl, Or.inl rfl⟩ ?_
                show At _ none _ _ (0, [(0, .int x28678), (1, .int x28679)], [], (_, _)) _
                refine At.enter rfl ?_
                refine r_iload_n rfl ?_
                refine r_iload_n rfl ?_
                refine q_ishrO (fun v28727 hv28727 => ?_)
                refine r_iconst 1 rfl ?_
                refine q_iandO (fun v28728 hv28728 => ?_)
                refine r_ifs 8 rfl (fun c28729 => ?_) (fun c28729 => ?_)
                · have c28729_ : v28728.toInt = 0 := en_k_eq_t c28729
                  refine At.enter rfl ?_
                  refine r_iconst 0 rfl ?_
                  refine Ar.fall 13 rfl ?_
                  refine At.enter rfl ?_
                  refine q_iretz (by decide) ?_
                  refine At.enter rfl ?_
                  refine r_ift (by decide) ?_
                  refine At.enter rfl ?_
                  refine q_iinc e28693 (x28679.toInt + 1) rfl (by omega) (fun v28730 hv28730 => ?_)
                  refine r_goto ?_
                  have bv28731 := q_bnd x28678
                  exact ih28685 (8 - v28730.toInt) _ _ ⟨x28678, v28730, by first | rfl | omega, hI28681, hF28682, (w_p1 (by decide) (Or.inr rfl) e28686), (w_p1 (by decide) (Or.inr rfl) e28687), (w_p1 (by decide) (Or.inr rfl) e28688), (w_p1 (by decide) (Or.inr rfl) e28689), (w_p1 (by decide) (Or.inr rfl) e28690), (w_p1 (by decide) (Or.inr rfl) e28691), (w_p1 (by decide) (Or.inr rfl) e28692), (w_e1 _ _ _), by omega⟩ ⟨by omega, by omega⟩
                · have c28729_ : v28728.toInt ≠ 0 := en_k_eq_f c28729
                  refine At.enter rfl ?_
                  refine r_iconst 1 rfl ?_
                  refine r_goto ?_
                  refine At.enter rfl ?_
                  refine q_iretz (by decide) ?_
                  refine At.enter rfl ?_
                  refine r_iff 134 rfl (by decide) ?_
                  refine At.enter rfl ?_
                  refine r_iload e28692 ?_
                  refine r_aload_n e28686 ?_
                  refine q_getR (Sh.ref hI28681.1 kx_204 rfl) ?_
                  refine r_iload e28693 ?_
                  obtain ⟨v28732, hv28732⟩ : ∃ v, eA g28680 210 x28679.toInt = v := ⟨_, rfl⟩
                  refine q_iald (Sh.arr hI28681.1 ka_210) x28679.toInt rfl (by omega) v28732 hv28732 ?_
                  refine q_iaddO (fun v28733 _ => ?_)
                  refine r_iload_n e28688 ?_
                  have bv28735 := q_bnd v28733
                  have bv28736 := q_bnd a2
                  refine r_ics 148 rfl (fun c28734 => ?_) (fun c28734 => ?_)
                  · have c28734_ : v28733.toInt ≤ a2.toInt := en_i_le_t c28734
                    refine At.enter rfl ?_
                    refine q_iinc e28693 (x28679.toInt + 1) rfl (by omega) (fun v28737 hv28737 => ?_)
                    refine r_goto ?_
                    have bv28738 := q_bnd x28678
                    exact ih28685 (8 - v28737.toInt) _ _ ⟨x28678, v28737, by first | rfl | omega, hI28681, hF28682, (w_p1 (by decide) (Or.inr rfl) e28686), (w_p1 (by decide) (Or.inr rfl) e28687), (w_p1 (by decide) (Or.inr rfl) e28688), (w_p1 (by decide) (Or.inr rfl) e28689), (w_p1 (by decide) (Or.inr rfl) e28690), (w_p1 (by decide) (Or.inr rfl) e28691), (w_p1 (by decide) (Or.inr rfl) e28692), (w_e1 _ _ _), by omega⟩ ⟨by omega, by omega⟩
                  · have c28734_ : v28733.toInt > a2.toInt := en_i_le_f c28734
                    refine At.enter rfl ?_
                    refine r_iconst 0 rfl ?_
                    refine r_iretz (by decide) ?_
                    exact ⟨_, rfl, hI28681, hF28682, _, rfl, by decide⟩
              · have c28726_ : v28725.toInt ≠ (-1) := en_i_eq_f c28726
                refine At.enter rfl ?_
                refine r_iload_n e28689 ?_
                refine r_iconst 1 rfl ?_
                refine r_iload e28693 ?_
                refine q_ishlO (fun v28739 hv28739 => ?_)
                refine q_isubO (fun v28740 _ => ?_)
                refine r_istore_n _ rfl ?_
                refine r_goto ?_
                refine At.enter rfl ?_
                refine q_iinc (w_p1 (by decide) (Or.inr rfl) e28693) (x28679.toInt + 1) rfl (by omega) (fun v28741 hv28741 => ?_)
                refine r_goto ?_
                have bv28742 := q_bnd v28740
                exact ih28685 (8 - v28741.toInt) _ _ ⟨v28740, v28741, by first | rfl | omega, hI28681, hF28682, (w_p1 (by decide) (Or.inr rfl) (w_p1 (by decide) (Or.inr rfl) e28686)), (w_p1 (by decide) (Or.inr rfl) (w_p1 (by decide) (Or.inr rfl) e28687)), (w_p1 (by decide) (Or.inr rfl) (w_p1 (by decide) (Or.inr rfl) e28688)), (w_p1 (by decide) (Or.inr rfl) (w_e1 _ _ _)), (w_p1 (by decide) (Or.inr rfl) (w_p1 (by decide) (Or.inr rfl) e28690)), (w_p1 (by decide) (Or.inr rfl) (w_p1 (by decide) (Or.inr rfl) e28691)), (w_p1 (by decide) (Or.inr rfl) (w_p1 (by decide) (Or.inr rfl) e28692)), (w_e1 _ _ _), by omega⟩ ⟨by omega, by omega⟩
    · have c23151_ : v23148.toInt = 0 := en_k_ne_f c23151
      refine At.enter rfl ?_
      refine r_iconst 1 rfl ?_
      refine r_goto ?_
      refine At.enter rfl ?_
      refine r_istore ([(5, .int 1), (4, .int v23135), (3, .int a1), (0, .ref 204), (1, .int a1), (2, .int a2)]) rfl ?_
      refine r_iconst 0 rfl ?_
      refine r_istore ([(6, .int 0), (5, .int 1), (4, .int v23135), (3, .int a1), (0, .ref 204), (1, .int a1), (2, .int a2)]) rfl ?_
      refine Ar.fall 46 rfl ?_
      have z_34292 : (0 : Int32).toInt = 0 := rfl
      refine w_loopI (fun n_ l_ g_ => ∃ x34276 : Int32, ∃ x34277 : Int32, n_ = 100 - x34277.toInt ∧ HI g_ ∧ Fr F_X1_comesBy_204 A_X1_comesBy_204 g0 g_ ∧ en_get 0 l_ = some (.ref 204) ∧ en_get 1 l_ = some (.int a1) ∧ en_get 2 l_ = some (.int a2) ∧ en_get 3 l_ = some (.int x34276) ∧ en_get 4 l_ = some (.int v23135) ∧ en_get 5 l_ = some (.int 1) ∧ en_get 6 l_ = some (.int x34277) ∧ (0 ≤ x34277.toInt ∧ x34277.toInt ≤ 100)) ?_ (100 - 0) ⟨a1, 0, by first | rfl | omega, hI23146, hF23150, rfl, rfl, rfl, rfl, rfl, rfl, rfl, by decide⟩
      rintro n34282 l34281 g34278 ⟨x34276, x34277, hm34293, hI34279, hF34280, e34284, e34285, e34286, e34287, e34288, e34289, e34290, r34291⟩ ih34283
      refine At.enter rfl ?_
      refine r_iload e34290 ?_
      refine r_bipush 100 rfl ?_
      refine r_ics 53 rfl (fun c34294 => ?_) (fun c34294 => ?_)
      · have c34294_ : x34277.toInt ≥ 100 := en_i_ge_t c34294
        refine At.enter rfl ?_
        refine r_iload_n e34287 ?_
        refine r_ifs 191 rfl (fun c34295 => ?_) (fun c34295 => ?_)
        · have c34295_ : x34276.toInt ≠ 0 := en_k_ne_t c34295
          refine At.enter rfl ?_
          refine r_iconst 0 rfl ?_
          refine Ar.fall 196 rfl ?_
          refine At.enter rfl ?_
          refine r_iretz (by decide) ?_
          exact ⟨_, rfl, hI34279, hF34280, _, rfl, by decide⟩
        · have c34295_ : x34276.toInt = 0 := en_k_ne_f c34295
          refine At.enter rfl ?_
          refine r_iconst 1 rfl ?_
          refine r_goto ?_
          refine At.enter rfl ?_
          refine r_iretz (by decide) ?_
          exact ⟨_, rfl, hI34279, hF34280, _, rfl, by decide⟩
      · have c34294_ : x34277.toInt < 100 := en_i_ge_f c34294
        refine At.enter rfl ?_
        refine r_iload_n e34287 ?_
        refine r_ifs 57 rfl (fun c34296 => ?_) (fun c34296 => ?_)
        · have c34296_ : x34276.toInt = 0 := en_k_eq_t c34296
          refine At.enter rfl ?_
          refine r_iload_n e34287 ?_
          refine r_ifs 191 rfl (fun c34297 => ?_) (fun c34297 => ?_)
          · have c34297_ : x34276.toInt ≠ 0 := en_k_ne_t c34297
            exfalso; omega
          · have c34297_ : x34276.toInt = 0 := en_k_ne_f c34297
            refine At.enter rfl ?_
            refine r_iconst 1 rfl ?_
            refine r_goto ?_
            refine At.enter rfl ?_
            refine r_iretz (by decide) ?_
            exact ⟨_, rfl, hI34279, hF34280, _, rfl, by decide⟩
        · have c34296_ : x34276.toInt ≠ 0 := en_k_eq_f c34296
          refine At.enter rfl ?_
          refine r_aload_n e34284 ?_
          refine r_iconst 0 rfl ?_
          refine q_putI (Sh.int hI34279.1 kx_204 rfl) rfl ?_
          have hI34298 := HI.wI0 hI34279 kx_204 rfl (p := 204) (b := 18) (v := 0) rfl
          have hF34299 := Fr.wI (p := 204) (b := 18) (v := 0) hF34280 rfl
          refine r_aload_n e34284 ?_
          refine r_iload e34290 ?_
          refine r_callV 68 rfl [.ref 204, .int x34277] [] (Nat.le_of_ble_eq_true rfl) rfl (T_X1_arrive_204 _ hI34298 x34277) ?_
          rintro _ _ ⟨g34300, rfl, hI34301, hF34302, rfl⟩
          refine At.stn ?_
          have hF34305 := Fr.tr hF34299 hF34302 rfl rfl
          refine At.enter rfl ?_
          refine r_aload_n e34284 ?_
          refine r_iload e34290 ?_
          refine r_callV 74 rfl [.ref 204, .int x34277] [] (Nat.le_of_ble_eq_true rfl) rfl (T_X1_lineUp_204 _ hI34301 x34277) ?_
          rintro _ _ ⟨g34306, rfl, hI34307, hF34308, rfl⟩
          refine At.stn ?_
          have hF34311 := Fr.tr hF34305 hF34308 rfl rfl
          refine At.enter rfl ?_
          refine r_aload_n e34284 ?_
          refine r_iload e34290 ?_
          refine r_callV 80 rfl [.ref 204, .int x34277] [] (Nat.le_of_ble_eq_true rfl) rfl (T_X1_goOn_204 _ hI34307 x34277) ?_
          rintro _ _ ⟨g34312, rfl, hI34313, hF34314, rfl⟩
          refine At.stn ?_
          have hF34317 := Fr.tr hF34311 hF34314 rfl rfl
          refine At.enter rfl ?_
          refine r_iconst 0 rfl ?_
          refine r_istore _ rfl ?_
          refine Ar.fall 83 rfl ?_
          have z_34643 : (0 : Int32).toInt = 0 := rfl
          refine w_loopI (fun n_ l_ g_ => ∃ x34626 : Int32, ∃ x34627 : Int32, n_ = 8 - x34627.toInt ∧ HI g_ ∧ Fr F_X1_comesBy_204 A_X1_comesBy_204 g0 g_ ∧ en_get 0 l_ = some (.ref 204) ∧ en_get 1 l_ = some (.int a1) ∧ en_get 2 l_ = some (.int a2) ∧ en_get 3 l_ = some (.int x34626) ∧ en_get 4 l_ = some (.int v23135) ∧ en_get 5 l_ = some (.int 1) ∧ en_get 6 l_ = some (.int x34277) ∧ en_get 7 l_ = some (.int x34627) ∧ (0 ≤ x34627.toInt ∧ x34627.toInt ≤ 8)) ?_ (8 - 0) ⟨x34276, 0, by first | rfl | omega, hI34313, hF34317, (w_p1 (by decide) (Or.inr rfl) e34284), (w_p1 (by decide) (Or.inr rfl) e34285), (w_p1 (by decide) (Or.inr rfl) e34286), (w_p1 (by decide) (Or.inr rfl) e34287), (w_p1 (by decide) (Or.inr rfl) e34288), (w_p1 (by decide) (Or.inr rfl) e34289), (w_p1 (by decide) (Or.inr rfl) e34290), (w_e1 _ _ _), by decide⟩
          rintro n34632 l34631 g34628 ⟨x34626, x34627, hm34644, hI34629, hF34630, e34634, e34635, e34636, e34637, e34638, e34639, e34640, e34641, r34642⟩ ih34633
          refine At.enter rfl ?_
          refine r_iload e34641 ?_
          refine r_aload_n e34634 ?_
          refine q_getR (Sh.ref hI34629.1 kx_204 rfl) ?_
          obtain ⟨v34645, hv34645⟩ : ∃ v, gI g0 1 4 = v := ⟨_, rfl⟩
          have rv34645 := RgF.at hI0.2.1 (p := 1) (b := 4) rfl
          rw [hv34645] at rv34645
          dsimp only at rv34645
          refine q_getI (Sh.int hI34629.1 kx_1 rfl) v34645 ((hF34630.1 1 4 (by decide)).trans hv34645) ?_
          have bv34647 := q_bnd x34627
          have bv34648 := q_bnd v34645
          refine r_ics 95 rfl (fun c34646 => ?_) (fun c34646 => ?_)
          · have c34646_ : x34627.toInt ≥ v34645.toInt := en_i_ge_t c34646
            refine At.enter rfl ?_
            refine r_iload_n e34637 ?_
            refine r_ifs 160 rfl (fun c34649 => ?_) (fun c34649 => ?_)
            · have c34649_ : x34626.toInt = 0 := en_k_eq_t c34649
              refine At.enter rfl ?_
              refine q_iinc e34640 (x34277.toInt + 1) rfl (by omega) (fun v34650 hv34650 => ?_)
              refine r_goto ?_
              have bv34651 := q_bnd x34626
              exact ih34283 (100 - v34650.toInt) _ _ ⟨x34626, v34650, by first | rfl | omega, hI34629, hF34630, (w_p1 (by decide) (Or.inr rfl) e34634), (w_p1 (by decide) (Or.inr rfl) e34635), (w_p1 (by decide) (Or.inr rfl) e34636), (w_p1 (by decide) (Or.inr rfl) e34637), (w_p1 (by decide) (Or.inr rfl) e34638), (w_p1 (by decide) (Or.inr rfl) e34639), (w_e1 _ _ _), by omega⟩ ⟨by omega, by omega⟩
            · have c34649_ : x34626.toInt ≠ 0 := en_k_eq_f c34649
              refine At.enter rfl ?_
              refine r_aload_n e34634 ?_
              obtain ⟨v34652, hv34652⟩ : ∃ v, gI g34628 204 18 = v := ⟨_, rfl⟩
              refine q_getI (Sh.int hI34629.1 kx_204 rfl) v34652 hv34652 ?_
              refine r_ifs 167 rfl (fun c34653 => ?_) (fun c34653 => ?_)
              · have c34653_ : v34652.toInt ≠ 0 := en_k_ne_t c34653
                refine At.enter rfl ?_
                refine q_iinc e34640 (x34277.toInt + 1) rfl (by omega) (fun v34654 hv34654 => ?_)
                refine r_goto ?_
                have bv34655 := q_bnd x34626
                exact ih34283 (100 - v34654.toInt) _ _ ⟨x34626, v34654, by first | rfl | omega, hI34629, hF34630, (w_p1 (by decide) (Or.inr rfl) e34634), (w_p1 (by decide) (Or.inr rfl) e34635), (w_p1 (by decide) (Or.inr rfl) e34636), (w_p1 (by decide) (Or.inr rfl) e34637), (w_p1 (by decide) (Or.inr rfl) e34638), (w_p1 (by decide) (Or.inr rfl) e34639), (w_e1 _ _ _), by omega⟩ ⟨by omega, by omega⟩
              · have c34653_ : v34652.toInt = 0 := en_k_ne_f c34653
                refine At.enter rfl ?_
                refine r_iload e34639 ?_
                refine r_iff 172 rfl (by decide) ?_
                refine At.enter rfl ?_
                refine r_iload e34640 ?_
                refine r_iload e34638 ?_
                have bv34657 := q_bnd x34277
                have bv34658 := q_bnd v23135
                refine r_ics 179 rfl (fun c34656 => ?_) (fun c34656 => ?_)
                · have c34656_ : x34277.toInt < v23135.toInt := en_i_lt_t c34656
                  refine At.enter rfl ?_
                  refine q_iinc e34640 (x34277.toInt + 1) rfl (by omega) (fun v34659 hv34659 => ?_)
                  refine r_goto ?_
                  have bv34660 := q_bnd x34626
                  exact ih34283 (100 - v34659.toInt) _ _ ⟨x34626, v34659, by first | rfl | omega, hI34629, hF34630, (w_p1 (by decide) (Or.inr rfl) e34634), (w_p1 (by decide) (Or.inr rfl) e34635), (w_p1 (by decide) (Or.inr rfl) e34636), (w_p1 (by decide) (Or.inr rfl) e34637), (w_p1 (by decide) (Or.inr rfl) e34638), (w_p1 (by decide) (Or.inr rfl) e34639), (w_e1 _ _ _), by omega⟩ ⟨by omega, by omega⟩
                · have c34656_ : x34277.toInt ≥ v23135.toInt := en_i_lt_f c34656
                  refine At.enter rfl ?_
                  refine r_iconst 0 rfl ?_
                  refine r_iretz (by decide) ?_
                  exact ⟨_, rfl, hI34629, hF34630, _, rfl, by decide⟩
          · have c34646_ : x34627.toInt < v34645.toInt := en_i_ge_f c34646
            refine At.enter rfl ?_
            refine r_iload_n e34637 ?_
            refine r_iload e34641 ?_
            refine q_inlS 101 rfl [.int x34626, .int x34627] [] (Nat.le_of_ble_eq_true rfl) rfl ?_
            refine Ev.mk rfl rfl ⟨Nat.le_of_ble_eq_true rfl, Or.inl rfl⟩ ?_
            show At _ none _ _ (0, [(0, .int x34626), (1, .int x34627)], [], (_, _)) _
            refine At.enter rfl ?_
            refine r_iload_n rfl ?_
            refine r_iload_n rfl ?_
            refine q_ishrO (fun v34661 hv34661 => ?_)
            refine r_iconst 1 rfl ?_
            refine q_iandO (fun v34662 hv34662 => ?_)
            refine r_ifs 8 rfl (fun c34663 => ?_) (fun c34663 => ?_)
            · have c34663_ : v34662.toInt = 0 := en_k_eq_t c34663
              refine At.enter rfl ?_
              refine r_iconst 0 rfl ?_
              refine Ar.fall 13 rfl ?_
              refine At.enter rfl ?_
              refine q_iretz (by decide) ?_
              refine At.enter rfl ?_
              refine r_ift (by decide) ?_
              refine At.enter rfl ?_
              refine r_iload_n e34637 ?_
              refine r_iload e34641 ?_
              refine q_inlS 131 rfl [.int x34626, .int x34627] [] (Nat.le_of_ble_eq_true rfl) rfl ?_
              refine Ev.mk rfl rfl ⟨Nat.le_of_ble_eq_true rfl, Or.inl rfl⟩ ?_
              show At _ none _ _ (0, [(0, .int x34626), (1, .int x34627)], [], (_, _)) _
              refine At.enter rfl ?_
              refine r_iload_n rfl ?_
              refine r_iload_n rfl ?_
              refine q_ishrO (fun v34664 hv34664 => ?_)
              refine r_iconst 1 rfl ?_
              refine q_iandO (fun v34665 hv34665 => ?_)
              refine r_ifs 8 rfl (fun c34666 => ?_) (fun c34666 => ?_)
              · have c34666_ : v34665.toInt = 0 := en_k_eq_t c34666
                refine At.enter rfl ?_
                refine r_iconst 0 rfl ?_
                refine Ar.fall 13 rfl ?_
                refine At.enter rfl ?_
                refine q_iretz (by decide) ?_
                refine At.enter rfl ?_
                refine r_ift (by decide) ?_
                refine At.enter rfl ?_
                refine q_iinc e34641 (x34627.toInt + 1) rfl (by omega) (fun v34667 hv34667 => ?_)
                refine r_goto ?_
                have bv34668 := q_bnd x34626
                exact ih34633 (8 - v34667.toInt) _ _ ⟨x34626, v34667, by first | rfl | omega, hI34629, hF34630, (w_p1 (by decide) (Or.inr rfl) e34634), (w_p1 (by decide) (Or.inr rfl) e34635), (w_p1 (by decide) (Or.inr rfl) e34636), (w_p1 (by decide) (Or.inr rfl) e34637), (w_p1 (by decide) (Or.inr rfl) e34638), (w_p1 (by decide) (Or.inr rfl) e34639), (w_p1 (by decide) (Or.inr rfl) e34640), (w_e1 _ _ _), by omega⟩ ⟨by omega, by omega⟩
              · have c34666_ : v34665.toInt ≠ 0 := en_k_eq_f c34666
                refine At.enter rfl ?_
                refine r_iconst 1 rfl ?_
                refine r_goto ?_
                refine At.enter rfl ?_
                refine q_iretz (by decide) ?_
                refine At.enter rfl ?_
                refine r_iff 134 rfl (by decide) ?_
                refine At.enter rfl ?_
                refine r_iload e34640 ?_
                refine r_aload_n e34634 ?_
                refine q_getR (Sh.ref hI34629.1 kx_204 rfl) ?_
                refine r_iload e34641 ?_
                obtain ⟨v34669, hv34669⟩ : ∃ v, eA g34628 210 x34627.toInt = v := ⟨_, rfl⟩
                refine q_iald (Sh.arr hI34629.1 ka_210) x34627.toInt rfl (by omega) v34669 hv34669 ?_
                refine q_iaddO (fun v34670 _ => ?_)
                refine r_iload_n e34636 ?_
                have bv34672 := q_bnd v34670
                have bv34673 := q_bnd a2
                refine r_ics 148 rfl (fun c34671 => ?_) (fun c34671 => ?_)
                · have c34671_ : v34670.toInt ≤ a2.toInt := en_i_le_t c34671
                  refine At.enter rfl ?_
                  refine q_iinc e34641 (x34627.toInt + 1) rfl (by omega) (fun v34674 hv34674 => ?_)
                  refine r_goto ?_
                  have bv34675 := q_bnd x34626
                  exact ih34633 (8 - v34674.toInt) _ _ ⟨x34626, v34674, by first | rfl | omega, hI34629, hF34630, (w_p1 (by decide) (Or.inr rfl) e34634), (w_p1 (by decide) (Or.inr rfl) e34635), (w_p1 (by decide) (Or.inr rfl) e34636), (w_p1 (by decide) (Or.inr rfl) e34637), (w_p1 (by decide) (Or.inr rfl) e34638), (w_p1 (by decide) (Or.inr rfl) e34639), (w_p1 (by decide) (Or.inr rfl) e34640), (w_e1 _ _ _), by omega⟩ ⟨by omega, by omega⟩
                · have c34671_ : v34670.toInt > a2.toInt := en_i_le_f c34671
                  refine At.enter rfl ?_
                  refine r_iconst 0 rfl ?_
                  refine r_iretz (by decide) ?_
                  exact ⟨_, rfl, hI34629, hF34630, _, rfl, by decide⟩
            · have c34663_ : v34662.toInt ≠ 0 := en_k_eq_f c34663
              refine At.enter rfl ?_
              refine r_iconst 1 rfl ?_
              refine r_goto ?_
              refine At.enter rfl ?_
              refine q_iretz (by decide) ?_
              refine At.enter rfl ?_
              refine r_iff 104 rfl (by decide) ?_
              refine At.enter rfl ?_
              refine r_aload_n e34634 ?_
              refine q_getR (Sh.ref hI34629.1 kx_204 rfl) ?_
              refine r_iload e34641 ?_
              obtain ⟨v34676, hv34676⟩ : ∃ v, eA g34628 212 x34627.toInt = v := ⟨_, rfl⟩
              refine q_iald (Sh.arr hI34629.1 ka_212) x34627.toInt rfl (by omega) v34676 hv34676 ?_
              refine r_iconst (-1) rfl ?_
              refine r_ics 115 rfl (fun c34677 => ?_) (fun c34677 => ?_)
              · have c34677_ : v34676.toInt = (-1) := en_i_eq_t c34677
                refine At.enter rfl ?_
                refine r_iload_n e34637 ?_
                refine r_iload e34641 ?_
                refine q_inlS 131 rfl [.int x34626, .int x34627] [] (Nat.le_of_ble_eq_true rfl) rfl ?_
                refine Ev.mk rfl rfl ⟨Nat.le_of_ble_eq_true rfl, Or.inl rfl⟩ ?_
                show At _ none _ _ (0, [(0, .int x34626), (1, .int x34627)], [], (_, _)) _
                refine At.enter rfl ?_
                refine r_iload_n rfl ?_
                refine r_iload_n rfl ?_
                refine q_ishrO (fun v34678 hv34678 => ?_)
                refine r_iconst 1 rfl ?_
                refine q_iandO (fun v34679 hv34679 => ?_)
                refine r_ifs 8 rfl (fun c34680 => ?_) (fun c34680 => ?_)
                · have c34680_ : v34679.toInt = 0 := en_k_eq_t c34680
                  refine At.enter rfl ?_
                  refine r_iconst 0 rfl ?_
                  refine Ar.fall 13 rfl ?_
                  refine At.enter rfl ?_
                  refine q_iretz (by decide) ?_
                  refine At.enter rfl ?_
                  refine r_ift (by decide) ?_
                  refine At.enter rfl ?_
                  refine q_iinc e34641 (x34627.toInt + 1) rfl (by omega) (fun v34681 hv34681 => ?_)
                  refine r_goto ?_
                  have bv34682 := q_bnd x34626
                  exact ih34633 (8 - v34681.toInt) _ _ ⟨x34626, v34681, by first | rfl | omega, hI34629, hF34630, (w_p1 (by decide) (Or.inr rfl) e34634), (w_p1 (by decide) (Or.inr rfl) e34635), (w_p1 (by decide) (Or.inr rfl) e34636), (w_p1 (by decide) (Or.inr rfl) e34637), (w_p1 (by decide) (Or.inr rfl) e34638), (w_p1 (by decide) (Or.inr rfl) e34639), (w_p1 (by decide) (Or.inr rfl) e34640), (w_e1 _ _ _), by omega⟩ ⟨by omega, by omega⟩
                · have c34680_ : v34679.toInt ≠ 0 := en_k_eq_f c34680
                  refine At.enter rfl ?_
                  refine r_iconst 1 rfl ?_
                  refine r_goto ?_
                  refine At.enter rfl ?_
                  refine q_iretz (by decide) ?_
                  refine At.enter rfl ?_
                  refine r_iff 134 rfl (by decide) ?_
                  refine At.enter rfl ?_
                  refine r_iload e34640 ?_
                  refine r_aload_n e34634 ?_
                  refine q_getR (Sh.ref hI34629.1 kx_204 rfl) ?_
                  refine r_iload e34641 ?_
                  obtain ⟨v34683, hv34683⟩ : ∃ v, eA g34628 210 x34627.toInt = v := ⟨_, rfl⟩
                  refine q_iald (Sh.arr hI34629.1 ka_210) x34627.toInt rfl (by omega) v34683 hv34683 ?_
                  refine q_iaddO (fun v34684 _ => ?_)
                  refine r_iload_n e34636 ?_
                  have bv34686 := q_bnd v34684
                  have bv34687 := q_bnd a2
                  refine r_ics 148 rfl (fun c34685 => ?_) (fun c34685 => ?_)
                  · have c34685_ : v34684.toInt ≤ a2.toInt := en_i_le_t c34685
                    refine At.enter rfl ?_
                    refine q_iinc e34641 (x34627.toInt + 1) rfl (by omega) (fun v34688 hv34688 => ?_)
                    refine r_goto ?_
                    have bv34689 := q_bnd x34626
                    exact ih34633 (8 - v34688.toInt) _ _ ⟨x34626, v34688, by first | rfl | omega, hI34629, hF34630, (w_p1 (by decide) (Or.inr rfl) e34634), (w_p1 (by decide) (Or.inr rfl) e34635), (w_p1 (by decide) (Or.inr rfl) e34636), (w_p1 (by decide) (Or.inr rfl) e34637), (w_p1 (by decide) (Or.inr rfl) e34638), (w_p1 (by decide) (Or.inr rfl) e34639), (w_p1 (by decide) (Or.inr rfl) e34640), (w_e1 _ _ _), by omega⟩ ⟨by omega, by omega⟩
                  · have c34685_ : v34684.toInt > a2.toInt := en_i_le_f c34685
                    refine At.enter rfl ?_
                    refine r_iconst 0 rfl ?_
                    refine r_iretz (by decide) ?_
                    exact ⟨_, rfl, hI34629, hF34630, _, rfl, by decide⟩
              · have c34677_ : v34676.toInt ≠ (-1) := en_i_eq_f c34677
                refine At.enter rfl ?_
                refine r_iload_n e34637 ?_
                refine r_iconst 1 rfl ?_
                refine r_iload e34641 ?_
                refine q_ishlO (fun v34690 hv34690 => ?_)
                refine q_isubO (fun v34691 _ => ?_)
                refine r_istore_n _ rfl ?_
                refine r_goto ?_
                refine At.enter rfl ?_
                refine q_iinc (w_p1 (by decide) (Or.inr rfl) e34641) (x34627.toInt + 1) rfl (by omega) (fun v34692 hv34692 => ?_)
                refine r_goto ?_
                have bv34693 := q_bnd v34691
                exact ih34633 (8 - v34692.toInt) _ _ ⟨v34691, v34692, by first | rfl | omega, hI34629, hF34630, (w_p1 (by decide) (Or.inr rfl) (w_p1 (by decide) (Or.inr rfl) e34634)), (w_p1 (by decide) (Or.inr rfl) (w_p1 (by decide) (Or.inr rfl) e34635)), (w_p1 (by decide) (Or.inr rfl) (w_p1 (by decide) (Or.inr rfl) e34636)), (w_p1 (by decide) (Or.inr rfl) (w_e1 _ _ _)), (w_p1 (by decide) (Or.inr rfl) (w_p1 (by decide) (Or.inr rfl) e34638)), (w_p1 (by decide) (Or.inr rfl) (w_p1 (by decide) (Or.inr rfl) e34639)), (w_p1 (by decide) (Or.inr rfl) (w_p1 (by decide) (Or.inr rfl) e34640)), (w_e1 _ _ _), by omega⟩ ⟨by omega, by omega⟩
  · have c23125_ : v23122.toInt = 0 := en_k_ne_f c23125
    refine At.enter rfl ?_
    refine r_iconst 0 rfl ?_
    refine r_iretz (by decide) ?_
    exact ⟨_, rfl, hI23120, hF23124, _, rfl, by decide⟩
