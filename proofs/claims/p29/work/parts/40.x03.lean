def F_X0_handsOf_1 : List (Nat × Nat) := []
def A_X0_handsOf_1 : List Nat := []
theorem ma_X0_about_1_5 : memA A_X0_about_1 5 = false := by decide
theorem mf_X0_about_1_1_4 : memF F_X0_about_1 1 4 = false := by decide
set_option maxRecDepth 100000 in
set_option maxHeartbeats 4000000 in
theorem T_X0_handsOf_1 (d : Nat) {N : Nat} {g0 : List en_E} (hI0 : HI g0) (a1 : Int32) : Ev (d + 3) 14 [.ref 1, .int a1] (g0, N) (fun w h' => ∃ g', h' = (g', N) ∧ HI g' ∧ Fr F_X0_handsOf_1 A_X0_handsOf_1 g0 g' ∧ ∃ r : Int32, w = some (.int r) ∧ ((-1) ≤ r.toInt ∧ r.toInt ≤ 11) ∧ (WAYX g0 a1.toInt r.toInt)) := by
  have hF0 : Fr F_X0_handsOf_1 A_X0_handsOf_1 g0 g0 := Fr.rf
  refine Ev.mk rfl rfl ⟨Nat.le_of_ble_eq_true rfl, Or.inr (q_rc hI0.1 kx_1 rfl)⟩ ?_
  show At _ none _ _ (0, [(0, .ref 1), (1, .int a1)], [], (_, _)) _
  refine At.enter rfl ?_
  refine r_aload_n rfl ?_
  refine r_iload_n rfl ?_
  refine r_iconst 1 rfl ?_
  refine r_callV 6 rfl [.ref 1, .int a1, .int 1] [] (Nat.le_of_ble_eq_true rfl) rfl (T_X0_about_1 _ hI0 a1 1) ?_
  rintro _ _ ⟨g369, rfl, hI370, hF371, v372, rfl, hr373⟩
  refine At.sti ?_
  have ks376 := hr373.2.2
  have hr375 : _ ∧ _ := ⟨hr373.1, hr373.2.1⟩
  have hF374 := Fr.tr hF0 hF371 rfl rfl
  have zv377 : (1 : Int32).toInt = 1 := rfl
  have ab378 : ABX g0 a1.toInt 1 v372.toInt := hr375.2
  refine At.enter rfl ?_
  refine r_istore_n ([(2, .int v372), (0, .ref 1), (1, .int a1)]) rfl ?_
  refine r_aload_n rfl ?_
  refine r_iload_n rfl ?_
  refine r_iconst 2 rfl ?_
  refine r_callV 13 rfl [.ref 1, .int a1, .int 2] [] (Nat.le_of_ble_eq_true rfl) rfl (T_X0_about_1 _ hI370 a1 2) ?_
  rintro _ _ ⟨g379, rfl, hI380, hF381, v382, rfl, hr383⟩
  refine At.sti ?_
  have ks386 := hr383.2.2
  have hr385 : _ ∧ _ := ⟨hr383.1, hr383.2.1⟩
  have hF384 := Fr.tr hF374 hF381 rfl rfl
  have zv387 : (2 : Int32).toInt = 2 := rfl
  have ab388_ := ABX.c ((hF371.2.1 5 ma_X0_about_1_5)) ((hF371.1 1 4 mf_X0_about_1_1_4)) hr385.2
  have ab388 : ABX g0 a1.toInt 2 v382.toInt := ab388_
  refine At.enter rfl ?_
  refine r_istore_n ([(3, .int v382), (2, .int v372), (0, .ref 1), (1, .int a1)]) rfl ?_
  refine r_iconst 0 rfl ?_
  refine r_istore ([(4, .int 0), (3, .int v382), (2, .int v372), (0, .ref 1), (1, .int a1)]) rfl ?_
  refine Ar.fall 17 rfl ?_
  have z_541 : (0 : Int32).toInt = 0 := rfl
  refine w_loopI (fun n_ l_ g_ => ∃ x524 : Int32, ∃ x525 : Int32, n_ = 12 - x525.toInt ∧ HI g_ ∧ Fr F_X0_handsOf_1 A_X0_handsOf_1 g0 g_ ∧ en_get 0 l_ = some (.ref 1) ∧ en_get 1 l_ = some (.int a1) ∧ en_get 2 l_ = some (.int x524) ∧ en_get 3 l_ = some (.int v382) ∧ en_get 4 l_ = some (.int x525) ∧ (0 ≤ x525.toInt ∧ x525.toInt ≤ 12) ∧ (x524.toInt = itI (NX g0) x525.toInt v372.toInt) ∧ (∀ j : Int, 0 ≤ j → j < x525.toInt → itI (NX g0) j v372.toInt ≠ v382.toInt) ∧ (0 ≤ x525.toInt)) ?_ (12 - 0) ⟨v372, 0, by first | rfl | omega, hI380, hF384, rfl, rfl, rfl, rfl, rfl, by decide, (itI_n _ (by first | decide | omega) _).symm, (fun j h0 h1 => absurd h1 (by omega)), by omega⟩
  rintro n530 l529 g526 ⟨x524, x525, hm542, hI527, hF528, e532, e533, e534, e535, e536, r537, q538, q539, q540⟩ ih531
  refine At.enter rfl ?_
  refine r_iload e536 ?_
  refine r_bipush 12 rfl ?_
  refine r_ics 24 rfl (fun c543 => ?_) (fun c543 => ?_)
  · have c543_ : x525.toInt ≥ 12 := en_i_ge_t c543
    refine At.enter rfl ?_
    refine r_iconst (-1) rfl ?_
    refine r_ireti ?_
    have zv544 : ((-1) : Int32).toInt = (-1) := rfl
    exact ⟨_, rfl, hI527, hF528, _, rfl, by decide, (WAYX.mk ab378 ab388 (fun hw => by first | exact WAYF.a x525.toInt (by omega) (by omega) (by rw [← q538]; omega) q539 (by omega) | exact WAYF.n (NX.e g0) hw q539 (by rw [← q538]; omega) (by omega)))⟩
  · have c543_ : x525.toInt < 12 := en_i_ge_f c543
    refine At.enter rfl ?_
    refine r_iload_n e534 ?_
    refine r_iconst (-1) rfl ?_
    refine r_ics 29 rfl (fun c545 => ?_) (fun c545 => ?_)
    · have c545_ : x524.toInt = (-1) := en_i_eq_t c545
      refine At.enter rfl ?_
      refine r_iconst (-1) rfl ?_
      refine r_ireti ?_
      have zv546 : ((-1) : Int32).toInt = (-1) := rfl
      exact ⟨_, rfl, hI527, hF528, _, rfl, by decide, (WAYX.mk ab378 ab388 (fun hw => by first | exact WAYF.a x525.toInt (by omega) (by omega) (by rw [← q538]; omega) q539 (by omega) | exact WAYF.n (NX.e g0) hw q539 (by rw [← q538]; omega) (by omega)))⟩
    · have c545_ : x524.toInt ≠ (-1) := en_i_eq_f c545
      refine At.enter rfl ?_
      refine r_iload_n e534 ?_
      refine r_iload_n e535 ?_
      refine r_ics 34 rfl (fun c547 => ?_) (fun c547 => ?_)
      · have c547_ : x524.toInt ≠ v382.toInt := en_i_ne_t c547
        refine At.enter rfl ?_
        refine r_aload_n e532 ?_
        refine r_iload_n e534 ?_
        refine r_callV 42 rfl [.ref 1, .int x524] [] (Nat.le_of_ble_eq_true rfl) rfl (T_X0_next_1 _ hI527 x524) ?_
        rintro _ _ ⟨g548, rfl, hI549, hF550, v551, rfl, hr552⟩
        refine At.sti ?_
        have ks555 := hr552.2.2
        have hr554 : _ ∧ _ := ⟨hr552.1, hr552.2.1⟩
        have hF553 := Fr.tr hF528 hF550 rfl rfl
        rw [NX.c ((hF528.2.1 2 (by decide))) ((hF528.1 1 0 (by decide)))] at hr554
        refine At.enter rfl ?_
        refine r_istore_n _ rfl ?_
        refine q_iinc (w_p1 (by decide) (Or.inr rfl) e536) (x525.toInt + 1) rfl (by omega) (fun v556 hv556 => ?_)
        refine r_goto ?_
        have bv557 := q_bnd v551
        exact ih531 (12 - v556.toInt) _ _ ⟨v551, v556, by first | rfl | omega, hI549, hF553, (w_p1 (by decide) (Or.inr rfl) (w_p1 (by decide) (Or.inr rfl) e532)), (w_p1 (by decide) (Or.inr rfl) (w_p1 (by decide) (Or.inr rfl) e533)), (w_p1 (by decide) (Or.inr rfl) (w_e1 _ _ _)), (w_p1 (by decide) (Or.inr rfl) (w_p1 (by decide) (Or.inr rfl) e535)), (w_e1 _ _ _), by omega, (by rw [show v556.toInt = x525.toInt + 1 from by omega, itI_s (NX g0) (by omega), ← q538]; omega), (WAYF.step q539 (by rw [← q538]; omega) (show v556.toInt = x525.toInt + 1 from by omega)), by omega⟩ ⟨by omega, by omega⟩
      · have c547_ : x524.toInt = v382.toInt := en_i_ne_f c547
        refine At.enter rfl ?_
        refine r_iload e536 ?_
        refine r_ireti ?_
        exact ⟨_, rfl, hI527, hF528, _, rfl, by omega, (WAYX.mk ab378 ab388 (fun hw => by first | exact WAYF.a x525.toInt (by omega) (by omega) (by rw [← q538]; omega) q539 (by omega) | exact WAYF.n (NX.e g0) hw q539 (by rw [← q538]; omega) (by omega)))⟩

def F_X4_speaksOf_law : List (Nat × Nat) := []
def A_X4_speaksOf_law : List Nat := []
set_option maxRecDepth 100000 in
set_option maxHeartbeats 4000000 in
theorem T_X4_speaksOf_law (d : Nat) {N : Nat} {g0 : List en_E} (hI0 : HI g0) (q0 : Nat) (hq0 : Lw q0) (a1 : Int32) : Ev (d + 2) 58 [.ref (q0), .int a1] (g0, N) (fun w h' => ∃ g', h' = (g', N) ∧ HI g' ∧ Fr F_X4_speaksOf_law A_X4_speaksOf_law g0 g' ∧ ∃ r : Int32, w = some (.int r) ∧ (0 ≤ r.toInt ∧ r.toInt ≤ 1) ∧ (BL (hbI (gI g0 q0 4) a1.toInt) r.toInt)) := by
  have hF0 : Fr F_X4_speaksOf_law A_X4_speaksOf_law g0 g0 := Fr.rf
  refine Ev.mk rfl rfl ⟨Nat.le_of_ble_eq_true rfl, Or.inr (q_rc hI0.1 (Lw.ko hq0) rfl)⟩ ?_
  show At _ none _ _ (0, [(0, .ref (q0)), (1, .int a1)], [], (_, _)) _
  refine At.enter rfl ?_
  refine r_aload_n rfl ?_
  refine q_getI' (Sh.int hI0.1 (Lw.ko hq0) rfl) (fun v15 hv15 => ?_)
  refine r_iload_n rfl ?_
  refine r_callS 8 rfl [.int v15, .int a1] [] (Nat.le_of_ble_eq_true rfl) rfl (T_X10_hasBit_hb _ hI0 v15 a1) ?_
  rintro _ _ ⟨g16, rfl, hI17, hF18, v19, rfl, hr20⟩
  refine At.sti ?_
  have hF21 := Fr.tr hF0 hF18 rfl rfl
  refine At.enter rfl ?_
  refine r_iretz (q_b01 (by omega)) ?_
  exact ⟨_, rfl, hI17, hF21, _, rfl, by omega, (by rw [hv15]; exact hr20.2)⟩

def F_X4_asksOfTime_law : List (Nat × Nat) := []
def A_X4_asksOfTime_law : List Nat := []
set_option maxRecDepth 100000 in
set_option maxHeartbeats 4000000 in
theorem T_X4_asksOfTime_law (d : Nat) {N : Nat} {g0 : List en_E} (hI0 : HI g0) (q0 : Nat) (hq0 : Lw q0) : Ev (d + 1) 59 [.ref (q0)] (g0, N) (fun w h' => ∃ g', h' = (g', N) ∧ HI g' ∧ Fr F_X4_asksOfTime_law A_X4_asksOfTime_law g0 g' ∧ ∃ r : Int32, w = some (.int r) ∧ (0 ≤ r.toInt ∧ r.toInt ≤ 1)) := by
  have hF0 : Fr F_X4_asksOfTime_law A_X4_asksOfTime_law g0 g0 := Fr.rf
  refine Ev.mk rfl rfl ⟨Nat.le_of_ble_eq_true rfl, Or.inr (q_rc hI0.1 (Lw.ko hq0) rfl)⟩ ?_
  show At _ none _ _ (0, [(0, .ref (q0))], [], (_, _)) _
  refine At.enter rfl ?_
  refine r_iconst 0 rfl ?_
  refine r_istore_n ([(1, .int 0), (0, .ref (q0))]) rfl ?_
  refine Ar.fall 2 rfl ?_
  have z_781 : (0 : Int32).toInt = 0 := rfl
  refine w_loopI (fun n_ l_ g_ => ∃ x771 : Int32, n_ = 400 - x771.toInt ∧ HI g_ ∧ Fr F_X4_asksOfTime_law A_X4_asksOfTime_law g0 g_ ∧ en_get 0 l_ = some (.ref (q0)) ∧ en_get 1 l_ = some (.int x771) ∧ (0 ≤ x771.toInt ∧ x771.toInt ≤ 400)) ?_ (400 - 0) ⟨0, by first | rfl | omega, hI0, hF0, rfl, rfl, by decide⟩
  rintro n776 l775 g772 ⟨x771, hm782, hI773, hF774, e778, e779, r780⟩ ih777
  refine At.enter rfl ?_
  refine r_iload_n e779 ?_
  refine r_aload_n e778 ?_
  refine q_getI' (Sh.int hI773.1 (Lw.ko hq0) rfl) (fun v783 hv783 => ?_)
  have rv783 := RgF.at hI773.2.1 (Lw.r0 hq0)
  rw [hv783] at rv783
  dsimp only at rv783
  have bv785 := q_bnd x771
  have bv786 := q_bnd v783
  refine r_ics 10 rfl (fun c784 => ?_) (fun c784 => ?_)
  · have c784_ : x771.toInt ≥ v783.toInt := en_i_ge_t c784
    refine At.enter rfl ?_
    refine r_iconst 0 rfl ?_
    refine r_iretz (by decide) ?_
    exact ⟨_, rfl, hI773, hF774, _, rfl, by decide⟩
  · have c784_ : x771.toInt < v783.toInt := en_i_ge_f c784
    refine At.enter rfl ?_
    refine r_iload_n e779 ?_
    refine r_sipush 400 rfl ?_
    refine r_ics 17 rfl (fun c787 => ?_) (fun c787 => ?_)
    · have c787_ : x771.toInt ≥ 400 := en_i_ge_t c787
      exfalso; omega
    · have c787_ : x771.toInt < 400 := en_i_ge_f c787
      refine At.enter rfl ?_
      refine r_aload_n e778 ?_
      refine q_getR (Sh.ref hI773.1 (Lw.ko hq0) rfl) ?_
      refine r_iload_n e779 ?_
      refine q_iald' (Sh.arr hI773.1 (Lw.k1 hq0)) x771.toInt rfl (by omega) (fun v788 hv788 => ?_)
      refine r_iconst 1 rfl ?_
      refine r_ics 27 rfl (fun c789 => ?_) (fun c789 => ?_)
      · have c789_ : v788.toInt ≠ 1 := en_i_ne_t c789
        refine At.enter rfl ?_
        refine q_iinc e779 (x771.toInt + 1) rfl (by omega) (fun v790 hv790 => ?_)
        refine r_goto ?_
        exact ih777 (400 - v790.toInt) _ _ ⟨v790, by first | rfl | omega, hI773, hF774, (w_p1 (by decide) (Or.inr rfl) e778), (w_e1 _ _ _), by omega⟩ ⟨by omega, by omega⟩
      · have c789_ : v788.toInt = 1 := en_i_ne_f c789
        refine At.enter rfl ?_
        refine r_aload_n e778 ?_
        refine q_getR (Sh.ref hI773.1 (Lw.ko hq0) rfl) ?_
        refine r_iload_n e779 ?_
        refine q_iald' (Sh.arr hI773.1 (Lw.k2 hq0)) x771.toInt rfl (by omega) (fun v791 hv791 => ?_)
        refine r_iconst 5 rfl ?_
        refine r_ics 37 rfl (fun c792 => ?_) (fun c792 => ?_)
        · have c792_ : v791.toInt = 5 := en_i_eq_t c792
          refine At.enter rfl ?_
          refine r_iconst 1 rfl ?_
          refine r_iretz (by decide) ?_
          exact ⟨_, rfl, hI773, hF774, _, rfl, by decide⟩
        · have c792_ : v791.toInt ≠ 5 := en_i_eq_f c792
          refine At.enter rfl ?_
          refine r_aload_n e778 ?_
          refine q_getR (Sh.ref hI773.1 (Lw.ko hq0) rfl) ?_
          refine r_iload_n e779 ?_
          refine q_iald' (Sh.arr hI773.1 (Lw.k2 hq0)) x771.toInt rfl (by omega) (fun v793 hv793 => ?_)
          refine r_bipush 6 rfl ?_
          refine r_ics 48 rfl (fun c794 => ?_) (fun c794 => ?_)
          · have c794_ : v793.toInt ≠ 6 := en_i_ne_t c794
            refine At.enter rfl ?_
            refine q_iinc e779 (x771.toInt + 1) rfl (by omega) (fun v795 hv795 => ?_)
            refine r_goto ?_
            exact ih777 (400 - v795.toInt) _ _ ⟨v795, by first | rfl | omega, hI773, hF774, (w_p1 (by decide) (Or.inr rfl) e778), (w_e1 _ _ _), by omega⟩ ⟨by omega, by omega⟩
          · have c794_ : v793.toInt = 6 := en_i_ne_f c794
            refine At.enter rfl ?_
            refine r_iconst 1 rfl ?_
            refine r_iretz (by decide) ?_
            exact ⟨_, rfl, hI773, hF774, _, rfl, by decide⟩

def F_X3_joined_185 : List (Nat × Nat) := [(185, 3)]
def A_X3_joined_185 : List Nat := []
set_option maxRecDepth 100000 in
set_option maxHeartbeats 4000000 in
theorem T_X3_joined_185 (d : Nat) {N : Nat} {g0 : List en_E} (hI0 : HI g0) (a1 : Int32) (a2 : Int64) (a3 : Int64) : Ev (d + 1) 54 [.ref 185, .int a1, .long a2, .long a3] (g0, N) (fun w h' => ∃ g', h' = (g', N) ∧ HI g' ∧ Fr F_X3_joined_185 A_X3_joined_185 g0 g' ∧ ∃ r : Int64, w = some (.long r) ∧ True ∧ JNQ g0 g' a1.toInt a2 a3 r) := by
  have hF0 : Fr F_X3_joined_185 A_X3_joined_185 g0 g0 := Fr.rf
  refine Ev.mk rfl rfl ⟨Nat.le_of_ble_eq_true rfl, Or.inr (q_rc hI0.1 kx_185 rfl)⟩ ?_
  show At _ none _ _ (0, [(0, .ref 185), (1, .int a1), (2, .long a2), (4, .long a3)], [], (_, _)) _
  refine At.enter rfl ?_
  refine r_lconst 0 rfl ?_
  refine r_lstore ([(6, .long 0), (0, .ref 185), (1, .int a1), (2, .long a2), (4, .long a3)]) rfl ?_
  refine r_iload_n rfl ?_
  by_cases c125_0 : a1.toInt = 2
  · refine r_tsw 44 (by rw [c125_0]; rfl) ?_
    refine At.enter rfl ?_
    refine r_lload_n rfl ?_
    refine r_lload rfl ?_
    refine q_laddO (fun v126 lv126 => ?_)
    refine r_lstore ([(6, .long v126), (0, .ref 185), (1, .int a1), (2, .long a2), (4, .long a3)]) rfl ?_
    refine r_goto ?_
    refine At.enter rfl ?_
    refine r_aload_n rfl ?_
    refine r_aload_n rfl ?_
    obtain ⟨v127, hv127⟩ : ∃ v, gI g0 185 3 = v := ⟨_, rfl⟩
    refine q_getI (Sh.int hI0.1 kx_185 rfl) v127 hv127 ?_
    refine r_ifs 142 rfl (fun c128 => ?_) (fun c128 => ?_)
    · have c128_ : v127.toInt ≠ 0 := en_k_ne_t c128
      refine At.enter rfl ?_
      refine r_iconst 1 rfl ?_
      refine r_goto ?_
      refine At.enter rfl ?_
      refine q_putI (Sh.int hI0.1 kx_185 rfl) rfl ?_
      have hI129 := HI.wI0 hI0 kx_185 rfl (p := 185) (b := 3) (v := 1) rfl
      have hF130 := Fr.wI (p := 185) (b := 3) (v := 1) hF0 rfl
      refine r_lload rfl ?_
      refine r_lret ?_
      exact ⟨_, rfl, hI129, hF130, _, rfl, trivial, ⟨(KSM_I KSM_rf), fun h0 ha hb k2 k8 => by first | exact absurd h0 (by rw [hv127]; omega) | exact JNP_out (JV_add (by omega) lv126 ha hb) (by omega) (fun q => absurd ((congrArg Int32.toInt ((gI_sI_eq hI0.1 kx_185 rfl _))).symm.trans q) (by decide))⟩⟩
    · have c128_ : v127.toInt = 0 := en_k_ne_f c128
      refine At.enter rfl ?_
      refine r_lload rfl ?_
      refine r_ldc2 1000000000 rfl ?_
      refine r_lcmp _ rfl ?_
      refine r_ifs 151 rfl (fun c131 => ?_) (fun c131 => ?_)
      · have c131_ : v126.toInt > 1000000000 := en_j_gt_t c131
        refine At.enter rfl ?_
        refine r_iconst 1 rfl ?_
        refine r_goto ?_
        refine At.enter rfl ?_
        refine q_putI (Sh.int hI0.1 kx_185 rfl) rfl ?_
        have hI132 := HI.wI0 hI0 kx_185 rfl (p := 185) (b := 3) (v := 1) rfl
        have hF133 := Fr.wI (p := 185) (b := 3) (v := 1) hF0 rfl
        refine r_lload rfl ?_
        refine r_lret ?_
        exact ⟨_, rfl, hI132, hF133, _, rfl, trivial, ⟨(KSM_I KSM_rf), fun h0 ha hb k2 k8 => by first | exact absurd h0 (by rw [hv127]; omega) | exact JNP_out (JV_add (by omega) lv126 ha hb) (by omega) (fun q => absurd ((congrArg Int32.toInt ((gI_sI_eq hI0.1 kx_185 rfl _))).symm.trans q) (by decide))⟩⟩
      · have c131_ : v126.toInt ≤ 1000000000 := en_j_gt_f c131
        refine At.enter rfl ?_
        refine r_lload rfl ?_
        refine r_ldc2 (-1000000000) rfl ?_
        refine r_lcmp _ rfl ?_
        refine r_ifs 160 rfl (fun c134 => ?_) (fun c134 => ?_)
        · have c134_ : v126.toInt ≥ (-1000000000) := en_j_ge_t c134
          refine At.enter rfl ?_
          refine r_iconst 0 rfl ?_
          refine Ar.fall 165 rfl ?_
          refine At.enter rfl ?_
          refine q_putI (Sh.int hI0.1 kx_185 rfl) rfl ?_
          have hI135 := HI.wI0 hI0 kx_185 rfl (p := 185) (b := 3) (v := 0) rfl
          have hF136 := Fr.wI (p := 185) (b := 3) (v := 0) hF0 rfl
          refine r_lload rfl ?_
          refine r_lret ?_
          exact ⟨_, rfl, hI135, hF136, _, rfl, trivial, ⟨(KSM_I KSM_rf), fun h0 ha hb k2 k8 => by first | exact absurd h0 (by rw [hv127]; omega) | exact JNP_in (JV_add (by omega) lv126 ha hb) (by omega) (by omega) (by omega) ((congrArg Int32.toInt ((gI_sI_eq hI0.1 kx_185 rfl _))).trans rfl)⟩⟩
        · have c134_ : v126.toInt < (-1000000000) := en_j_ge_f c134
          refine At.enter rfl ?_
          refine r_iconst 1 rfl ?_
          refine r_goto ?_
          refine At.enter rfl ?_
          refine q_putI (Sh.int hI0.1 kx_185 rfl) rfl ?_
          have hI137 := HI.wI0 hI0 kx_185 rfl (p := 185) (b := 3) (v := 1) rfl
          have hF138 := Fr.wI (p := 185) (b := 3) (v := 1) hF0 rfl
          refine r_lload rfl ?_
          refine r_lret ?_
          exact ⟨_, rfl, hI137, hF138, _, rfl, trivial, ⟨(KSM_I KSM_rf), fun h0 ha hb k2 k8 => by first | exact absurd h0 (by rw [hv127]; omega) | exact JNP_out (JV_add (by omega) lv126 ha hb) (by omega) (fun q => absurd ((congrArg Int32.toInt ((gI_sI_eq hI0.1 kx_185 rfl _))).symm.trans q) (by decide))⟩⟩
  by_cases c125_1 : a1.toInt = 3
  · refine r_tsw 53 (by rw [c125_1]; rfl) ?_
    refine At.enter rfl ?_
    refine r_lload_n rfl ?_
    refine r_lload rfl ?_
    refine q_lsubO (fun v139 lv139 => ?_)
    refine r_lstore ([(6, .long v139), (0, .ref 185), (1, .int a1), (2, .long a2), (4, .long a3)]) rfl ?_
    refine r_goto ?_
    refine At.enter rfl ?_
    refine r_aload_n rfl ?_
    refine r_aload_n rfl ?_
    obtain ⟨v140, hv140⟩ : ∃ v, gI g0 185 3 = v := ⟨_, rfl⟩
    refine q_getI (Sh.int hI0.1 kx_185 rfl) v140 hv140 ?_
    refine r_ifs 142 rfl (fun c141 => ?_) (fun c141 => ?_)
    · have c141_ : v140.toInt ≠ 0 := en_k_ne_t c141
      refine At.enter rfl ?_
      refine r_iconst 1 rfl ?_
      refine r_goto ?_
      refine At.enter rfl ?_
      refine q_putI (Sh.int hI0.1 kx_185 rfl) rfl ?_
      have hI142 := HI.wI0 hI0 kx_185 rfl (p := 185) (b := 3) (v := 1) rfl
      have hF143 := Fr.wI (p := 185) (b := 3) (v := 1) hF0 rfl
      refine r_lload rfl ?_
      refine r_lret ?_
      exact ⟨_, rfl, hI142, hF143, _, rfl, trivial, ⟨(KSM_I KSM_rf), fun h0 ha hb k2 k8 => by first | exact absurd h0 (by rw [hv140]; omega) | exact JNP_out (JV_sub (by omega) lv139 ha hb) (by omega) (fun q => absurd ((congrArg Int32.toInt ((gI_sI_eq hI0.1 kx_185 rfl _))).symm.trans q) (by decide))⟩⟩
    · have c141_ : v140.toInt = 0 := en_k_ne_f c141
      refine At.enter rfl ?_
      refine r_lload rfl ?_
      refine r_ldc2 1000000000 rfl ?_
      refine r_lcmp _ rfl ?_
      refine r_ifs 151 rfl (fun c144 => ?_) (fun c144 => ?_)
      · have c144_ : v139.toInt > 1000000000 := en_j_gt_t c144
        refine At.enter rfl ?_
        refine r_iconst 1 rfl ?_
        refine r_goto ?_
        refine At.enter rfl ?_
        refine q_putI (Sh.int hI0.1 kx_185 rfl) rfl ?_
        have hI145 := HI.wI0 hI0 kx_185 rfl (p := 185) (b := 3) (v := 1) rfl
        have hF146 := Fr.wI (p := 185) (b := 3) (v := 1) hF0 rfl
        refine r_lload rfl ?_
        refine r_lret ?_
        exact ⟨_, rfl, hI145, hF146, _, rfl, trivial, ⟨(KSM_I KSM_rf), fun h0 ha hb k2 k8 => by first | exact absurd h0 (by rw [hv140]; omega) | exact JNP_out (JV_sub (by omega) lv139 ha hb) (by omega) (fun q => absurd ((congrArg Int32.toInt ((gI_sI_eq hI0.1 kx_185 rfl _))).symm.trans q) (by decide))⟩⟩
      · have c144_ : v139.toInt ≤ 1000000000 := en_j_gt_f c144
        refine At.enter rfl ?_
        refine r_lload rfl ?_
        refine r_ldc2 (-1000000000) rfl ?_
        refine r_lcmp _ rfl ?_
        refine r_ifs 160 rfl (fun c147 => ?_) (fun c147 => ?_)
        · have c147_ : v139.toInt ≥ (-1000000000) := en_j_ge_t c147
          refine At.enter rfl ?_
          refine r_iconst 0 rfl ?_
          refine Ar.fall 165 rfl ?_
          refine At.enter rfl ?_
          refine q_putI (Sh.int hI0.1 kx_185 rfl) rfl ?_
          have hI148 := HI.wI0 hI0 kx_185 rfl (p := 185) (b := 3) (v := 0) rfl
          have hF149 := Fr.wI (p := 185) (b := 3) (v := 0) hF0 rfl
          refine r_lload rfl ?_
          refine r_lret ?_
          exact ⟨_, rfl, hI148, hF149, _, rfl, trivial, ⟨(KSM_I KSM_rf), fun h0 ha hb k2 k8 => by first | exact absurd h0 (by rw [hv140]; omega) | exact JNP_in (JV_sub (by omega) lv139 ha hb) (by omega) (by omega) (by omega) ((congrArg Int32.toInt ((gI_sI_eq hI0.1 kx_185 rfl _))).trans rfl)⟩⟩
        · have c147_ : v139.toInt < (-1000000000) := en_j_ge_f c147
          refine At.enter rfl ?_
          refine r_iconst 1 rfl ?_
          refine r_goto ?_
          refine At.enter rfl ?_
          refine q_putI (Sh.int hI0.1 kx_185 rfl) rfl ?_
          have hI150 := HI.wI0 hI0 kx_185 rfl (p := 185) (b := 3) (v := 1) rfl
          have hF151 := Fr.wI (p := 185) (b := 3) (v := 1) hF0 rfl
          refine r_lload rfl ?_
          refine r_lret ?_
          exact ⟨_, rfl, hI150, hF151, _, rfl, trivial, ⟨(KSM_I KSM_rf), fun h0 ha hb k2 k8 => by first | exact absurd h0 (by rw [hv140]; omega) | exact JNP_out (JV_sub (by omega) lv139 ha hb) (by omega) (fun q => absurd ((congrArg Int32.toInt ((gI_sI_eq hI0.1 kx_185 rfl _))).symm.trans q) (by decide))⟩⟩
  by_cases c125_2 : a1.toInt = 4
  · refine r_tsw 62 (by rw [c125_2]; rfl) ?_
    refine At.enter rfl ?_
    refine r_lload_n rfl ?_
    refine r_lload rfl ?_
    refine q_lmulO (fun v152 lv152 => ?_)
    refine r_lstore ([(6, .long v152), (0, .ref 185), (1, .int a1), (2, .long a2), (4, .long a3)]) rfl ?_
    refine r_goto ?_
    refine At.enter rfl ?_
    refine r_aload_n rfl ?_
    refine r_aload_n rfl ?_
    obtain ⟨v153, hv153⟩ : ∃ v, gI g0 185 3 = v := ⟨_, rfl⟩
    refine q_getI (Sh.int hI0.1 kx_185 rfl) v153 hv153 ?_
    refine r_ifs 142 rfl (fun c154 => ?_) (fun c154 => ?_)
    · have c154_ : v153.toInt ≠ 0 := en_k_ne_t c154
      refine At.enter rfl ?_
      refine r_iconst 1 rfl ?_
      refine r_goto ?_
      refine At.enter rfl ?_
      refine q_putI (Sh.int hI0.1 kx_185 rfl) rfl ?_
      have hI155 := HI.wI0 hI0 kx_185 rfl (p := 185) (b := 3) (v := 1) rfl
      have hF156 := Fr.wI (p := 185) (b := 3) (v := 1) hF0 rfl
      refine r_lload rfl ?_
      refine r_lret ?_
      exact ⟨_, rfl, hI155, hF156, _, rfl, trivial, ⟨(KSM_I KSM_rf), fun h0 ha hb k2 k8 => by first | exact absurd h0 (by rw [hv153]; omega) | exact JNP_out (JV_mul (by omega) lv152 ha hb) (by omega) (fun q => absurd ((congrArg Int32.toInt ((gI_sI_eq hI0.1 kx_185 rfl _))).symm.trans q) (by decide))⟩⟩
    · have c154_ : v153.toInt = 0 := en_k_ne_f c154
      refine At.enter rfl ?_
      refine r_lload rfl ?_
      refine r_ldc2 1000000000 rfl ?_
      refine r_lcmp _ rfl ?_
      refine r_ifs 151 rfl (fun c157 => ?_) (fun c157 => ?_)
      · have c157_ : v152.toInt > 1000000000 := en_j_gt_t c157
        refine At.enter rfl ?_
        refine r_iconst 1 rfl ?_
        refine r_goto ?_
        refine At.enter rfl ?_
        refine q_putI (Sh.int hI0.1 kx_185 rfl) rfl ?_
        have hI158 := HI.wI0 hI0 kx_185 rfl (p := 185) (b := 3) (v := 1) rfl
        have hF159 := Fr.wI (p := 185) (b := 3) (v := 1) hF0 rfl
        refine r_lload rfl ?_
        refine r_lret ?_
        exact ⟨_, rfl, hI158, hF159, _, rfl, trivial, ⟨(KSM_I KSM_rf), fun h0 ha hb k2 k8 => by first | exact absurd h0 (by rw [hv153]; omega) | exact JNP_out (JV_mul (by omega) lv152 ha hb) (by omega) (fun q => absurd ((congrArg Int32.toInt ((gI_sI_eq hI0.1 kx_185 rfl _))).symm.trans q) (by decide))⟩⟩
      · have c157_ : v152.toInt ≤ 1000000000 := en_j_gt_f c157
        refine At.enter rfl ?_
        refine r_lload rfl ?_
        refine r_ldc2 (-1000000000) rfl ?_
        refine r_lcmp _ rfl ?_
        refine r_ifs 160 rfl (fun c160 => ?_) (fun c160 => ?_)
        · have c160_ : v152.toInt ≥ (-1000000000) := en_j_ge_t c160
          refine At.enter rfl ?_
          refine r_iconst 0 rfl ?_
          refine Ar.fall 165 rfl ?_
          refine At.enter rfl ?_
          refine q_putI (Sh.int hI0.1 kx_185 rfl) rfl ?_
          have hI161 := HI.wI0 hI0 kx_185 rfl (p := 185) (b := 3) (v := 0) rfl
          have hF162 := Fr.wI (p := 185) (b := 3) (v := 0) hF0 rfl
          refine r_lload rfl ?_
          refine r_lret ?_
          exact ⟨_, rfl, hI161, hF162, _, rfl, trivial, ⟨(KSM_I KSM_rf), fun h0 ha hb k2 k8 => by first | exact absurd h0 (by rw [hv153]; omega) | exact JNP_in (JV_mul (by omega) lv152 ha hb) (by omega) (by omega) (by omega) ((congrArg Int32.toInt ((gI_sI_eq hI0.1 kx_185 rfl _))).trans rfl)⟩⟩
        · have c160_ : v152.toInt < (-1000000000) := en_j_ge_f c160
          refine At.enter rfl ?_
          refine r_iconst 1 rfl ?_
          refine r_goto ?_
          refine At.enter rfl ?_
          refine q_putI (Sh.int hI0.1 kx_185 rfl) rfl ?_
          have hI163 := HI.wI0 hI0 kx_185 rfl (p := 185) (b := 3) (v := 1) rfl
          have hF164 := Fr.wI (p := 185) (b := 3) (v := 1) hF0 rfl
          refine r_lload rfl ?_
          refine r_lret ?_
          exact ⟨_, rfl, hI163, hF164, _, rfl, trivial, ⟨(KSM_I KSM_rf), fun h0 ha hb k2 k8 => by first | exact absurd h0 (by rw [hv153]; omega) | exact JNP_out (JV_mul (by omega) lv152 ha hb) (by omega) (fun q => absurd ((congrArg Int32.toInt ((gI_sI_eq hI0.1 kx_185 rfl _))).symm.trans q) (by decide))⟩⟩
  by_cases c125_3 : a1.toInt = 5
  · refine r_tsw 71 (by rw [c125_3]; rfl) ?_
    refine At.enter rfl ?_
    refine r_lload rfl ?_
    refine r_lconst 0 rfl ?_
    refine r_lcmp _ rfl ?_
    refine r_ifs 78 rfl (fun c165 => ?_) (fun c165 => ?_)
    · have c165_ : a3.toInt ≠ 0 := en_j_ne_t c165
      refine At.enter rfl ?_
      refine r_lload_n rfl ?_
      refine r_lload rfl ?_
      refine q_ldivO (by omega) (fun v166 lv166 => ?_)
      refine r_lstore ([(6, .long v166), (0, .ref 185), (1, .int a1), (2, .long a2), (4, .long a3)]) rfl ?_
      refine r_goto ?_
      refine At.enter rfl ?_
      refine r_aload_n rfl ?_
      refine r_aload_n rfl ?_
      obtain ⟨v167, hv167⟩ : ∃ v, gI g0 185 3 = v := ⟨_, rfl⟩
      refine q_getI (Sh.int hI0.1 kx_185 rfl) v167 hv167 ?_
      refine r_ifs 142 rfl (fun c168 => ?_) (fun c168 => ?_)
      · have c168_ : v167.toInt ≠ 0 := en_k_ne_t c168
        refine At.enter rfl ?_
        refine r_iconst 1 rfl ?_
        refine r_goto ?_
        refine At.enter rfl ?_
        refine q_putI (Sh.int hI0.1 kx_185 rfl) rfl ?_
        have hI169 := HI.wI0 hI0 kx_185 rfl (p := 185) (b := 3) (v := 1) rfl
        have hF170 := Fr.wI (p := 185) (b := 3) (v := 1) hF0 rfl
        refine r_lload rfl ?_
        refine r_lret ?_
        exact ⟨_, rfl, hI169, hF170, _, rfl, trivial, ⟨(KSM_I KSM_rf), fun h0 ha hb k2 k8 => by first | exact absurd h0 (by rw [hv167]; omega) | exact JNP_out (JV_div (by omega) lv166 ha) (by omega) (fun q => absurd ((congrArg Int32.toInt ((gI_sI_eq hI0.1 kx_185 rfl _))).symm.trans q) (by decide))⟩⟩
      · have c168_ : v167.toInt = 0 := en_k_ne_f c168
        refine At.enter rfl ?_
        refine r_lload rfl ?_
        refine r_ldc2 1000000000 rfl ?_
        refine r_lcmp _ rfl ?_
        refine r_ifs 151 rfl (fun c171 => ?_) (fun c171 => ?_)
        · have c171_ : v166.toInt > 1000000000 := en_j_gt_t c171
          refine At.enter rfl ?_
          refine r_iconst 1 rfl ?_
          refine r_goto ?_
          refine At.enter rfl ?_
          refine q_putI (Sh.int hI0.1 kx_185 rfl) rfl ?_
          have hI172 := HI.wI0 hI0 kx_185 rfl (p := 185) (b := 3) (v := 1) rfl
          have hF173 := Fr.wI (p := 185) (b := 3) (v := 1) hF0 rfl
          refine r_lload rfl ?_
          refine r_lret ?_
          exact ⟨_, rfl, hI172, hF173, _, rfl, trivial, ⟨(KSM_I KSM_rf), fun h0 ha hb k2 k8 => by first | exact absurd h0 (by rw [hv167]; omega) | exact JNP_out (JV_div (by omega) lv166 ha) (by omega) (fun q => absurd ((congrArg Int32.toInt ((gI_sI_eq hI0.1 kx_185 rfl _))).symm.trans q) (by decide))⟩⟩
        · have c171_ : v166.toInt ≤ 1000000000 := en_j_gt_f c171
          refine At.enter rfl ?_
          refine r_lload rfl ?_
          refine r_ldc2 (-1000000000) rfl ?_
          refine r_lcmp _ rfl ?_
          refine r_ifs 160 rfl (fun c174 => ?_) (fun c174 => ?_)
          · have c174_ : v166.toInt ≥ (-1000000000) := en_j_ge_t c174
            refine At.enter rfl ?_
            refine r_iconst 0 rfl ?_
            refine Ar.fall 165 rfl ?_
            refine At.enter rfl ?_
            refine q_putI (Sh.int hI0.1 kx_185 rfl) rfl ?_
            have hI175 := HI.wI0 hI0 kx_185 rfl (p := 185) (b := 3) (v := 0) rfl
            have hF176 := Fr.wI (p := 185) (b := 3) (v := 0) hF0 rfl
            refine r_lload rfl ?_
            refine r_lret ?_
            exact ⟨_, rfl, hI175, hF176, _, rfl, trivial, ⟨(KSM_I KSM_rf), fun h0 ha hb k2 k8 => by first | exact absurd h0 (by rw [hv167]; omega) | exact JNP_in (JV_div (by omega) lv166 ha) (by omega) (by omega) (by omega) ((congrArg Int32.toInt ((gI_sI_eq hI0.1 kx_185 rfl _))).trans rfl)⟩⟩
          · have c174_ : v166.toInt < (-1000000000) := en_j_ge_f c174
            refine At.enter rfl ?_
            refine r_iconst 1 rfl ?_
            refine r_goto ?_
            refine At.enter rfl ?_
            refine q_putI (Sh.int hI0.1 kx_185 rfl) rfl ?_
            have hI177 := HI.wI0 hI0 kx_185 rfl (p := 185) (b := 3) (v := 1) rfl
            have hF178 := Fr.wI (p := 185) (b := 3) (v := 1) hF0 rfl
            refine r_lload rfl ?_
            refine r_lret ?_
            exact ⟨_, rfl, hI177, hF178, _, rfl, trivial, ⟨(KSM_I KSM_rf), fun h0 ha hb k2 k8 => by first | exact absurd h0 (by rw [hv167]; omega) | exact JNP_out (JV_div (by omega) lv166 ha) (by omega) (fun q => absurd ((congrArg Int32.toInt ((gI_sI_eq hI0.1 kx_185 rfl _))).symm.trans q) (by decide))⟩⟩
    · have c165_ : a3.toInt = 0 := en_j_ne_f c165
      refine At.enter rfl ?_
      refine r_aload_n rfl ?_
      refine r_iconst 1 rfl ?_
      refine q_putI (Sh.int hI0.1 kx_185 rfl) rfl ?_
      have hI179 := HI.wI0 hI0 kx_185 rfl (p := 185) (b := 3) (v := 1) rfl
      have hF180 := Fr.wI (p := 185) (b := 3) (v := 1) hF0 rfl
      refine r_goto ?_
      refine At.enter rfl ?_
      refine r_aload_n rfl ?_
      refine r_aload_n rfl ?_
      refine q_getI (Sh.int hI179.1 kx_185 rfl) 1 (gI_sI_eq hI0.1 kx_185 rfl _) ?_
      refine r_ift (by decide) ?_
      refine At.enter rfl ?_
      refine r_iconst 1 rfl ?_
      refine r_goto ?_
      refine At.enter rfl ?_
      refine q_putI (Sh.int hI179.1 kx_185 rfl) rfl ?_
      have hI181 := HI.wI0 hI179 kx_185 rfl (p := 185) (b := 3) (v := 1) rfl
      have hF182 := Fr.wI (p := 185) (b := 3) (v := 1) hF180 rfl
      refine r_lload rfl ?_
      refine r_lret ?_
      exact ⟨_, rfl, hI181, hF182, _, rfl, trivial, ⟨(KSM_I (KSM_I KSM_rf)), fun h0 ha hb k2 k8 => by first | exact JNP_zero (by omega) (by omega) (fun q => absurd ((congrArg Int32.toInt ((gI_sI_eq hI179.1 kx_185 rfl _))).symm.trans q) (by decide))⟩⟩
  by_cases c125_4 : a1.toInt = 6
  · refine r_tsw 95 (by rw [c125_4]; rfl) ?_
    refine At.enter rfl ?_
    refine r_lload_n rfl ?_
    refine r_lload rfl ?_
    refine r_lcmp _ rfl ?_
    refine r_ifs 102 rfl (fun c183 => ?_) (fun c183 => ?_)
    · have c183_ : a2.toInt ≥ a3.toInt := en_j_ge_t c183
      refine At.enter rfl ?_
      refine r_lconst 0 rfl ?_
      refine Ar.fall 107 rfl ?_
      refine At.enter rfl ?_
      refine r_lret ?_
      exact ⟨_, rfl, hI0, hF0, _, rfl, trivial, ⟨KSM_rf, fun h0 ha hb k2 k8 => by first | exact JNP_in (JV_lt (by omega) (Or.inr ⟨by omega, rfl⟩)) (by omega) (by decide) (by decide) h0 | exact JNP_in (JV_gt (by omega) (Or.inr ⟨by omega, rfl⟩)) (by omega) (by decide) (by decide) h0 | exact JNP_in (JV_eq (by omega) (Or.inr ⟨by omega, rfl⟩)) (by omega) (by decide) (by decide) h0⟩⟩
    · have c183_ : a2.toInt < a3.toInt := en_j_ge_f c183
      refine At.enter rfl ?_
      refine r_lconst 1 rfl ?_
      refine r_goto ?_
      refine At.enter rfl ?_
      refine r_lret ?_
      exact ⟨_, rfl, hI0, hF0, _, rfl, trivial, ⟨KSM_rf, fun h0 ha hb k2 k8 => by first | exact JNP_in (JV_lt (by omega) (Or.inl ⟨by omega, rfl⟩)) (by omega) (by decide) (by decide) h0 | exact JNP_in (JV_gt (by omega) (Or.inl ⟨by omega, rfl⟩)) (by omega) (by decide) (by decide) h0 | exact JNP_in (JV_eq (by omega) (Or.inl ⟨by omega, rfl⟩)) (by omega) (by decide) (by decide) h0⟩⟩
  by_cases c125_5 : a1.toInt = 7
  · refine r_tsw 108 (by rw [c125_5]; rfl) ?_
    refine At.enter rfl ?_
    refine r_lload_n rfl ?_
    refine r_lload rfl ?_
    refine r_lcmp _ rfl ?_
    refine r_ifs 115 rfl (fun c184 => ?_) (fun c184 => ?_)
    · have c184_ : a2.toInt ≤ a3.toInt := en_j_le_t c184
      refine At.enter rfl ?_
      refine r_lconst 0 rfl ?_
      refine Ar.fall 120 rfl ?_
      refine At.enter rfl ?_
      refine r_lret ?_
      exact ⟨_, rfl, hI0, hF0, _, rfl, trivial, ⟨KSM_rf, fun h0 ha hb k2 k8 => by first | exact JNP_in (JV_lt (by omega) (Or.inr ⟨by omega, rfl⟩)) (by omega) (by decide) (by decide) h0 | exact JNP_in (JV_gt (by omega) (Or.inr ⟨by omega, rfl⟩)) (by omega) (by decide) (by decide) h0 | exact JNP_in (JV_eq (by omega) (Or.inr ⟨by omega, rfl⟩)) (by omega) (by decide) (by decide) h0⟩⟩
    · have c184_ : a2.toInt > a3.toInt := en_j_le_f c184
      refine At.enter rfl ?_
      refine r_lconst 1 rfl ?_
      refine r_goto ?_
      refine At.enter rfl ?_
      refine r_lret ?_
      exact ⟨_, rfl, hI0, hF0, _, rfl, trivial, ⟨KSM_rf, fun h0 ha hb k2 k8 => by first | exact JNP_in (JV_lt (by omega) (Or.inl ⟨by omega, rfl⟩)) (by omega) (by decide) (by decide) h0 | exact JNP_in (JV_gt (by omega) (Or.inl ⟨by omega, rfl⟩)) (by omega) (by decide) (by decide) h0 | exact JNP_in (JV_eq (by omega) (Or.inl ⟨by omega, rfl⟩)) (by omega) (by decide) (by decide) h0⟩⟩
  have c185 : a1.toInt < 2 ∨ 7 < a1.toInt := by omega
  refine r_tsw 121 (by unfold en_sw; rw [if_pos c185]; rfl) ?_
  refine At.enter rfl ?_
  refine r_lload_n rfl ?_
  refine r_lload rfl ?_
  refine r_lcmp _ rfl ?_
  refine r_ifs 128 rfl (fun c186 => ?_) (fun c186 => ?_)
  · have c186_ : a2.toInt ≠ a3.toInt := en_j_ne_t c186
    refine At.enter rfl ?_
    refine r_lconst 0 rfl ?_
    refine Ar.fall 133 rfl ?_
    refine At.enter rfl ?_
    refine r_lret ?_
    exact ⟨_, rfl, hI0, hF0, _, rfl, trivial, ⟨KSM_rf, fun h0 ha hb k2 k8 => by first | exact JNP_in (JV_lt (by omega) (Or.inr ⟨by omega, rfl⟩)) (by omega) (by decide) (by decide) h0 | exact JNP_in (JV_gt (by omega) (Or.inr ⟨by omega, rfl⟩)) (by omega) (by decide) (by decide) h0 | exact JNP_in (JV_eq (by omega) (Or.inr ⟨by omega, rfl⟩)) (by omega) (by decide) (by decide) h0⟩⟩
  · have c186_ : a2.toInt = a3.toInt := en_j_ne_f c186
    refine At.enter rfl ?_
    refine r_lconst 1 rfl ?_
    refine r_goto ?_
    refine At.enter rfl ?_
    refine r_lret ?_
    exact ⟨_, rfl, hI0, hF0, _, rfl, trivial, ⟨KSM_rf, fun h0 ha hb k2 k8 => by first | exact JNP_in (JV_lt (by omega) (Or.inl ⟨by omega, rfl⟩)) (by omega) (by decide) (by decide) h0 | exact JNP_in (JV_gt (by omega) (Or.inl ⟨by omega, rfl⟩)) (by omega) (by decide) (by decide) h0 | exact JNP_in (JV_eq (by omega) (Or.inl ⟨by omega, rfl⟩)) (by omega) (by decide) (by decide) h0⟩⟩
