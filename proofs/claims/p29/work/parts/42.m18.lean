def F_X11_answer_231 : List (Nat × Nat) := [(231, 0), (231, 27), (231, 30), (231, 31), (231, 32), (231, 36), (231, 47)]
def A_X11_answer_231 : List Nat := [246, 247, 248, 249]
set_option maxRecDepth 100000 in
set_option maxHeartbeats 4000000 in
theorem T_X11_answer_231 (d : Nat) {N : Nat} {g0 : List en_E} (hI0 : HI g0) (a1 : Int32) (a2 : Int32) : Ev (d + 10) 250 [.ref 231, .int a1, .int a2] (g0, N) (fun w h' => ∃ g', h' = (g', N) ∧ HI g' ∧ Fr F_X11_answer_231 A_X11_answer_231 g0 g' ∧ ∃ r : Int32, w = some (.int r) ∧ True ∧ AMR g0 a1.toInt a2.toInt r.toInt) := by
  have hF0 : Fr F_X11_answer_231 A_X11_answer_231 g0 g0 := Fr.rf
  refine Ev.mk rfl rfl ⟨Nat.le_of_ble_eq_true rfl, Or.inr (q_rc hI0.1 kx_231 rfl)⟩ ?_
  show At _ none _ _ (0, [(0, .ref 231), (1, .int a1), (2, .int a2)], [], (_, _)) _
  refine At.enter rfl ?_
  refine r_aload_n rfl ?_
  refine r_iconst 0 rfl ?_
  refine q_putI (Sh.int hI0.1 kx_231 rfl) rfl ?_
  have hI51 := HI.wI0 hI0 kx_231 rfl (p := 231) (b := 0) (v := 0) rfl
  have hF52 := Fr.wI (p := 231) (b := 0) (v := 0) hF0 rfl
  refine r_aload_n rfl ?_
  refine r_iload_n rfl ?_
  refine q_inlV 10 rfl [.ref 231, .int a1] [] (Nat.le_of_ble_eq_true rfl) rfl ?_
  refine Ev.mk rfl rfl ⟨Nat.le_of_ble_eq_true rfl, Or.inr (q_rc hI51.1 kx_231 rfl)⟩ ?_
  show At _ none _ _ (0, [(0, .ref 231), (1, .int a1)], [], (_, _)) _
  refine At.enter rfl ?_
  refine r_iload_n rfl ?_
  refine q_i2l (fun v53 hv53 => ?_)
  refine r_lconst 0 rfl ?_
  refine r_aload_n rfl ?_
  refine q_getR (Sh.ref hI51.1 kx_231 rfl) ?_
  refine r_iconst 0 rfl ?_
  obtain ⟨v54, hv54⟩ : ∃ v, eA g0 233 0 = v := ⟨_, rfl⟩
  have tv54 := congrArg Int32.toInt hv54
  have wv54 := HI.t0 hI0
  rw [hv54] at wv54
  refine q_iald (Sh.arr hI51.1 ka_233) 0 rfl (by decide) v54 ((eA_c (gA_sI)).trans hv54) ?_
  refine q_i2l (fun v55 hv55 => ?_)
  refine r_lconst 1 rfl ?_
  refine q_lsub (v55.toInt - 1) rfl (by omega) (fun v56 hv56 => ?_)
  refine q_inlS 15 rfl [.long v53, .long 0, .long v56] [] (Nat.le_of_ble_eq_true rfl) rfl ?_
  refine Ev.mk rfl rfl ⟨Nat.le_of_ble_eq_true rfl, Or.inl rfl⟩ ?_
  show At _ none _ _ (0, [(0, .long v53), (2, .long 0), (4, .long v56)], [], (_, _)) _
  refine At.enter rfl ?_
  refine r_lload_n rfl ?_
  refine r_lload_n rfl ?_
  refine r_lcmp _ rfl ?_
  refine r_ifs 6 rfl (fun c57 => ?_) (fun c57 => ?_)
  · have c57_ : v53.toInt < 0 := en_j_lt_t c57
    refine At.enter rfl ?_
    refine r_iconst 0 rfl ?_
    refine Ar.fall 18 rfl ?_
    refine At.enter rfl ?_
    refine q_iretz (by decide) ?_
    refine At.enter rfl ?_
    refine q_iretz (by decide) ?_
    refine At.enter rfl ?_
    refine r_ift (by decide) ?_
    refine At.enter rfl ?_
    refine r_iconst (-1) rfl ?_
    refine r_ireti ?_
    have zv58 : ((-1) : Int32).toInt = (-1) := rfl
    exact ⟨_, rfl, hI51, hF52, _, rfl, trivial, ⟨fun _ => by omega, fun z => False.elim (by have z1 := z.1.1; have z2 := z.1.2; have z3 := z.2; clear z; have y := congrArg Int32.toInt hv54; omega)⟩⟩
  · have c57_ : v53.toInt ≥ 0 := en_j_lt_f c57
    refine At.enter rfl ?_
    refine r_lload_n rfl ?_
    refine r_lload rfl ?_
    refine r_lcmp _ rfl ?_
    refine r_ifs 13 rfl (fun c59 => ?_) (fun c59 => ?_)
    · have c59_ : v53.toInt > v56.toInt := en_j_gt_t c59
      refine At.enter rfl ?_
      refine r_iconst 0 rfl ?_
      refine Ar.fall 18 rfl ?_
      refine At.enter rfl ?_
      refine q_iretz (by decide) ?_
      refine At.enter rfl ?_
      refine q_iretz (by decide) ?_
      refine At.enter rfl ?_
      refine r_ift (by decide) ?_
      refine At.enter rfl ?_
      refine r_iconst (-1) rfl ?_
      refine r_ireti ?_
      have zv60 : ((-1) : Int32).toInt = (-1) := rfl
      exact ⟨_, rfl, hI51, hF52, _, rfl, trivial, ⟨fun _ => by omega, fun z => False.elim (by have z1 := z.1.1; have z2 := z.1.2; have z3 := z.2; clear z; have y := congrArg Int32.toInt hv54; omega)⟩⟩
    · have c59_ : v53.toInt ≤ v56.toInt := en_j_gt_f c59
      refine At.enter rfl ?_
      refine r_iconst 1 rfl ?_
      refine r_goto ?_
      refine At.enter rfl ?_
      refine q_iretz (by decide) ?_
      refine At.enter rfl ?_
      refine q_iretz (by decide) ?_
      refine At.enter rfl ?_
      refine r_iff 13 rfl (by decide) ?_
      refine At.enter rfl ?_
      refine r_iload_n rfl ?_
      refine q_i2l (fun v61 hv61 => ?_)
      refine r_lconst 0 rfl ?_
      refine r_lconst 1 rfl ?_
      refine q_inlS 20 rfl [.long v61, .long 0, .long 1] [] (Nat.le_of_ble_eq_true rfl) rfl ?_
      refine Ev.mk rfl rfl ⟨Nat.le_of_ble_eq_true rfl, Or.inl rfl⟩ ?_
      show At _ none _ _ (0, [(0, .long v61), (2, .long 0), (4, .long 1)], [], (_, _)) _
      refine At.enter rfl ?_
      refine r_lload_n rfl ?_
      refine r_lload_n rfl ?_
      refine r_lcmp _ rfl ?_
      refine r_ifs 6 rfl (fun c62 => ?_) (fun c62 => ?_)
      · have c62_ : v61.toInt < 0 := en_j_lt_t c62
        refine At.enter rfl ?_
        refine r_iconst 0 rfl ?_
        refine Ar.fall 18 rfl ?_
        refine At.enter rfl ?_
        refine q_iretz (by decide) ?_
        refine At.enter rfl ?_
        refine r_iff 23 rfl (by decide) ?_
        refine At.enter rfl ?_
        refine r_iconst (-1) rfl ?_
        refine r_ireti ?_
        have zv63 : ((-1) : Int32).toInt = (-1) := rfl
        exact ⟨_, rfl, hI51, hF52, _, rfl, trivial, ⟨fun _ => by omega, fun z => False.elim (by have z1 := z.1.1; have z2 := z.1.2; have z3 := z.2; clear z; have y := congrArg Int32.toInt hv54; omega)⟩⟩
      · have c62_ : v61.toInt ≥ 0 := en_j_lt_f c62
        refine At.enter rfl ?_
        refine r_lload_n rfl ?_
        refine r_lload rfl ?_
        refine r_lcmp _ rfl ?_
        refine r_ifs 13 rfl (fun c64 => ?_) (fun c64 => ?_)
        · have c64_ : v61.toInt > 1 := en_j_gt_t c64
          refine At.enter rfl ?_
          refine r_iconst 0 rfl ?_
          refine Ar.fall 18 rfl ?_
          refine At.enter rfl ?_
          refine q_iretz (by decide) ?_
          refine At.enter rfl ?_
          refine r_iff 23 rfl (by decide) ?_
          refine At.enter rfl ?_
          refine r_iconst (-1) rfl ?_
          refine r_ireti ?_
          have zv65 : ((-1) : Int32).toInt = (-1) := rfl
          exact ⟨_, rfl, hI51, hF52, _, rfl, trivial, ⟨fun _ => by omega, fun z => False.elim (by have z1 := z.1.1; have z2 := z.1.2; have z3 := z.2; clear z; have y := congrArg Int32.toInt hv54; omega)⟩⟩
        · have c64_ : v61.toInt ≤ 1 := en_j_gt_f c64
          refine At.enter rfl ?_
          refine r_iconst 1 rfl ?_
          refine r_goto ?_
          refine At.enter rfl ?_
          refine q_iretz (by decide) ?_
          refine At.enter rfl ?_
          refine r_ift (by decide) ?_
          refine At.enter rfl ?_
          refine r_aload_n rfl ?_
          refine r_callV 29 rfl [.ref 231] [] (Nat.le_of_ble_eq_true rfl) rfl (T_X11_asIs_231 _ hI51) ?_
          rintro _ _ ⟨g66, rfl, hI67, hF68, rfl, hr70⟩
          refine At.stn ?_
          have hF71 := Fr.tr hF52 hF68 rfl rfl
          have f73 : gA g66 233 = gA g0 233 := ((hF68.2.1 233 ma_X11_asIs_231_233).trans (gA_sI))
          have as72 : ASM g0 g66 := fun s s0 s1 => by have z := hr70 s s0 s1; rw [eA_tq ((gA_sI)), eA_tq ((gA_sI))] at z; exact z
          refine At.enter rfl ?_
          refine r_aload_n rfl ?_
          refine r_iload_n rfl ?_
          refine r_callV 34 rfl [.ref 231, .int a1] [] (Nat.le_of_ble_eq_true rfl) rfl (T_X11_answerOf_231 _ hI67 a1 (by omega)) ?_
          rintro _ _ ⟨g74, rfl, hI75, hF76, v77, rfl, hr78⟩
          refine At.sti ?_
          have hF79 := Fr.tr hF71 hF76 rfl rfl
          refine At.enter rfl ?_
          refine r_istore_n ([(3, .int v77), (0, .ref 231), (1, .int a1), (2, .int a2)]) rfl ?_
          refine r_iload_n rfl ?_
          refine r_ifs 39 rfl (fun c80 => ?_) (fun c80 => ?_)
          · have c80_ : a2.toInt ≠ 0 := en_k_ne_t c80
            refine At.enter rfl ?_
            refine r_aload_n rfl ?_
            obtain ⟨v81, hv81⟩ : ∃ v, gI g74 231 47 = v := ⟨_, rfl⟩
            refine q_getI (Sh.int hI75.1 kx_231 rfl) v81 hv81 ?_
            refine Ar.fall 47 rfl ?_
            refine At.enter rfl ?_
            refine r_ireti ?_
            exact ⟨_, rfl, hI75, hF79, _, rfl, trivial, ⟨fun z => absurd (show _ from ⟨⟨by have y := congrArg Int32.toInt hv54; omega, by have y := congrArg Int32.toInt hv54; omega⟩, by omega, by omega⟩) z, fun _ L => ⟨g66, f73, as72, (by rw [if_neg (show ¬ a2.toInt = 0 from by omega), ← (hr78.2.2.2 (LOKM_c f73 L)).1]; exact (congrArg Int32.toInt hv81).symm)⟩⟩⟩
          · have c80_ : a2.toInt = 0 := en_k_ne_f c80
            refine At.enter rfl ?_
            refine r_iload_n rfl ?_
            refine r_goto ?_
            refine At.enter rfl ?_
            refine r_ireti ?_
            exact ⟨_, rfl, hI75, hF79, _, rfl, trivial, ⟨fun z => absurd (show _ from ⟨⟨by have y := congrArg Int32.toInt hv54; omega, by have y := congrArg Int32.toInt hv54; omega⟩, by omega, by omega⟩) z, fun _ L => ⟨g66, f73, as72, (by rw [if_pos (show a2.toInt = 0 from by omega)]; exact (hr78.2.2.2 (LOKM_c f73 L)).2)⟩⟩⟩

def F_X11_restless_231 : List (Nat × Nat) := [(231, 0), (231, 27), (231, 30), (231, 31), (231, 32), (231, 36), (231, 47)]
def A_X11_restless_231 : List Nat := [246, 247, 248, 249]
set_option maxRecDepth 100000 in
set_option maxHeartbeats 4000000 in
theorem T_X11_restless_231 (d : Nat) {N : Nat} {g0 : List en_E} (hI0 : HI g0) : Ev (d + 10) 251 [.ref 231] (g0, N) (fun w h' => ∃ g', h' = (g', N) ∧ HI g' ∧ Fr F_X11_restless_231 A_X11_restless_231 g0 g' ∧ ∃ r : Int32, w = some (.int r) ∧ ((-1) ≤ r.toInt ∧ r.toInt ≤ 11) ∧ FSTM g0 r.toInt) := by
  have hF0 : Fr F_X11_restless_231 A_X11_restless_231 g0 g0 := Fr.rf
  refine Ev.mk rfl rfl ⟨Nat.le_of_ble_eq_true rfl, Or.inr (q_rc hI0.1 kx_231 rfl)⟩ ?_
  show At _ none _ _ (0, [(0, .ref 231)], [], (_, _)) _
  refine At.enter rfl ?_
  refine r_aload_n rfl ?_
  refine r_iconst 0 rfl ?_
  refine q_putI (Sh.int hI0.1 kx_231 rfl) rfl ?_
  have hI521 := HI.wI0 hI0 kx_231 rfl (p := 231) (b := 0) (v := 0) rfl
  have hF522 := Fr.wI (p := 231) (b := 0) (v := 0) hF0 rfl
  refine r_aload_n rfl ?_
  refine r_callV 9 rfl [.ref 231] [] (Nat.le_of_ble_eq_true rfl) rfl (T_X11_asIs_231 _ hI521) ?_
  rintro _ _ ⟨g523, rfl, hI524, hF525, rfl, hr527⟩
  refine At.stn ?_
  have hF528 := Fr.tr hF522 hF525 rfl rfl
  have f530 : gA g523 233 = gA g0 233 := ((hF525.2.1 233 ma_X11_asIs_231_233).trans (gA_sI))
  have as529 : ASM g0 g523 := fun s s0 s1 => by have z := hr527 s s0 s1; rw [eA_tq ((gA_sI)), eA_tq ((gA_sI))] at z; exact z
  refine At.enter rfl ?_
  refine r_iconst 0 rfl ?_
  refine r_istore_n ([(1, .int 0), (0, .ref 231)]) rfl ?_
  refine Ar.fall 11 rfl ?_
  have z_759 : (0 : Int32).toInt = 0 := rfl
  refine w_loopI (fun n_ l_ g_ => ∃ x747 : Int32, n_ = 12 - x747.toInt ∧ HI g_ ∧ Fr F_X11_restless_231 A_X11_restless_231 g0 g_ ∧ en_get 0 l_ = some (.ref 231) ∧ en_get 1 l_ = some (.int x747) ∧ (0 ≤ x747.toInt ∧ x747.toInt ≤ 12) ∧ (RSM g523 g_ x747.toInt) ∧ (x747.toInt ≤ (eA g0 233 0).toInt ∨ x747.toInt = 0)) ?_ (12 - 0) ⟨0, by first | rfl | omega, hI524, hF528, rfl, rfl, by decide, (RSM_z (by first | decide | omega)), (Or.inr rfl)⟩
  rintro n752 l751 g748 ⟨x747, hm760, hI749, hF750, e754, e755, r756, q757, q758⟩ ih753
  refine At.enter rfl ?_
  refine r_iload_n e755 ?_
  refine r_aload_n e754 ?_
  refine q_getR (Sh.ref hI749.1 kx_231 rfl) ?_
  refine r_iconst 0 rfl ?_
  obtain ⟨v761, hv761⟩ : ∃ v, eA g0 233 0 = v := ⟨_, rfl⟩
  have tv761 := congrArg Int32.toInt hv761
  have wv761 := HI.t0 hI0
  rw [hv761] at wv761
  refine q_iald (Sh.arr hI749.1 ka_233) 0 rfl (by decide) v761 ((eA_c (hF750.2.1 233 (by decide))).trans hv761) ?_
  have bv763 := q_bnd x747
  have bv764 := q_bnd v761
  refine r_ics 21 rfl (fun c762 => ?_) (fun c762 => ?_)
  · have c762_ : x747.toInt ≥ v761.toInt := en_i_ge_t c762
    refine At.enter rfl ?_
    refine r_iconst (-1) rfl ?_
    refine r_ireti ?_
    have zv765 : ((-1) : Int32).toInt = (-1) := rfl
    exact ⟨_, rfl, hI749, hF750, _, rfl, by decide, (FSTM_n f530 as529 q757 (by have y := congrArg Int32.toInt hv761; omega) (by omega))⟩
  · have c762_ : x747.toInt < v761.toInt := en_i_ge_f c762
    refine At.enter rfl ?_
    refine r_aload_n e754 ?_
    refine r_iload_n e755 ?_
    refine r_callV 26 rfl [.ref 231, .int x747] [] (Nat.le_of_ble_eq_true rfl) rfl (T_X11_incomeOf_231 _ hI749 x747 (by omega)) ?_
    rintro _ _ ⟨g766, rfl, hI767, hF768, v769, rfl, hr770⟩
    refine At.sti ?_
    have hF771 := Fr.tr hF750 hF768 rfl rfl
    refine At.enter rfl ?_
    refine r_istore_n _ rfl ?_
    refine r_aload_n (w_p1 (by decide) (Or.inr rfl) e754) ?_
    refine r_iload_n (w_p1 (by decide) (Or.inr rfl) e755) ?_
    refine r_callV 32 rfl [.ref 231, .int x747] [] (Nat.le_of_ble_eq_true rfl) rfl (T_X11_answerOf_231 _ hI767 x747 (by omega)) ?_
    rintro _ _ ⟨g772, rfl, hI773, hF774, v775, rfl, hr776⟩
    refine At.sti ?_
    have hF777 := Fr.tr hF771 hF774 rfl rfl
    refine At.enter rfl ?_
    refine r_istore_n _ rfl ?_
    refine r_iload_n (w_e1 _ _ _) ?_
    refine r_iconst (-1) rfl ?_
    refine r_ics 38 rfl (fun c778 => ?_) (fun c778 => ?_)
    · have c778_ : v775.toInt = (-1) := en_i_eq_t c778
      exfalso; omega
    · have c778_ : v775.toInt ≠ (-1) := en_i_eq_f c778
      refine At.enter rfl ?_
      refine r_aload_n (w_p1 (by decide) (Or.inr rfl) (w_p1 (by decide) (Or.inr rfl) e754)) ?_
      obtain ⟨v779, hv779⟩ : ∃ v, gI g772 231 47 = v := ⟨_, rfl⟩
      refine q_getI (Sh.int hI773.1 kx_231 rfl) v779 hv779 ?_
      refine r_iload_n (w_p1 (by decide) (Or.inr rfl) (w_e1 _ _ _)) ?_
      have bv781 := q_bnd v779
      have bv782 := q_bnd v769
      refine r_ics 46 rfl (fun c780 => ?_) (fun c780 => ?_)
      · have c780_ : v779.toInt ≤ v769.toInt := en_i_le_t c780
        refine At.enter rfl ?_
        refine q_iinc (w_p1 (by decide) (Or.inr rfl) (w_p1 (by decide) (Or.inr rfl) e755)) (x747.toInt + 1) rfl (by omega) (fun v783 hv783 => ?_)
        refine r_goto ?_
        exact ih753 (12 - v783.toInt) _ _ ⟨v783, by first | rfl | omega, hI773, hF777, (w_p1 (by decide) (Or.inr rfl) (w_p1 (by decide) (Or.inr rfl) (w_p1 (by decide) (Or.inr rfl) e754))), (w_e1 _ _ _), by omega, (RSM_s q757 hI524 ⟨by omega, by omega⟩ hr770.2 ⟨hF768.2.1 233 ma_X11_incomeOf_231_233, hF768.2.1 246 ma_X11_incomeOf_231_246⟩ (hF768.2.1 247 ma_X11_incomeOf_231_247) hr776.2 (by have y := congrArg Int32.toInt hv779; omega) (by omega)), (Or.inl (by have y := congrArg Int32.toInt hv761; omega))⟩ ⟨by omega, by omega⟩
      · have c780_ : v779.toInt > v769.toInt := en_i_le_f c780
        refine At.enter rfl ?_
        refine r_iload_n (w_p1 (by decide) (Or.inr rfl) (w_p1 (by decide) (Or.inr rfl) e755)) ?_
        refine r_ireti ?_
        exact ⟨_, rfl, hI773, hF777, _, rfl, by omega, (FSTM_y f530 as529 q757 hI524 ⟨by omega, by have y := congrArg Int32.toInt hv761; omega⟩ (by omega) hr770.2 ⟨hF768.2.1 233 ma_X11_incomeOf_231_233, hF768.2.1 246 ma_X11_incomeOf_231_246⟩ (hF768.2.1 247 ma_X11_incomeOf_231_247) hr776.2 (by have y := congrArg Int32.toInt hv779; omega) rfl)⟩

def F_X11_rests_231 : List (Nat × Nat) := [(231, 0), (231, 27), (231, 30), (231, 31), (231, 32), (231, 36), (231, 47)]
def A_X11_rests_231 : List Nat := [246, 247, 248, 249]
set_option maxRecDepth 100000 in
set_option maxHeartbeats 4000000 in
theorem T_X11_rests_231 (d : Nat) {N : Nat} {g0 : List en_E} (hI0 : HI g0) (a1 : Int32) : Ev (d + 10) 252 [.ref 231, .int a1] (g0, N) (fun w h' => ∃ g', h' = (g', N) ∧ HI g' ∧ Fr F_X11_rests_231 A_X11_rests_231 g0 g' ∧ ∃ r : Int32, w = some (.int r) ∧ True ∧ RMR g0 a1.toInt r.toInt) := by
  have hF0 : Fr F_X11_rests_231 A_X11_rests_231 g0 g0 := Fr.rf
  refine Ev.mk rfl rfl ⟨Nat.le_of_ble_eq_true rfl, Or.inr (q_rc hI0.1 kx_231 rfl)⟩ ?_
  show At _ none _ _ (0, [(0, .ref 231), (1, .int a1)], [], (_, _)) _
  refine At.enter rfl ?_
  refine r_aload_n rfl ?_
  refine r_iconst 0 rfl ?_
  refine q_putI (Sh.int hI0.1 kx_231 rfl) rfl ?_
  have hI14151 := HI.wI0 hI0 kx_231 rfl (p := 231) (b := 0) (v := 0) rfl
  have hF14152 := Fr.wI (p := 231) (b := 0) (v := 0) hF0 rfl
  refine r_iload_n rfl ?_
  refine r_iconst (-1) rfl ?_
  refine r_ics 10 rfl (fun c14153 => ?_) (fun c14153 => ?_)
  · have c14153_ : a1.toInt = (-1) := en_i_eq_t c14153
    refine At.enter rfl ?_
    refine r_aload_n rfl ?_
    refine r_callV 24 rfl [.ref 231] [] (Nat.le_of_ble_eq_true rfl) rfl (T_X11_asIs_231 _ hI14151) ?_
    rintro _ _ ⟨g14154, rfl, hI14155, hF14156, rfl, hr14158⟩
    refine At.stn ?_
    have hF14159 := Fr.tr hF14152 hF14156 rfl rfl
    have f14161 : gA g14154 233 = gA g0 233 := ((hF14156.2.1 233 ma_X11_asIs_231_233).trans (gA_sI))
    have as14160 : ASM g0 g14154 := fun s s0 s1 => by have z := hr14158 s s0 s1; rw [eA_tq ((gA_sI)), eA_tq ((gA_sI))] at z; exact z
    refine At.enter rfl ?_
    refine r_iconst 0 rfl ?_
    refine r_istore_n ([(2, .int 0), (0, .ref 231), (1, .int a1)]) rfl ?_
    refine r_iconst 1 rfl ?_
    refine r_istore_n ([(3, .int 1), (2, .int 0), (0, .ref 231), (1, .int a1)]) rfl ?_
    refine Ar.fall 28 rfl ?_
    have z_17422 : (0 : Int32).toInt = 0 := rfl
    have z_17423 : (1 : Int32).toInt = 1 := rfl
    refine w_loopI (fun n_ l_ g_ => ∃ x17407 : Int32, ∃ x17408 : Int32, n_ = 50 - x17407.toInt ∧ HI g_ ∧ Fr F_X11_rests_231 A_X11_rests_231 g0 g_ ∧ en_get 0 l_ = some (.ref 231) ∧ en_get 1 l_ = some (.int a1) ∧ en_get 2 l_ = some (.int x17407) ∧ en_get 3 l_ = some (.int x17408) ∧ (0 ≤ x17407.toInt ∧ x17407.toInt ≤ 50) ∧ (0 ≤ x17408.toInt ∧ x17408.toInt ≤ 1) ∧ (SOM g14154 g_ (eA g0 233 0).toInt.toNat x17407.toInt x17408.toInt)) ?_ (50 - 0) ⟨0, 1, by first | rfl | omega, hI14155, hF14159, rfl, rfl, rfl, rfl, by decide, by decide, (SOM_z rfl rfl)⟩
    rintro n17413 l17412 g17409 ⟨x17407, x17408, hm17424, hI17410, hF17411, e17415, e17416, e17417, e17418, r17419, r17420, q17421⟩ ih17414
    refine At.enter rfl ?_
    refine r_iload_n e17418 ?_
    refine r_ifs 32 rfl (fun c17425 => ?_) (fun c17425 => ?_)
    · have c17425_ : x17408.toInt = 0 := en_k_eq_t c17425
      refine At.enter rfl ?_
      refine r_iload_n e17416 ?_
      refine r_iconst (-1) rfl ?_
      refine r_ics 107 rfl (fun c17426 => ?_) (fun c17426 => ?_)
      · have c17426_ : a1.toInt = (-1) := en_i_eq_t c17426
        refine At.enter rfl ?_
        refine r_iload_n e17418 ?_
        refine r_ifs 120 rfl (fun c17427 => ?_) (fun c17427 => ?_)
        · have c17427_ : x17408.toInt = 0 := en_k_eq_t c17427
          refine At.enter rfl ?_
          refine r_iload_n e17417 ?_
          refine Ar.fall 126 rfl ?_
          refine At.enter rfl ?_
          refine r_ireti ?_
          exact ⟨_, rfl, hI17410, hF17411, _, rfl, trivial, ⟨fun z => absurd (show _ from (by first | exact Or.inl (by omega) | exact Or.inr ⟨by omega, by omega⟩)) z, fun _ => RSP_mk f14161 as14160 q17421 ⟨by omega, by omega⟩ (by omega) (by first | exact Or.inl (by omega) | exact Or.inr ⟨by omega, by omega⟩) (by first | exact Or.inl ⟨by omega, by omega, by omega⟩ | exact Or.inr (Or.inl ⟨by omega, by omega, by omega⟩))⟩⟩
        · have c17427_ : x17408.toInt ≠ 0 := en_k_eq_f c17427
          exfalso; omega
      · have c17426_ : a1.toInt ≠ (-1) := en_i_eq_f c17426
        exfalso; omega
    · have c17425_ : x17408.toInt ≠ 0 := en_k_eq_f c17425
      refine At.enter rfl ?_
      refine r_iload_n e17417 ?_
      refine r_bipush 50 rfl ?_
      refine r_ics 38 rfl (fun c17428 => ?_) (fun c17428 => ?_)
      · have c17428_ : x17407.toInt ≥ 50 := en_i_ge_t c17428
        refine At.enter rfl ?_
        refine r_iload_n e17416 ?_
        refine r_iconst (-1) rfl ?_
        refine r_ics 107 rfl (fun c17429 => ?_) (fun c17429 => ?_)
        · have c17429_ : a1.toInt = (-1) := en_i_eq_t c17429
          refine At.enter rfl ?_
          refine r_iload_n e17418 ?_
          refine r_ifs 120 rfl (fun c17430 => ?_) (fun c17430 => ?_)
          · have c17430_ : x17408.toInt = 0 := en_k_eq_t c17430
            exfalso; omega
          · have c17430_ : x17408.toInt ≠ 0 := en_k_eq_f c17430
            refine At.enter rfl ?_
            refine r_bipush 51 rfl ?_
            refine r_goto ?_
            refine At.enter rfl ?_
            refine r_ireti ?_
            have zv17431 : (51 : Int32).toInt = 51 := rfl
            exact ⟨_, rfl, hI17410, hF17411, _, rfl, trivial, ⟨fun z => absurd (show _ from (by first | exact Or.inl (by omega) | exact Or.inr ⟨by omega, by omega⟩)) z, fun _ => RSP_mk f14161 as14160 q17421 ⟨by omega, by omega⟩ (by omega) (by first | exact Or.inl (by omega) | exact Or.inr ⟨by omega, by omega⟩) (by first | exact Or.inl ⟨by omega, by omega, by omega⟩ | exact Or.inr (Or.inl ⟨by omega, by omega, by omega⟩))⟩⟩
        · have c17429_ : a1.toInt ≠ (-1) := en_i_eq_f c17429
          exfalso; omega
      · have c17428_ : x17407.toInt < 50 := en_i_ge_f c17428
        refine At.enter rfl ?_
        refine r_iconst 0 rfl ?_
        refine r_istore_n _ rfl ?_
        refine q_iinc (w_p1 (by decide) (Or.inr rfl) e17417) (x17407.toInt + 1) rfl (by omega) (fun v17432 hv17432 => ?_)
        refine r_iconst 0 rfl ?_
        refine r_istore _ rfl ?_
        refine Ar.fall 46 rfl ?_
        have z_17693 : (0 : Int32).toInt = 0 := rfl
        have z_17694 : (0 : Int32).toInt = 0 := rfl
        refine w_loopI (fun n_ l_ g_ => ∃ x17676 : Int32, ∃ x17677 : Int32, n_ = 12 - x17677.toInt ∧ HI g_ ∧ Fr F_X11_rests_231 A_X11_rests_231 g0 g_ ∧ en_get 0 l_ = some (.ref 231) ∧ en_get 1 l_ = some (.int a1) ∧ en_get 2 l_ = some (.int v17432) ∧ en_get 3 l_ = some (.int x17676) ∧ en_get 4 l_ = some (.int x17677) ∧ (0 ≤ x17676.toInt ∧ x17676.toInt ≤ 1) ∧ (0 ≤ x17677.toInt ∧ x17677.toInt ≤ 12) ∧ (SEM g14154 g_ (NRM (ASKM g17409)) x17677.toInt x17676.toInt) ∧ (x17677.toInt ≤ (eA g0 233 0).toInt ∨ x17677.toInt = 0)) ?_ (12 - 0) ⟨0, 0, by first | rfl | omega, hI17410, hF17411, (w_p1 (by decide) (Or.inr rfl) (w_p1 (by decide) (Or.inr rfl) (w_p1 (by decide) (Or.inr rfl) e17415))), (w_p1 (by decide) (Or.inr rfl) (w_p1 (by decide) (Or.inr rfl) (w_p1 (by decide) (Or.inr rfl) e17416))), (w_p1 (by decide) (Or.inr rfl) (w_e1 _ _ _)), (w_p1 (by decide) (Or.inr rfl) (w_p1 (by decide) (Or.inr rfl) (w_e1 _ _ _))), (w_e1 _ _ _), by decide, by decide, (SEM_z q17421.1 rfl rfl), (Or.inr rfl)⟩
        rintro n17682 l17681 g17678 ⟨x17676, x17677, hm17695, hI17679, hF17680, e17684, e17685, e17686, e17687, e17688, r17689, r17690, q17691, q17692⟩ ih17683
        refine At.enter rfl ?_
        refine r_iload e17688 ?_
        refine r_aload_n e17684 ?_
        refine q_getR (Sh.ref hI17679.1 kx_231 rfl) ?_
        refine r_iconst 0 rfl ?_
        obtain ⟨v17696, hv17696⟩ : ∃ v, eA g0 233 0 = v := ⟨_, rfl⟩
        have tv17696 := congrArg Int32.toInt hv17696
        have wv17696 := HI.t0 hI0
        rw [hv17696] at wv17696
        refine q_iald (Sh.arr hI17679.1 ka_233) 0 rfl (by decide) v17696 ((eA_c (hF17680.2.1 233 (by decide))).trans hv17696) ?_
        have bv17698 := q_bnd x17677
        have bv17699 := q_bnd v17696
        refine r_ics 57 rfl (fun c17697 => ?_) (fun c17697 => ?_)
        · have c17697_ : x17677.toInt ≥ v17696.toInt := en_i_ge_t c17697
          refine At.enter rfl ?_
          refine r_goto ?_
          exact ih17414 (50 - v17432.toInt) _ _ ⟨v17432, x17676, by first | rfl | omega, hI17679, hF17680, e17684, e17685, e17686, e17687, by omega, by omega, (SOM_s q17421 (by omega) q17691 (congrArg Int.toNat (show x17677.toInt = (eA g0 233 0).toInt from by have y := congrArg Int32.toInt hv17696; omega)) (by omega) (by omega))⟩ ⟨by omega, by omega⟩
        · have c17697_ : x17677.toInt < v17696.toInt := en_i_ge_f c17697
          refine At.enter rfl ?_
          refine r_aload_n e17684 ?_
          refine r_iload e17688 ?_
          refine r_callV 63 rfl [.ref 231, .int x17677] [] (Nat.le_of_ble_eq_true rfl) rfl (T_X11_incomeOf_231 _ hI17679 x17677 (by omega)) ?_
          rintro _ _ ⟨g17700, rfl, hI17701, hF17702, v17703, rfl, hr17704⟩
          refine At.sti ?_
          have hF17705 := Fr.tr hF17680 hF17702 rfl rfl
          refine At.enter rfl ?_
          refine r_istore _ rfl ?_
          refine r_aload_n (w_p1 (by decide) (Or.inr rfl) e17684) ?_
          refine r_iload (w_p1 (by decide) (Or.inr rfl) e17688) ?_
          refine r_callV 71 rfl [.ref 231, .int x17677] [] (Nat.le_of_ble_eq_true rfl) rfl (T_X11_answerOf_231 _ hI17701 x17677 (by omega)) ?_
          rintro _ _ ⟨g17706, rfl, hI17707, hF17708, v17709, rfl, hr17710⟩
          refine At.sti ?_
          have hF17711 := Fr.tr hF17705 hF17708 rfl rfl
          refine At.enter rfl ?_
          refine r_istore _ rfl ?_
          refine r_aload_n (w_p1 (by decide) (Or.inr rfl) (w_p1 (by decide) (Or.inr rfl) e17684)) ?_
          obtain ⟨v17712, hv17712⟩ : ∃ v, gI g17706 231 47 = v := ⟨_, rfl⟩
          refine q_getI (Sh.int hI17707.1 kx_231 rfl) v17712 hv17712 ?_
          refine r_iload (w_p1 (by decide) (Or.inr rfl) (w_e1 _ _ _)) ?_
          have bv17714 := q_bnd v17712
          have bv17715 := q_bnd v17703
          refine r_ics 82 rfl (fun c17713 => ?_) (fun c17713 => ?_)
          · have c17713_ : v17712.toInt ≤ v17703.toInt := en_i_le_t c17713
            refine At.enter rfl ?_
            refine q_iinc (w_p1 (by decide) (Or.inr rfl) (w_p1 (by decide) (Or.inr rfl) e17688)) (x17677.toInt + 1) rfl (by omega) (fun v17716 hv17716 => ?_)
            refine r_goto ?_
            exact ih17683 (12 - v17716.toInt) _ _ ⟨x17676, v17716, by first | rfl | omega, hI17707, hF17711, (w_p1 (by decide) (Or.inr rfl) (w_p1 (by decide) (Or.inr rfl) (w_p1 (by decide) (Or.inr rfl) e17684))), (w_p1 (by decide) (Or.inr rfl) (w_p1 (by decide) (Or.inr rfl) (w_p1 (by decide) (Or.inr rfl) e17685))), (w_p1 (by decide) (Or.inr rfl) (w_p1 (by decide) (Or.inr rfl) (w_p1 (by decide) (Or.inr rfl) e17686))), (w_p1 (by decide) (Or.inr rfl) (w_p1 (by decide) (Or.inr rfl) (w_p1 (by decide) (Or.inr rfl) e17687))), (w_e1 _ _ _), by omega, by omega, (SEM_n q17691 hI14155 ⟨by omega, by omega⟩ hr17704.2 ⟨hF17702.2.1 233 ma_X11_incomeOf_231_233, hF17702.2.1 246 ma_X11_incomeOf_231_246⟩ (hF17702.2.1 247 ma_X11_incomeOf_231_247) hr17710.2 (by have y := congrArg Int32.toInt hv17712; omega) (by omega)), (Or.inl (by have y := congrArg Int32.toInt hv17696; omega))⟩ ⟨by omega, by omega⟩
          · have c17713_ : v17712.toInt > v17703.toInt := en_i_le_f c17713
            refine At.enter rfl ?_
            refine r_aload_n (w_p1 (by decide) (Or.inr rfl) (w_p1 (by decide) (Or.inr rfl) e17684)) ?_
            refine q_getR (Sh.ref hI17707.1 kx_231 rfl) ?_
            refine r_iload (w_p1 (by decide) (Or.inr rfl) (w_p1 (by decide) (Or.inr rfl) e17688)) ?_
            refine r_iload (w_e1 _ _ _) ?_
            refine q_iast (Sh.arr hI17707.1 ka_247) (x17677.toInt) rfl (by omega) ?_
            have hI17717 := HI.wA0 hI17707 ka_247 (p := 247) rfl rfl (x17677.toInt) (v17709)
            have hF17718 := Fr.wA (p := 247) (j := x17677.toInt) (v := v17709) hF17711 rfl
            refine r_iconst 1 rfl ?_
            refine r_istore_n _ rfl ?_
            refine Ar.fall 93 rfl ?_
            refine At.enter rfl ?_
            refine q_iinc (w_p1 (by decide) (Or.inr rfl) (w_p1 (by decide) (Or.inr rfl) (w_p1 (by decide) (Or.inr rfl) e17688))) (x17677.toInt + 1) rfl (by omega) (fun v17719 hv17719 => ?_)
            refine r_goto ?_
            have zv17720 : (1 : Int32).toInt = 1 := rfl
            exact ih17683 (12 - v17719.toInt) _ _ ⟨1, v17719, by first | rfl | omega, hI17717, hF17718, (w_p1 (by decide) (Or.inr rfl) (w_p1 (by decide) (Or.inr rfl) (w_p1 (by decide) (Or.inr rfl) (w_p1 (by decide) (Or.inr rfl) e17684)))), (w_p1 (by decide) (Or.inr rfl) (w_p1 (by decide) (Or.inr rfl) (w_p1 (by decide) (Or.inr rfl) (w_p1 (by decide) (Or.inr rfl) e17685)))), (w_p1 (by decide) (Or.inr rfl) (w_p1 (by decide) (Or.inr rfl) (w_p1 (by decide) (Or.inr rfl) (w_p1 (by decide) (Or.inr rfl) e17686)))), (w_p1 (by decide) (Or.inr rfl) (w_e1 _ _ _)), (w_e1 _ _ _), by decide, by omega, (SEM_y q17691 hI14155 ⟨by omega, by omega⟩ hr17704.2 ⟨hF17702.2.1 233 ma_X11_incomeOf_231_233, hF17702.2.1 246 ma_X11_incomeOf_231_246⟩ (hF17702.2.1 247 ma_X11_incomeOf_231_247) hr17710.2 hI17707.1 (by have y := congrArg Int32.toInt hv17712; omega) rfl rfl (by omega)), (Or.inl (by have y := congrArg Int32.toInt hv17696; omega))⟩ ⟨by omega, by omega⟩
  · have c14153_ : a1.toInt ≠ (-1) := en_i_eq_f c14153
    refine At.enter rfl ?_
    refine r_aload_n rfl ?_
    refine r_iload_n rfl ?_
    refine q_inlV 15 rfl [.ref 231, .int a1] [] (Nat.le_of_ble_eq_true rfl) rfl ?_
    refine Ev.mk rfl rfl ⟨Nat.le_of_ble_eq_true rfl, Or.inr (q_rc hI14151.1 kx_231 rfl)⟩ ?_
    show At _ none _ _ (0, [(0, .ref 231), (1, .int a1)], [], (_, _)) _
    refine At.enter rfl ?_
    refine r_iload_n rfl ?_
    refine q_i2l (fun v17721 hv17721 => ?_)
    refine r_lconst 0 rfl ?_
    refine r_aload_n rfl ?_
    refine q_getR (Sh.ref hI14151.1 kx_231 rfl) ?_
    refine r_iconst 0 rfl ?_
    obtain ⟨v17722, hv17722⟩ : ∃ v, eA g0 233 0 = v := ⟨_, rfl⟩
    have tv17722 := congrArg Int32.toInt hv17722
    have wv17722 := HI.t0 hI0
    rw [hv17722] at wv17722
    refine q_iald (Sh.arr hI14151.1 ka_233) 0 rfl (by decide) v17722 ((eA_c (gA_sI)).trans hv17722) ?_
    refine q_i2l (fun v17723 hv17723 => ?_)
    refine r_lconst 1 rfl ?_
    refine q_lsub (v17723.toInt - 1) rfl (by omega) (fun v17724 hv17724 => ?_)
    refine q_inlS 15 rfl [.long v17721, .long 0, .long v17724] [] (Nat.le_of_ble_eq_true rfl) rfl ?_
    refine Ev.mk rfl rfl ⟨Nat.le_of_ble_eq_true rfl, Or.inl rfl⟩ ?_
    show At _ none _ _ (0, [(0, .long v17721), (2, .long 0), (4, .long v17724)], [], (_, _)) _
    refine At.enter rfl ?_
    refine r_lload_n rfl ?_
    refine r_lload_n rfl ?_
    refine r_lcmp _ rfl ?_
    refine r_ifs 6 rfl (fun c17725 => ?_) (fun c17725 => ?_)
    · have c17725_ : v17721.toInt < 0 := en_j_lt_t c17725
      refine At.enter rfl ?_
      refine r_iconst 0 rfl ?_
      refine Ar.fall 18 rfl ?_
      refine At.enter rfl ?_
      refine q_iretz (by decide) ?_
      refine At.enter rfl ?_
      refine q_iretz (by decide) ?_
      refine At.enter rfl ?_
      refine r_iff 18 rfl (by decide) ?_
      refine At.enter rfl ?_
      refine r_iconst (-1) rfl ?_
      refine r_ireti ?_
      have zv17726 : ((-1) : Int32).toInt = (-1) := rfl
      exact ⟨_, rfl, hI14151, hF14152, _, rfl, trivial, ⟨fun _ => by omega, fun z => False.elim (by rcases z with z | ⟨z1, z2⟩ <;> (have y := congrArg Int32.toInt hv17722; omega))⟩⟩
    · have c17725_ : v17721.toInt ≥ 0 := en_j_lt_f c17725
      refine At.enter rfl ?_
      refine r_lload_n rfl ?_
      refine r_lload rfl ?_
      refine r_lcmp _ rfl ?_
      refine r_ifs 13 rfl (fun c17727 => ?_) (fun c17727 => ?_)
      · have c17727_ : v17721.toInt > v17724.toInt := en_j_gt_t c17727
        refine At.enter rfl ?_
        refine r_iconst 0 rfl ?_
        refine Ar.fall 18 rfl ?_
        refine At.enter rfl ?_
        refine q_iretz (by decide) ?_
        refine At.enter rfl ?_
        refine q_iretz (by decide) ?_
        refine At.enter rfl ?_
        refine r_iff 18 rfl (by decide) ?_
        refine At.enter rfl ?_
        refine r_iconst (-1) rfl ?_
        refine r_ireti ?_
        have zv17728 : ((-1) : Int32).toInt = (-1) := rfl
        exact ⟨_, rfl, hI14151, hF14152, _, rfl, trivial, ⟨fun _ => by omega, fun z => False.elim (by rcases z with z | ⟨z1, z2⟩ <;> (have y := congrArg Int32.toInt hv17722; omega))⟩⟩
      · have c17727_ : v17721.toInt ≤ v17724.toInt := en_j_gt_f c17727
        refine At.enter rfl ?_
        refine r_iconst 1 rfl ?_
        refine r_goto ?_
        refine At.enter rfl ?_
        refine q_iretz (by decide) ?_
        refine At.enter rfl ?_
        refine q_iretz (by decide) ?_
        refine At.enter rfl ?_
        refine r_ift (by decide) ?_
        refine At.enter rfl ?_
        refine r_aload_n rfl ?_
        refine r_callV 24 rfl [.ref 231] [] (Nat.le_of_ble_eq_true rfl) rfl (T_X11_asIs_231 _ hI14151) ?_
        rintro _ _ ⟨g17729, rfl, hI17730, hF17731, rfl, hr17733⟩
        refine At.stn ?_
        have hF17734 := Fr.tr hF14152 hF17731 rfl rfl
        have f17736 : gA g17729 233 = gA g0 233 := ((hF17731.2.1 233 ma_X11_asIs_231_233).trans (gA_sI))
        have as17735 : ASM g0 g17729 := fun s s0 s1 => by have z := hr17733 s s0 s1; rw [eA_tq ((gA_sI)), eA_tq ((gA_sI))] at z; exact z
        refine At.enter rfl ?_
        refine r_iconst 0 rfl ?_
        refine r_istore_n ([(2, .int 0), (0, .ref 231), (1, .int a1)]) rfl ?_
        refine r_iconst 1 rfl ?_
        refine r_istore_n ([(3, .int 1), (2, .int 0), (0, .ref 231), (1, .int a1)]) rfl ?_
        refine Ar.fall 28 rfl ?_
        have z_20887 : (0 : Int32).toInt = 0 := rfl
        have z_20888 : (1 : Int32).toInt = 1 := rfl
        refine w_loopI (fun n_ l_ g_ => ∃ x20872 : Int32, ∃ x20873 : Int32, n_ = 50 - x20872.toInt ∧ HI g_ ∧ Fr F_X11_rests_231 A_X11_rests_231 g0 g_ ∧ en_get 0 l_ = some (.ref 231) ∧ en_get 1 l_ = some (.int a1) ∧ en_get 2 l_ = some (.int x20872) ∧ en_get 3 l_ = some (.int x20873) ∧ (0 ≤ x20872.toInt ∧ x20872.toInt ≤ 50) ∧ (0 ≤ x20873.toInt ∧ x20873.toInt ≤ 1) ∧ (SOM g17729 g_ (eA g0 233 0).toInt.toNat x20872.toInt x20873.toInt)) ?_ (50 - 0) ⟨0, 1, by first | rfl | omega, hI17730, hF17734, rfl, rfl, rfl, rfl, by decide, by decide, (SOM_z rfl rfl)⟩
        rintro n20878 l20877 g20874 ⟨x20872, x20873, hm20889, hI20875, hF20876, e20880, e20881, e20882, e20883, r20884, r20885, q20886⟩ ih20879
        refine At.enter rfl ?_
        refine r_iload_n e20883 ?_
        refine r_ifs 32 rfl (fun c20890 => ?_) (fun c20890 => ?_)
        · have c20890_ : x20873.toInt = 0 := en_k_eq_t c20890
          refine At.enter rfl ?_
          refine r_iload_n e20881 ?_
          refine r_iconst (-1) rfl ?_
          refine r_ics 107 rfl (fun c20891 => ?_) (fun c20891 => ?_)
          · have c20891_ : a1.toInt = (-1) := en_i_eq_t c20891
            exfalso; omega
          · have c20891_ : a1.toInt ≠ (-1) := en_i_eq_f c20891
            refine At.enter rfl ?_
            refine r_aload_n e20880 ?_
            refine q_getR (Sh.ref hI20875.1 kx_231 rfl) ?_
            refine r_iload_n e20881 ?_
            obtain ⟨v20892, hv20892⟩ : ∃ v, eA g20874 247 a1.toInt = v := ⟨_, rfl⟩
            refine q_iald (Sh.arr hI20875.1 ka_247) a1.toInt rfl (by omega) v20892 hv20892 ?_
            refine r_goto ?_
            refine At.enter rfl ?_
            refine r_ireti ?_
            exact ⟨_, rfl, hI20875, hF20876, _, rfl, trivial, ⟨fun z => absurd (show _ from (by first | exact Or.inl (by omega) | exact Or.inr ⟨by omega, by have y := congrArg Int32.toInt hv17722; omega⟩)) z, fun _ => RSP_mk f17736 as17735 q20886 ⟨by omega, by omega⟩ (by omega) (by first | exact Or.inl (by omega) | exact Or.inr ⟨by omega, by omega⟩) (by first | exact Or.inl ⟨by omega, by omega, by omega⟩ | exact Or.inr (Or.inl ⟨by omega, by omega, by omega⟩) | exact Or.inr (Or.inr ⟨by omega, (congrArg Int32.toInt hv20892).symm⟩))⟩⟩
        · have c20890_ : x20873.toInt ≠ 0 := en_k_eq_f c20890
          refine At.enter rfl ?_
          refine r_iload_n e20882 ?_
          refine r_bipush 50 rfl ?_
          refine r_ics 38 rfl (fun c20893 => ?_) (fun c20893 => ?_)
          · have c20893_ : x20872.toInt ≥ 50 := en_i_ge_t c20893
            refine At.enter rfl ?_
            refine r_iload_n e20881 ?_
            refine r_iconst (-1) rfl ?_
            refine r_ics 107 rfl (fun c20894 => ?_) (fun c20894 => ?_)
            · have c20894_ : a1.toInt = (-1) := en_i_eq_t c20894
              exfalso; omega
            · have c20894_ : a1.toInt ≠ (-1) := en_i_eq_f c20894
              refine At.enter rfl ?_
              refine r_aload_n e20880 ?_
              refine q_getR (Sh.ref hI20875.1 kx_231 rfl) ?_
              refine r_iload_n e20881 ?_
              obtain ⟨v20895, hv20895⟩ : ∃ v, eA g20874 247 a1.toInt = v := ⟨_, rfl⟩
              refine q_iald (Sh.arr hI20875.1 ka_247) a1.toInt rfl (by omega) v20895 hv20895 ?_
              refine r_goto ?_
              refine At.enter rfl ?_
              refine r_ireti ?_
              exact ⟨_, rfl, hI20875, hF20876, _, rfl, trivial, ⟨fun z => absurd (show _ from (by first | exact Or.inl (by omega) | exact Or.inr ⟨by omega, by have y := congrArg Int32.toInt hv17722; omega⟩)) z, fun _ => RSP_mk f17736 as17735 q20886 ⟨by omega, by omega⟩ (by omega) (by first | exact Or.inl (by omega) | exact Or.inr ⟨by omega, by omega⟩) (by first | exact Or.inl ⟨by omega, by omega, by omega⟩ | exact Or.inr (Or.inl ⟨by omega, by omega, by omega⟩) | exact Or.inr (Or.inr ⟨by omega, (congrArg Int32.toInt hv20895).symm⟩))⟩⟩
          · have c20893_ : x20872.toInt < 50 := en_i_ge_f c20893
            refine At.enter rfl ?_
            refine r_iconst 0 rfl ?_
            refine r_istore_n _ rfl ?_
            refine q_iinc (w_p1 (by decide) (Or.inr rfl) e20882) (x20872.toInt + 1) rfl (by omega) (fun v20896 hv20896 => ?_)
            refine r_iconst 0 rfl ?_
            refine r_istore _ rfl ?_
            refine Ar.fall 46 rfl ?_
            have z_21148 : (0 : Int32).toInt = 0 := rfl
            have z_21149 : (0 : Int32).toInt = 0 := rfl
            refine w_loopI (fun n_ l_ g_ => ∃ x21131 : Int32, ∃ x21132 : Int32, n_ = 12 - x21132.toInt ∧ HI g_ ∧ Fr F_X11_rests_231 A_X11_rests_231 g0 g_ ∧ en_get 0 l_ = some (.ref 231) ∧ en_get 1 l_ = some (.int a1) ∧ en_get 2 l_ = some (.int v20896) ∧ en_get 3 l_ = some (.int x21131) ∧ en_get 4 l_ = some (.int x21132) ∧ (0 ≤ x21131.toInt ∧ x21131.toInt ≤ 1) ∧ (0 ≤ x21132.toInt ∧ x21132.toInt ≤ 12) ∧ (SEM g17729 g_ (NRM (ASKM g20874)) x21132.toInt x21131.toInt) ∧ (x21132.toInt ≤ (eA g0 233 0).toInt ∨ x21132.toInt = 0)) ?_ (12 - 0) ⟨0, 0, by first | rfl | omega, hI20875, hF20876, (w_p1 (by decide) (Or.inr rfl) (w_p1 (by decide) (Or.inr rfl) (w_p1 (by decide) (Or.inr rfl) e20880))), (w_p1 (by decide) (Or.inr rfl) (w_p1 (by decide) (Or.inr rfl) (w_p1 (by decide) (Or.inr rfl) e20881))), (w_p1 (by decide) (Or.inr rfl) (w_e1 _ _ _)), (w_p1 (by decide) (Or.inr rfl) (w_p1 (by decide) (Or.inr rfl) (w_e1 _ _ _))), (w_e1 _ _ _), by decide, by decide, (SEM_z q20886.1 rfl rfl), (Or.inr rfl)⟩
            rintro n21137 l21136 g21133 ⟨x21131, x21132, hm21150, hI21134, hF21135, e21139, e21140, e21141, e21142, e21143, r21144, r21145, q21146, q21147⟩ ih21138
            refine At.enter rfl ?_
            refine r_iload e21143 ?_
            refine r_aload_n e21139 ?_
            refine q_getR (Sh.ref hI21134.1 kx_231 rfl) ?_
            refine r_iconst 0 rfl ?_
            refine q_iald (Sh.arr hI21134.1 ka_233) 0 rfl (by decide) v17722 ((eA_c (hF21135.2.1 233 (by decide))).trans hv17722) ?_
            have bv21152 := q_bnd x21132
            have bv21153 := q_bnd v17722
            refine r_ics 57 rfl (fun c21151 => ?_) (fun c21151 => ?_)
            · have c21151_ : x21132.toInt ≥ v17722.toInt := en_i_ge_t c21151
              refine At.enter rfl ?_
              refine r_goto ?_
              exact ih20879 (50 - v20896.toInt) _ _ ⟨v20896, x21131, by first | rfl | omega, hI21134, hF21135, e21139, e21140, e21141, e21142, by omega, by omega, (SOM_s q20886 (by omega) q21146 (congrArg Int.toNat (show x21132.toInt = (eA g0 233 0).toInt from by have y := congrArg Int32.toInt hv17722; omega)) (by omega) (by omega))⟩ ⟨by omega, by omega⟩
            · have c21151_ : x21132.toInt < v17722.toInt := en_i_ge_f c21151
              refine At.enter rfl ?_
              refine r_aload_n e21139 ?_
              refine r_iload e21143 ?_
              refine r_callV 63 rfl [.ref 231, .int x21132] [] (Nat.le_of_ble_eq_true rfl) rfl (T_X11_incomeOf_231 _ hI21134 x21132 (by omega)) ?_
              rintro _ _ ⟨g21154, rfl, hI21155, hF21156, v21157, rfl, hr21158⟩
              refine At.sti ?_
              have hF21159 := Fr.tr hF21135 hF21156 rfl rfl
              refine At.enter rfl ?_
              refine r_istore _ rfl ?_
              refine r_aload_n (w_p1 (by decide) (Or.inr rfl) e21139) ?_
              refine r_iload (w_p1 (by decide) (Or.inr rfl) e21143) ?_
              refine r_callV 71 rfl [.ref 231, .int x21132] [] (Nat.le_of_ble_eq_true rfl) rfl (T_X11_answerOf_231 _ hI21155 x21132 (by omega)) ?_
              rintro _ _ ⟨g21160, rfl, hI21161, hF21162, v21163, rfl, hr21164⟩
              refine At.sti ?_
              have hF21165 := Fr.tr hF21159 hF21162 rfl rfl
              refine At.enter rfl ?_
              refine r_istore _ rfl ?_
              refine r_aload_n (w_p1 (by decide) (Or.inr rfl) (w_p1 (by decide) (Or.inr rfl) e21139)) ?_
              obtain ⟨v21166, hv21166⟩ : ∃ v, gI g21160 231 47 = v := ⟨_, rfl⟩
              refine q_getI (Sh.int hI21161.1 kx_231 rfl) v21166 hv21166 ?_
              refine r_iload (w_p1 (by decide) (Or.inr rfl) (w_e1 _ _ _)) ?_
              have bv21168 := q_bnd v21166
              have bv21169 := q_bnd v21157
              refine r_ics 82 rfl (fun c21167 => ?_) (fun c21167 => ?_)
              · have c21167_ : v21166.toInt ≤ v21157.toInt := en_i_le_t c21167
                refine At.enter rfl ?_
                refine q_iinc (w_p1 (by decide) (Or.inr rfl) (w_p1 (by decide) (Or.inr rfl) e21143)) (x21132.toInt + 1) rfl (by omega) (fun v21170 hv21170 => ?_)
                refine r_goto ?_
                exact ih21138 (12 - v21170.toInt) _ _ ⟨x21131, v21170, by first | rfl | omega, hI21161, hF21165, (w_p1 (by decide) (Or.inr rfl) (w_p1 (by decide) (Or.inr rfl) (w_p1 (by decide) (Or.inr rfl) e21139))), (w_p1 (by decide) (Or.inr rfl) (w_p1 (by decide) (Or.inr rfl) (w_p1 (by decide) (Or.inr rfl) e21140))), (w_p1 (by decide) (Or.inr rfl) (w_p1 (by decide) (Or.inr rfl) (w_p1 (by decide) (Or.inr rfl) e21141))), (w_p1 (by decide) (Or.inr rfl) (w_p1 (by decide) (Or.inr rfl) (w_p1 (by decide) (Or.inr rfl) e21142))), (w_e1 _ _ _), by omega, by omega, (SEM_n q21146 hI17730 ⟨by omega, by omega⟩ hr21158.2 ⟨hF21156.2.1 233 ma_X11_incomeOf_231_233, hF21156.2.1 246 ma_X11_incomeOf_231_246⟩ (hF21156.2.1 247 ma_X11_incomeOf_231_247) hr21164.2 (by have y := congrArg Int32.toInt hv21166; omega) (by omega)), (Or.inl (by have y := congrArg Int32.toInt hv17722; omega))⟩ ⟨by omega, by omega⟩
              · have c21167_ : v21166.toInt > v21157.toInt := en_i_le_f c21167
                refine At.enter rfl ?_
                refine r_aload_n (w_p1 (by decide) (Or.inr rfl) (w_p1 (by decide) (Or.inr rfl) e21139)) ?_
                refine q_getR (Sh.ref hI21161.1 kx_231 rfl) ?_
                refine r_iload (w_p1 (by decide) (Or.inr rfl) (w_p1 (by decide) (Or.inr rfl) e21143)) ?_
                refine r_iload (w_e1 _ _ _) ?_
                refine q_iast (Sh.arr hI21161.1 ka_247) (x21132.toInt) rfl (by omega) ?_
                have hI21171 := HI.wA0 hI21161 ka_247 (p := 247) rfl rfl (x21132.toInt) (v21163)
                have hF21172 := Fr.wA (p := 247) (j := x21132.toInt) (v := v21163) hF21165 rfl
                refine r_iconst 1 rfl ?_
                refine r_istore_n _ rfl ?_
                refine Ar.fall 93 rfl ?_
                refine At.enter rfl ?_
                refine q_iinc (w_p1 (by decide) (Or.inr rfl) (w_p1 (by decide) (Or.inr rfl) (w_p1 (by decide) (Or.inr rfl) e21143))) (x21132.toInt + 1) rfl (by omega) (fun v21173 hv21173 => ?_)
                refine r_goto ?_
                have zv21174 : (1 : Int32).toInt = 1 := rfl
                exact ih21138 (12 - v21173.toInt) _ _ ⟨1, v21173, by first | rfl | omega, hI21171, hF21172, (w_p1 (by decide) (Or.inr rfl) (w_p1 (by decide) (Or.inr rfl) (w_p1 (by decide) (Or.inr rfl) (w_p1 (by decide) (Or.inr rfl) e21139)))), (w_p1 (by decide) (Or.inr rfl) (w_p1 (by decide) (Or.inr rfl) (w_p1 (by decide) (Or.inr rfl) (w_p1 (by decide) (Or.inr rfl) e21140)))), (w_p1 (by decide) (Or.inr rfl) (w_p1 (by decide) (Or.inr rfl) (w_p1 (by decide) (Or.inr rfl) (w_p1 (by decide) (Or.inr rfl) e21141)))), (w_p1 (by decide) (Or.inr rfl) (w_e1 _ _ _)), (w_e1 _ _ _), by decide, by omega, (SEM_y q21146 hI17730 ⟨by omega, by omega⟩ hr21158.2 ⟨hF21156.2.1 233 ma_X11_incomeOf_231_233, hF21156.2.1 246 ma_X11_incomeOf_231_246⟩ (hF21156.2.1 247 ma_X11_incomeOf_231_247) hr21164.2 hI21161.1 (by have y := congrArg Int32.toInt hv21166; omega) rfl rfl (by omega)), (Or.inl (by have y := congrArg Int32.toInt hv17722; omega))⟩ ⟨by omega, by omega⟩
