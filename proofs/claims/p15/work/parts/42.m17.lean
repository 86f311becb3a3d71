def F_X11_answer_231 : List (Nat × Nat) := [(231, 0), (231, 27), (231, 30), (231, 31), (231, 32), (231, 36), (231, 47)]
def A_X11_answer_231 : List Nat := [246, 247, 248, 249]
set_option maxRecDepth 100000 in
set_option maxHeartbeats 4000000 in
theorem T_X11_answer_231 (d : Nat) {N : Nat} {g0 : List en_E} (hI0 : HI g0) (a1 : Int32) (a2 : Int32) : Ev (d + 10) 250 [.ref 231, .int a1, .int a2] (g0, N) (fun w h' => ∃ g', h' = (g', N) ∧ HI g' ∧ Fr F_X11_answer_231 A_X11_answer_231 g0 g' ∧ ∃ r : Int32, w = some (.int r) ∧ True) := by
  have hF0 : Fr F_X11_answer_231 A_X11_answer_231 g0 g0 := Fr.rf
  refine Ev.mk rfl rfl ⟨Nat.le_of_ble_eq_true rfl, Or.inr (q_rc hI0.1 kx_231 rfl)⟩ ?_
  show At _ none _ _ (0, [(0, .ref 231), (1, .int a1), (2, .int a2)], [], (_, _)) _
  refine At.enter rfl ?_
  refine r_aload_n rfl ?_
  refine r_iconst 0 rfl ?_
  refine q_putI (Sh.int hI0.1 kx_231 rfl) rfl ?_
  have hI51 := HI.wI0 hI0 kx_231 rfl (p := 231) (b := 0) (v := 0) rfl
  have hF52 := Fr.wI (p := 231) (b := 0) (v := 0) hF0 rfl
  refine r_aload_n rfl ?_
  refine r_iload_n rfl ?_
  refine q_inlV 10 rfl [.ref 231, .int a1] [] (Nat.le_of_ble_eq_true rfl) rfl ?_
  refine Ev.mk rfl rfl ⟨Nat.le_of_ble_eq_true rfl, Or.inr (q_rc hI51.1 kx_231 rfl)⟩ ?_
  show At _ none _ _ (0, [(0, .ref 231), (1, .int a1)], [], (_, _)) _
  refine At.enter rfl ?_
  refine r_iload_n rfl ?_
  refine q_i2l (fun v53 hv53 => ?_)
  refine r_lconst 0 rfl ?_
  refine r_aload_n rfl ?_
  refine q_getR (Sh.ref hI51.1 kx_231 rfl) ?_
  refine r_iconst 0 rfl ?_
  obtain ⟨v54, hv54⟩ : ∃ v, eA g0 233 0 = v := ⟨_, rfl⟩
  have tv54 := congrArg Int32.toInt hv54
  have wv54 := HI.t0 hI0
  rw [hv54] at wv54
  refine q_iald (Sh.arr hI51.1 ka_233) 0 rfl (by decide) v54 ((eA_c (gA_sI)).trans hv54) ?_
  refine q_i2l (fun v55 hv55 => ?_)
  refine r_lconst 1 rfl ?_
  refine q_lsub (v55.toInt - 1) rfl (by omega) (fun v56 hv56 => ?_)
  refine q_inlS 15 rfl [.long v53, .long 0, .long v56] [] (Nat.le_of_ble_eq_true rfl) rfl ?_
  refine Ev.mk rfl rfl ⟨Nat.le_of_ble_eq_true rfl, Or.inl rfl⟩ ?_
  show At _ none _ _ (0, [(0, .long v53), (2, .long 0), (4, .long v56)], [], (_, _)) _
  refine At.enter rfl ?_
  refine r_lload_n rfl ?_
  refine r_lload_n rfl ?_
  refine r_lcmp _ rfl ?_
  refine r_ifs 6 rfl (fun c57 => ?_) (fun c57 => ?_)
  · have c57_ : v53.toInt < 0 := en_j_lt_t c57
    refine At.enter rfl ?_
    refine r_iconst 0 rfl ?_
    refine Ar.fall 18 rfl ?_
    refine At.enter rfl ?_
    refine q_iretz (by decide) ?_
    refine At.enter rfl ?_
    refine q_iretz (by decide) ?_
    refine At.enter rfl ?_
    refine r_ift (by decide) ?_
    refine At.enter rfl ?_
    refine r_iconst (-1) rfl ?_
    refine r_ireti ?_
    exact ⟨_, rfl, hI51, hF52, _, rfl, trivial⟩
  · have c57_ : v53.toInt ≥ 0 := en_j_lt_f c57
    refine At.enter rfl ?_
    refine r_lload_n rfl ?_
    refine r_lload rfl ?_
    refine r_lcmp _ rfl ?_
    refine r_ifs 13 rfl (fun c58 => ?_) (fun c58 => ?_)
    · have c58_ : v53.toInt > v56.toInt := en_j_gt_t c58
      refine At.enter rfl ?_
      refine r_iconst 0 rfl ?_
      refine Ar.fall 18 rfl ?_
      refine At.enter rfl ?_
      refine q_iretz (by decide) ?_
      refine At.enter rfl ?_
      refine q_iretz (by decide) ?_
      refine At.enter rfl ?_
      refine r_ift (by decide) ?_
      refine At.enter rfl ?_
      refine r_iconst (-1) rfl ?_
      refine r_ireti ?_
      exact ⟨_, rfl, hI51, hF52, _, rfl, trivial⟩
    · have c58_ : v53.toInt ≤ v56.toInt := en_j_gt_f c58
      refine At.enter rfl ?_
      refine r_iconst 1 rfl ?_
      refine r_goto ?_
      refine At.enter rfl ?_
      refine q_iretz (by decide) ?_
      refine At.enter rfl ?_
      refine q_iretz (by decide) ?_
      refine At.enter rfl ?_
      refine r_iff 13 rfl (by decide) ?_
      refine At.enter rfl ?_
      refine r_iload_n rfl ?_
      refine q_i2l (fun v59 hv59 => ?_)
      refine r_lconst 0 rfl ?_
      refine r_lconst 1 rfl ?_
      refine q_inlS 20 rfl [.long v59, .long 0, .long 1] [] (Nat.le_of_ble_eq_true rfl) rfl ?_
      refine Ev.mk rfl rfl ⟨Nat.le_of_ble_eq_true rfl, Or.inl rfl⟩ ?_
      show At _ none _ _ (0, [(0, .long v59), (2, .long 0), (4, .long 1)], [], (_, _)) _
      refine At.enter rfl ?_
      refine r_lload_n rfl ?_
      refine r_lload_n rfl ?_
      refine r_lcmp _ rfl ?_
      refine r_ifs 6 rfl (fun c60 => ?_) (fun c60 => ?_)
      · have c60_ : v59.toInt < 0 := en_j_lt_t c60
        refine At.enter rfl ?_
        refine r_iconst 0 rfl ?_
        refine Ar.fall 18 rfl ?_
        refine At.enter rfl ?_
        refine q_iretz (by decide) ?_
        refine At.enter rfl ?_
        refine r_iff 23 rfl (by decide) ?_
        refine At.enter rfl ?_
        refine r_iconst (-1) rfl ?_
        refine r_ireti ?_
        exact ⟨_, rfl, hI51, hF52, _, rfl, trivial⟩
      · have c60_ : v59.toInt ≥ 0 := en_j_lt_f c60
        refine At.enter rfl ?_
        refine r_lload_n rfl ?_
        refine r_lload rfl ?_
        refine r_lcmp _ rfl ?_
        refine r_ifs 13 rfl (fun c61 => ?_) (fun c61 => ?_)
        · have c61_ : v59.toInt > 1 := en_j_gt_t c61
          refine At.enter rfl ?_
          refine r_iconst 0 rfl ?_
          refine Ar.fall 18 rfl ?_
          refine At.enter rfl ?_
          refine q_iretz (by decide) ?_
          refine At.enter rfl ?_
          refine r_iff 23 rfl (by decide) ?_
          refine At.enter rfl ?_
          refine r_iconst (-1) rfl ?_
          refine r_ireti ?_
          exact ⟨_, rfl, hI51, hF52, _, rfl, trivial⟩
        · have c61_ : v59.toInt ≤ 1 := en_j_gt_f c61
          refine At.enter rfl ?_
          refine r_iconst 1 rfl ?_
          refine r_goto ?_
          refine At.enter rfl ?_
          refine q_iretz (by decide) ?_
          refine At.enter rfl ?_
          refine r_ift (by decide) ?_
          refine At.enter rfl ?_
          refine r_aload_n rfl ?_
          refine r_callV 29 rfl [.ref 231] [] (Nat.le_of_ble_eq_true rfl) rfl (T_X11_asIs_231 _ hI51) ?_
          rintro _ _ ⟨g62, rfl, hI63, hF64, rfl⟩
          refine At.stn ?_
          have hF67 := Fr.tr hF52 hF64 rfl rfl
          refine At.enter rfl ?_
          refine r_aload_n rfl ?_
          refine r_iload_n rfl ?_
          refine r_callV 34 rfl [.ref 231, .int a1] [] (Nat.le_of_ble_eq_true rfl) rfl (T_X11_answerOf_231 _ hI63 a1 (by omega)) ?_
          rintro _ _ ⟨g68, rfl, hI69, hF70, v71, rfl, hr72⟩
          refine At.sti ?_
          have hF73 := Fr.tr hF67 hF70 rfl rfl
          refine At.enter rfl ?_
          refine r_istore_n ([(3, .int v71), (0, .ref 231), (1, .int a1), (2, .int a2)]) rfl ?_
          refine r_iload_n rfl ?_
          refine r_ifs 39 rfl (fun c74 => ?_) (fun c74 => ?_)
          · have c74_ : a2.toInt ≠ 0 := en_k_ne_t c74
            refine At.enter rfl ?_
            refine r_aload_n rfl ?_
            obtain ⟨v75, hv75⟩ : ∃ v, gI g68 231 47 = v := ⟨_, rfl⟩
            refine q_getI (Sh.int hI69.1 kx_231 rfl) v75 hv75 ?_
            refine Ar.fall 47 rfl ?_
            refine At.enter rfl ?_
            refine r_ireti ?_
            exact ⟨_, rfl, hI69, hF73, _, rfl, trivial⟩
          · have c74_ : a2.toInt = 0 := en_k_ne_f c74
            refine At.enter rfl ?_
            refine r_iload_n rfl ?_
            refine r_goto ?_
            refine At.enter rfl ?_
            refine r_ireti ?_
            exact ⟨_, rfl, hI69, hF73, _, rfl, trivial⟩

def F_X11_restless_231 : List (Nat × Nat) := [(231, 0), (231, 27), (231, 30), (231, 31), (231, 32), (231, 36), (231, 47)]
def A_X11_restless_231 : List Nat := [246, 247, 248, 249]
set_option maxRecDepth 100000 in
set_option maxHeartbeats 4000000 in
theorem T_X11_restless_231 (d : Nat) {N : Nat} {g0 : List en_E} (hI0 : HI g0) : Ev (d + 10) 251 [.ref 231] (g0, N) (fun w h' => ∃ g', h' = (g', N) ∧ HI g' ∧ Fr F_X11_restless_231 A_X11_restless_231 g0 g' ∧ ∃ r : Int32, w = some (.int r) ∧ ((-1) ≤ r.toInt ∧ r.toInt ≤ 11)) := by
  have hF0 : Fr F_X11_restless_231 A_X11_restless_231 g0 g0 := Fr.rf
  refine Ev.mk rfl rfl ⟨Nat.le_of_ble_eq_true rfl, Or.inr (q_rc hI0.1 kx_231 rfl)⟩ ?_
  show At _ none _ _ (0, [(0, .ref 231)], [], (_, _)) _
  refine At.enter rfl ?_
  refine r_aload_n rfl ?_
  refine r_iconst 0 rfl ?_
  refine q_putI (Sh.int hI0.1 kx_231 rfl) rfl ?_
  have hI517 := HI.wI0 hI0 kx_231 rfl (p := 231) (b := 0) (v := 0) rfl
  have hF518 := Fr.wI (p := 231) (b := 0) (v := 0) hF0 rfl
  refine r_aload_n rfl ?_
  refine r_callV 9 rfl [.ref 231] [] (Nat.le_of_ble_eq_true rfl) rfl (T_X11_asIs_231 _ hI517) ?_
  rintro _ _ ⟨g519, rfl, hI520, hF521, rfl⟩
  refine At.stn ?_
  have hF524 := Fr.tr hF518 hF521 rfl rfl
  refine At.enter rfl ?_
  refine r_iconst 0 rfl ?_
  refine r_istore_n ([(1, .int 0), (0, .ref 231)]) rfl ?_
  refine Ar.fall 11 rfl ?_
  have z_751 : (0 : Int32).toInt = 0 := rfl
  refine w_loopI (fun n_ l_ g_ => ∃ x741 : Int32, n_ = 12 - x741.toInt ∧ HI g_ ∧ Fr F_X11_restless_231 A_X11_restless_231 g0 g_ ∧ en_get 0 l_ = some (.ref 231) ∧ en_get 1 l_ = some (.int x741) ∧ (0 ≤ x741.toInt ∧ x741.toInt ≤ 12)) ?_ (12 - 0) ⟨0, by first | rfl | omega, hI520, hF524, rfl, rfl, by decide⟩
  rintro n746 l745 g742 ⟨x741, hm752, hI743, hF744, e748, e749, r750⟩ ih747
  refine At.enter rfl ?_
  refine r_iload_n e749 ?_
  refine r_aload_n e748 ?_
  refine q_getR (Sh.ref hI743.1 kx_231 rfl) ?_
  refine r_iconst 0 rfl ?_
  obtain ⟨v753, hv753⟩ : ∃ v, eA g0 233 0 = v := ⟨_, rfl⟩
  have tv753 := congrArg Int32.toInt hv753
  have wv753 := HI.t0 hI0
  rw [hv753] at wv753
  refine q_iald (Sh.arr hI743.1 ka_233) 0 rfl (by decide) v753 ((eA_c (hF744.2.1 233 (by decide))).trans hv753) ?_
  have bv755 := q_bnd x741
  have bv756 := q_bnd v753
  refine r_ics 21 rfl (fun c754 => ?_) (fun c754 => ?_)
  · have c754_ : x741.toInt ≥ v753.toInt := en_i_ge_t c754
    refine At.enter rfl ?_
    refine r_iconst (-1) rfl ?_
    refine r_ireti ?_
    exact ⟨_, rfl, hI743, hF744, _, rfl, by decide⟩
  · have c754_ : x741.toInt < v753.toInt := en_i_ge_f c754
    refine At.enter rfl ?_
    refine r_aload_n e748 ?_
    refine r_iload_n e749 ?_
    refine r_callV 26 rfl [.ref 231, .int x741] [] (Nat.le_of_ble_eq_true rfl) rfl (T_X11_incomeOf_231 _ hI743 x741 (by omega)) ?_
    rintro _ _ ⟨g757, rfl, hI758, hF759, v760, rfl, hr761⟩
    refine At.sti ?_
    have hF762 := Fr.tr hF744 hF759 rfl rfl
    refine At.enter rfl ?_
    refine r_istore_n _ rfl ?_
    refine r_aload_n (w_p1 (by decide) (Or.inr rfl) e748) ?_
    refine r_iload_n (w_p1 (by decide) (Or.inr rfl) e749) ?_
    refine r_callV 32 rfl [.ref 231, .int x741] [] (Nat.le_of_ble_eq_true rfl) rfl (T_X11_answerOf_231 _ hI758 x741 (by omega)) ?_
    rintro _ _ ⟨g763, rfl, hI764, hF765, v766, rfl, hr767⟩
    refine At.sti ?_
    have hF768 := Fr.tr hF762 hF765 rfl rfl
    refine At.enter rfl ?_
    refine r_istore_n _ rfl ?_
    refine r_iload_n (w_e1 _ _ _) ?_
    refine r_iconst (-1) rfl ?_
    refine r_ics 38 rfl (fun c769 => ?_) (fun c769 => ?_)
    · have c769_ : v766.toInt = (-1) := en_i_eq_t c769
      exfalso; omega
    · have c769_ : v766.toInt ≠ (-1) := en_i_eq_f c769
      refine At.enter rfl ?_
      refine r_aload_n (w_p1 (by decide) (Or.inr rfl) (w_p1 (by decide) (Or.inr rfl) e748)) ?_
      obtain ⟨v770, hv770⟩ : ∃ v, gI g763 231 47 = v := ⟨_, rfl⟩
      refine q_getI (Sh.int hI764.1 kx_231 rfl) v770 hv770 ?_
      refine r_iload_n (w_p1 (by decide) (Or.inr rfl) (w_e1 _ _ _)) ?_
      have bv772 := q_bnd v770
      have bv773 := q_bnd v760
      refine r_ics 46 rfl (fun c771 => ?_) (fun c771 => ?_)
      · have c771_ : v770.toInt ≤ v760.toInt := en_i_le_t c771
        refine At.enter rfl ?_
        refine q_iinc (w_p1 (by decide) (Or.inr rfl) (w_p1 (by decide) (Or.inr rfl) e749)) (x741.toInt + 1) rfl (by omega) (fun v774 hv774 => ?_)
        refine r_goto ?_
        exact ih747 (12 - v774.toInt) _ _ ⟨v774, by first | rfl | omega, hI764, hF768, (w_p1 (by decide) (Or.inr rfl) (w_p1 (by decide) (Or.inr rfl) (w_p1 (by decide) (Or.inr rfl) e748))), (w_e1 _ _ _), by omega⟩ ⟨by omega, by omega⟩
      · have c771_ : v770.toInt > v760.toInt := en_i_le_f c771
        refine At.enter rfl ?_
        refine r_iload_n (w_p1 (by decide) (Or.inr rfl) (w_p1 (by decide) (Or.inr rfl) e749)) ?_
        refine r_ireti ?_
        exact ⟨_, rfl, hI764, hF768, _, rfl, by omega⟩

def F_X11_rests_231 : List (Nat × Nat) := [(231, 0), (231, 27), (231, 30), (231, 31), (231, 32), (231, 36), (231, 47)]
def A_X11_rests_231 : List Nat := [246, 247, 248, 249]
set_option maxRecDepth 100000 in
set_option maxHeartbeats 4000000 in
theorem T_X11_rests_231 (d : Nat) {N : Nat} {g0 : List en_E} (hI0 : HI g0) (a1 : Int32) : Ev (d + 10) 252 [.ref 231, .int a1] (g0, N) (fun w h' => ∃ g', h' = (g', N) ∧ HI g' ∧ Fr F_X11_rests_231 A_X11_rests_231 g0 g' ∧ ∃ r : Int32, w = some (.int r) ∧ True) := by
  have hF0 : Fr F_X11_rests_231 A_X11_rests_231 g0 g0 := Fr.rf
  refine Ev.mk rfl rfl ⟨Nat.le_of_ble_eq_true rfl, Or.inr (q_rc hI0.1 kx_231 rfl)⟩ ?_
  show At _ none _ _ (0, [(0, .ref 231), (1, .int a1)], [], (_, _)) _
  refine At.enter rfl ?_
  refine r_aload_n rfl ?_
  refine r_iconst 0 rfl ?_
  refine q_putI (Sh.int hI0.1 kx_231 rfl) rfl ?_
  have hI14051 := HI.wI0 hI0 kx_231 rfl (p := 231) (b := 0) (v := 0) rfl
  have hF14052 := Fr.wI (p := 231) (b := 0) (v := 0) hF0 rfl
  refine r_iload_n rfl ?_
  refine r_iconst (-1) rfl ?_
  refine r_ics 10 rfl (fun c14053 => ?_) (fun c14053 => ?_)
  · have c14053_ : a1.toInt = (-1) := en_i_eq_t c14053
    refine At.enter rfl ?_
    refine r_aload_n rfl ?_
    refine r_callV 24 rfl [.ref 231] [] (Nat.le_of_ble_eq_true rfl) rfl (T_X11_asIs_231 _ hI14051) ?_
    rintro _ _ ⟨g14054, rfl, hI14055, hF14056, rfl⟩
    refine At.stn ?_
    have hF14059 := Fr.tr hF14052 hF14056 rfl rfl
    refine At.enter rfl ?_
    refine r_iconst 0 rfl ?_
    refine r_istore_n ([(2, .int 0), (0, .ref 231), (1, .int a1)]) rfl ?_
    refine r_iconst 1 rfl ?_
    refine r_istore_n ([(3, .int 1), (2, .int 0), (0, .ref 231), (1, .int a1)]) rfl ?_
    refine Ar.fall 28 rfl ?_
    have z_17297 : (0 : Int32).toInt = 0 := rfl
    have z_17298 : (1 : Int32).toInt = 1 := rfl
    refine w_loopI (fun n_ l_ g_ => ∃ x17283 : Int32, ∃ x17284 : Int32, n_ = 50 - x17283.toInt ∧ HI g_ ∧ Fr F_X11_rests_231 A_X11_rests_231 g0 g_ ∧ en_get 0 l_ = some (.ref 231) ∧ en_get 1 l_ = some (.int a1) ∧ en_get 2 l_ = some (.int x17283) ∧ en_get 3 l_ = some (.int x17284) ∧ (0 ≤ x17283.toInt ∧ x17283.toInt ≤ 50) ∧ (0 ≤ x17284.toInt ∧ x17284.toInt ≤ 1)) ?_ (50 - 0) ⟨0, 1, by first | rfl | omega, hI14055, hF14059, rfl, rfl, rfl, rfl, by decide, by decide⟩
    rintro n17289 l17288 g17285 ⟨x17283, x17284, hm17299, hI17286, hF17287, e17291, e17292, e17293, e17294, r17295, r17296⟩ ih17290
    refine At.enter rfl ?_
    refine r_iload_n e17294 ?_
    refine r_ifs 32 rfl (fun c17300 => ?_) (fun c17300 => ?_)
    · have c17300_ : x17284.toInt = 0 := en_k_eq_t c17300
      refine At.enter rfl ?_
      refine r_iload_n e17292 ?_
      refine r_iconst (-1) rfl ?_
      refine r_ics 107 rfl (fun c17301 => ?_) (fun c17301 => ?_)
      · have c17301_ : a1.toInt = (-1) := en_i_eq_t c17301
        refine At.enter rfl ?_
        refine r_iload_n e17294 ?_
        refine r_ifs 120 rfl (fun c17302 => ?_) (fun c17302 => ?_)
        · have c17302_ : x17284.toInt = 0 := en_k_eq_t c17302
          refine At.enter rfl ?_
          refine r_iload_n e17293 ?_
          refine Ar.fall 126 rfl ?_
          refine At.enter rfl ?_
          refine r_ireti ?_
          exact ⟨_, rfl, hI17286, hF17287, _, rfl, trivial⟩
        · have c17302_ : x17284.toInt ≠ 0 := en_k_eq_f c17302
          exfalso; omega
      · have c17301_ : a1.toInt ≠ (-1) := en_i_eq_f c17301
        exfalso; omega
    · have c17300_ : x17284.toInt ≠ 0 := en_k_eq_f c17300
      refine At.enter rfl ?_
      refine r_iload_n e17293 ?_
      refine r_bipush 50 rfl ?_
      refine r_ics 38 rfl (fun c17303 => ?_) (fun c17303 => ?_)
      · have c17303_ : x17283.toInt ≥ 50 := en_i_ge_t c17303
        refine At.enter rfl ?_
        refine r_iload_n e17292 ?_
        refine r_iconst (-1) rfl ?_
        refine r_ics 107 rfl (fun c17304 => ?_) (fun c17304 => ?_)
        · have c17304_ : a1.toInt = (-1) := en_i_eq_t c17304
          refine At.enter rfl ?_
          refine r_iload_n e17294 ?_
          refine r_ifs 120 rfl (fun c17305 => ?_) (fun c17305 => ?_)
          · have c17305_ : x17284.toInt = 0 := en_k_eq_t c17305
            exfalso; omega
          · have c17305_ : x17284.toInt ≠ 0 := en_k_eq_f c17305
            refine At.enter rfl ?_
            refine r_bipush 51 rfl ?_
            refine r_goto ?_
            refine At.enter rfl ?_
            refine r_ireti ?_
            exact ⟨_, rfl, hI17286, hF17287, _, rfl, trivial⟩
        · have c17304_ : a1.toInt ≠ (-1) := en_i_eq_f c17304
          exfalso; omega
      · have c17303_ : x17283.toInt < 50 := en_i_ge_f c17303
        refine At.enter rfl ?_
        refine r_iconst 0 rfl ?_
        refine r_istore_n _ rfl ?_
        refine q_iinc (w_p1 (by decide) (Or.inr rfl) e17293) (x17283.toInt + 1) rfl (by omega) (fun v17306 hv17306 => ?_)
        refine r_iconst 0 rfl ?_
        refine r_istore _ rfl ?_
        refine Ar.fall 46 rfl ?_
        have z_17565 : (0 : Int32).toInt = 0 := rfl
        have z_17566 : (0 : Int32).toInt = 0 := rfl
        refine w_loopI (fun n_ l_ g_ => ∃ x17550 : Int32, ∃ x17551 : Int32, n_ = 12 - x17551.toInt ∧ HI g_ ∧ Fr F_X11_rests_231 A_X11_rests_231 g0 g_ ∧ en_get 0 l_ = some (.ref 231) ∧ en_get 1 l_ = some (.int a1) ∧ en_get 2 l_ = some (.int v17306) ∧ en_get 3 l_ = some (.int x17550) ∧ en_get 4 l_ = some (.int x17551) ∧ (0 ≤ x17550.toInt ∧ x17550.toInt ≤ 1) ∧ (0 ≤ x17551.toInt ∧ x17551.toInt ≤ 12)) ?_ (12 - 0) ⟨0, 0, by first | rfl | omega, hI17286, hF17287, (w_p1 (by decide) (Or.inr rfl) (w_p1 (by decide) (Or.inr rfl) (w_p1 (by decide) (Or.inr rfl) e17291))), (w_p1 (by decide) (Or.inr rfl) (w_p1 (by decide) (Or.inr rfl) (w_p1 (by decide) (Or.inr rfl) e17292))), (w_p1 (by decide) (Or.inr rfl) (w_e1 _ _ _)), (w_p1 (by decide) (Or.inr rfl) (w_p1 (by decide) (Or.inr rfl) (w_e1 _ _ _))), (w_e1 _ _ _), by decide, by decide⟩
        rintro n17556 l17555 g17552 ⟨x17550, x17551, hm17567, hI17553, hF17554, e17558, e17559, e17560, e17561, e17562, r17563, r17564⟩ ih17557
        refine At.enter rfl ?_
        refine r_iload e17562 ?_
        refine r_aload_n e17558 ?_
        refine q_getR (Sh.ref hI17553.1 kx_231 rfl) ?_
        refine r_iconst 0 rfl ?_
        obtain ⟨v17568, hv17568⟩ : ∃ v, eA g0 233 0 = v := ⟨_, rfl⟩
        have tv17568 := congrArg Int32.toInt hv17568
        have wv17568 := HI.t0 hI0
        rw [hv17568] at wv17568
        refine q_iald (Sh.arr hI17553.1 ka_233) 0 rfl (by decide) v17568 ((eA_c (hF17554.2.1 233 (by decide))).trans hv17568) ?_
        have bv17570 := q_bnd x17551
        have bv17571 := q_bnd v17568
        refine r_ics 57 rfl (fun c17569 => ?_) (fun c17569 => ?_)
        · have c17569_ : x17551.toInt ≥ v17568.toInt := en_i_ge_t c17569
          refine At.enter rfl ?_
          refine r_goto ?_
          exact ih17290 (50 - v17306.toInt) _ _ ⟨v17306, x17550, by first | rfl | omega, hI17553, hF17554, e17558, e17559, e17560, e17561, by omega, by omega⟩ ⟨by omega, by omega⟩
        · have c17569_ : x17551.toInt < v17568.toInt := en_i_ge_f c17569
          refine At.enter rfl ?_
          refine r_aload_n e17558 ?_
          refine r_iload e17562 ?_
          refine r_callV 63 rfl [.ref 231, .int x17551] [] (Nat.le_of_ble_eq_true rfl) rfl (T_X11_incomeOf_231 _ hI17553 x17551 (by omega)) ?_
          rintro _ _ ⟨g17572, rfl, hI17573, hF17574, v17575, rfl, hr17576⟩
          refine At.sti ?_
          have hF17577 := Fr.tr hF17554 hF17574 rfl rfl
          refine At.enter rfl ?_
          refine r_istore _ rfl ?_
          refine r_aload_n (w_p1 (by decide) (Or.inr rfl) e17558) ?_
          refine r_iload (w_p1 (by decide) (Or.inr rfl) e17562) ?_
          refine r_callV 71 rfl [.ref 231, .int x17551] [] (Nat.le_of_ble_eq_true rfl) rfl (T_X11_answerOf_231 _ hI17573 x17551 (by omega)) ?_
          rintro _ _ ⟨g17578, rfl, hI17579, hF17580, v17581, rfl, hr17582⟩
          refine At.sti ?_
          have hF17583 := Fr.tr hF17577 hF17580 rfl rfl
          refine At.enter rfl ?_
          refine r_istore _ rfl ?_
          refine r_aload_n (w_p1 (by decide) (Or.inr rfl) (w_p1 (by decide) (Or.inr rfl) e17558)) ?_
          obtain ⟨v17584, hv17584⟩ : ∃ v, gI g17578 231 47 = v := ⟨_, rfl⟩
          refine q_getI (Sh.int hI17579.1 kx_231 rfl) v17584 hv17584 ?_
          refine r_iload (w_p1 (by decide) (Or.inr rfl) (w_e1 _ _ _)) ?_
          have bv17586 := q_bnd v17584
          have bv17587 := q_bnd v17575
          refine r_ics 82 rfl (fun c17585 => ?_) (fun c17585 => ?_)
          · have c17585_ : v17584.toInt ≤ v17575.toInt := en_i_le_t c17585
            refine At.enter rfl ?_
            refine q_iinc (w_p1 (by decide) (Or.inr rfl) (w_p1 (by decide) (Or.inr rfl) e17562)) (x17551.toInt + 1) rfl (by omega) (fun v17588 hv17588 => ?_)
            refine r_goto ?_
            exact ih17557 (12 - v17588.toInt) _ _ ⟨x17550, v17588, by first | rfl | omega, hI17579, hF17583, (w_p1 (by decide) (Or.inr rfl) (w_p1 (by decide) (Or.inr rfl) (w_p1 (by decide) (Or.inr rfl) e17558))), (w_p1 (by decide) (Or.inr rfl) (w_p1 (by decide) (Or.inr rfl) (w_p1 (by decide) (Or.inr rfl) e17559))), (w_p1 (by decide) (Or.inr rfl) (w_p1 (by decide) (Or.inr rfl) (w_p1 (by decide) (Or.inr rfl) e17560))), (w_p1 (by decide) (Or.inr rfl) (w_p1 (by decide) (Or.inr rfl) (w_p1 (by decide) (Or.inr rfl) e17561))), (w_e1 _ _ _), by omega, by omega⟩ ⟨by omega, by omega⟩
          · have c17585_ : v17584.toInt > v17575.toInt := en_i_le_f c17585
            refine At.enter rfl ?_
            refine r_aload_n (w_p1 (by decide) (Or.inr rfl) (w_p1 (by decide) (Or.inr rfl) e17558)) ?_
            refine q_getR (Sh.ref hI17579.1 kx_231 rfl) ?_
            refine r_iload (w_p1 (by decide) (Or.inr rfl) (w_p1 (by decide) (Or.inr rfl) e17562)) ?_
            refine r_iload (w_e1 _ _ _) ?_
            refine q_iast (Sh.arr hI17579.1 ka_247) (x17551.toInt) rfl (by omega) ?_
            have hI17589 := HI.wA0 hI17579 ka_247 (p := 247) rfl rfl (x17551.toInt) (v17581)
            have hF17590 := Fr.wA (p := 247) (j := x17551.toInt) (v := v17581) hF17583 rfl
            refine r_iconst 1 rfl ?_
            refine r_istore_n _ rfl ?_
            refine Ar.fall 93 rfl ?_
            refine At.enter rfl ?_
            refine q_iinc (w_p1 (by decide) (Or.inr rfl) (w_p1 (by decide) (Or.inr rfl) (w_p1 (by decide) (Or.inr rfl) e17562))) (x17551.toInt + 1) rfl (by omega) (fun v17591 hv17591 => ?_)
            refine r_goto ?_
            exact ih17557 (12 - v17591.toInt) _ _ ⟨1, v17591, by first | rfl | omega, hI17589, hF17590, (w_p1 (by decide) (Or.inr rfl) (w_p1 (by decide) (Or.inr rfl) (w_p1 (by decide) (Or.inr rfl) (w_p1 (by decide) (Or.inr rfl) e17558)))), (w_p1 (by decide) (Or.inr rfl) (w_p1 (by decide) (Or.inr rfl) (w_p1 (by decide) (Or.inr rfl) (w_p1 (by decide) (Or.inr rfl) e17559)))), (w_p1 (by decide) (Or.inr rfl) (w_p1 (by decide) (Or.inr rfl) (w_p1 (by decide) (Or.inr rfl) (w_p1 (by decide) (Or.inr rfl) e17560)))), (w_p1 (by decide) (Or.inr rfl) (w_e1 _ _ _)), (w_e1 _ _ _), by decide, by omega⟩ ⟨by omega, by omega⟩
  · have c14053_ : a1.toInt ≠ (-1) := en_i_eq_f c14053
    refine At.enter rfl ?_
    refine r_aload_n rfl ?_
    refine r_iload_n rfl ?_
    refine q_inlV 15 rfl [.ref 231, .int a1] [] (Nat.le_of_ble_eq_true rfl) rfl ?_
    refine Ev.mk rfl rfl ⟨Nat.le_of_ble_eq_true rfl, Or.inr (q_rc hI14051.1 kx_231 rfl)⟩ ?_
    show At _ none _ _ (0, [(0, .ref 231), (1, .int a1)], [], (_, _)) _
    refine At.enter rfl ?_
    refine r_iload_n rfl ?_
    refine q_i2l (fun v17592 hv17592 => ?_)
    refine r_lconst 0 rfl ?_
    refine r_aload_n rfl ?_
    refine q_getR (Sh.ref hI14051.1 kx_231 rfl) ?_
    refine r_iconst 0 rfl ?_
    obtain ⟨v17593, hv17593⟩ : ∃ v, eA g0 233 0 = v := ⟨_, rfl⟩
    have tv17593 := congrArg Int32.toInt hv17593
    have wv17593 := HI.t0 hI0
    rw [hv17593] at wv17593
    refine q_iald (Sh.arr hI14051.1 ka_233) 0 rfl (by decide) v17593 ((eA_c (gA_sI)).trans hv17593) ?_
    refine q_i2l (fun v17594 hv17594 => ?_)
    refine r_lconst 1 rfl ?_
    refine q_lsub (v17594.toInt - 1) rfl (by omega) (fun v17595 hv17595 => ?_)
    refine q_inlS 15 rfl [.long v17592, .long 0, .long v17595] [] (Nat.le_of_ble_eq_true rfl) rfl ?_
    refine Ev.mk rfl rfl ⟨Nat.le_of_ble_eq_true rfl, Or.inl rfl⟩ ?_
    show At _ none _ _ (0, [(0, .long v17592), (2, .long 0), (4, .long v17595)], [], (_, _)) _
    refine At.enter rfl ?_
    refine r_lload_n rfl ?_
    refine r_lload_n rfl ?_
    refine r_lcmp _ rfl ?_
    refine r_ifs 6 rfl (fun c17596 => ?_) (fun c17596 => ?_)
    · have c17596_ : v17592.toInt < 0 := en_j_lt_t c17596
      refine At.enter rfl ?_
      refine r_iconst 0 rfl ?_
      refine Ar.fall 18 rfl ?_
      refine At.enter rfl ?_
      refine q_iretz (by decide) ?_
      refine At.enter rfl ?_
      refine q_iretz (by decide) ?_
      refine At.enter rfl ?_
      refine r_iff 18 rfl (by decide) ?_
      refine At.enter rfl ?_
      refine r_iconst (-1) rfl ?_
      refine r_ireti ?_
      exact ⟨_, rfl, hI14051, hF14052, _, rfl, trivial⟩
    · have c17596_ : v17592.toInt ≥ 0 := en_j_lt_f c17596
      refine At.enter rfl ?_
      refine r_lload_n rfl ?_
      refine r_lload rfl ?_
      refine r_lcmp _ rfl ?_
      refine r_ifs 13 rfl (fun c17597 => ?_) (fun c17597 => ?_)
      · have c17597_ : v17592.toInt > v17595.toInt := en_j_gt_t c17597
        refine At.enter rfl ?_
        refine r_iconst 0 rfl ?_
        refine Ar.fall 18 rfl ?_
        refine At.enter rfl ?_
        refine q_iretz (by decide) ?_
        refine At.enter rfl ?_
        refine q_iretz (by decide) ?_
        refine At.enter rfl ?_
        refine r_iff 18 rfl (by decide) ?_
        refine At.enter rfl ?_
        refine r_iconst (-1) rfl ?_
        refine r_ireti ?_
        exact ⟨_, rfl, hI14051, hF14052, _, rfl, trivial⟩
      · have c17597_ : v17592.toInt ≤ v17595.toInt := en_j_gt_f c17597
        refine At.enter rfl ?_
        refine r_iconst 1 rfl ?_
        refine r_goto ?_
        refine At.enter rfl ?_
        refine q_iretz (by decide) ?_
        refine At.enter rfl ?_
        refine q_iretz (by decide) ?_
        refine At.enter rfl ?_
        refine r_ift (by decide) ?_
        refine At.enter rfl ?_
        refine r_aload_n rfl ?_
        refine r_callV 24 rfl [.ref 231] [] (Nat.le_of_ble_eq_true rfl) rfl (T_X11_asIs_231 _ hI14051) ?_
        rintro _ _ ⟨g17598, rfl, hI17599, hF17600, rfl⟩
        refine At.stn ?_
        have hF17603 := Fr.tr hF14052 hF17600 rfl rfl
        refine At.enter rfl ?_
        refine r_iconst 0 rfl ?_
        refine r_istore_n ([(2, .int 0), (0, .ref 231), (1, .int a1)]) rfl ?_
        refine r_iconst 1 rfl ?_
        refine r_istore_n ([(3, .int 1), (2, .int 0), (0, .ref 231), (1, .int a1)]) rfl ?_
        refine Ar.fall 28 rfl ?_
        have z_20731 : (0 : Int32).toInt = 0 := rfl
        have z_20732 : (1 : Int32).toInt = 1 := rfl
        refine w_loopI (fun n_ l_ g_ => ∃ x20717 : Int32, ∃ x20718 : Int32, n_ = 50 - x20717.toInt ∧ HI g_ ∧ Fr F_X11_rests_231 A_X11_rests_231 g0 g_ ∧ en_get 0 l_ = some (.ref 231) ∧ en_get 1 l_ = some (.int a1) ∧ en_get 2 l_ = some (.int x20717) ∧ en_get 3 l_ = some (.int x20718) ∧ (0 ≤ x20717.toInt ∧ x20717.toInt ≤ 50) ∧ (0 ≤ x20718.toInt ∧ x20718.toInt ≤ 1)) ?_ (50 - 0) ⟨0, 1, by first | rfl | omega, hI17599, hF17603, rfl, rfl, rfl, rfl, by decide, by decide⟩
        rintro n20723 l20722 g20719 ⟨x20717, x20718, hm20733, hI20720, hF20721, e20725, e20726, e20727, e20728, r20729, r20730⟩ ih20724
        refine At.enter rfl ?_
        refine r_iload_n e20728 ?_
        refine r_ifs 32 rfl (fun c20734 => ?_) (fun c20734 => ?_)
        · have c20734_ : x20718.toInt = 0 := en_k_eq_t c20734
          refine At.enter rfl ?_
          refine r_iload_n e20726 ?_
          refine r_iconst (-1) rfl ?_
          refine r_ics 107 rfl (fun c20735 => ?_) (fun c20735 => ?_)
          · have c20735_ : a1.toInt = (-1) := en_i_eq_t c20735
            exfalso; omega
          · have c20735_ : a1.toInt ≠ (-1) := en_i_eq_f c20735
            refine At.enter rfl ?_
            refine r_aload_n e20725 ?_
            refine q_getR (Sh.ref hI20720.1 kx_231 rfl) ?_
            refine r_iload_n e20726 ?_
            obtain ⟨v20736, hv20736⟩ : ∃ v, eA g20719 247 a1.toInt = v := ⟨_, rfl⟩
            refine q_iald (Sh.arr hI20720.1 ka_247) a1.toInt rfl (by omega) v20736 hv20736 ?_
            refine r_goto ?_
            refine At.enter rfl ?_
            refine r_ireti ?_
            exact ⟨_, rfl, hI20720, hF20721, _, rfl, trivial⟩
        · have c20734_ : x20718.toInt ≠ 0 := en_k_eq_f c20734
          refine At.enter rfl ?_
          refine r_iload_n e20727 ?_
          refine r_bipush 50 rfl ?_
          refine r_ics 38 rfl (fun c20737 => ?_) (fun c20737 => ?_)
          · have c20737_ : x20717.toInt ≥ 50 := en_i_ge_t c20737
            refine At.enter rfl ?_
            refine r_iload_n e20726 ?_
            refine r_iconst (-1) rfl ?_
            refine r_ics 107 rfl (fun c20738 => ?_) (fun c20738 => ?_)
            · have c20738_ : a1.toInt = (-1) := en_i_eq_t c20738
              exfalso; omega
            · have c20738_ : a1.toInt ≠ (-1) := en_i_eq_f c20738
              refine At.enter rfl ?_
              refine r_aload_n e20725 ?_
              refine q_getR (Sh.ref hI20720.1 kx_231 rfl) ?_
              refine r_iload_n e20726 ?_
              obtain ⟨v20739, hv20739⟩ : ∃ v, eA g20719 247 a1.toInt = v := ⟨_, rfl⟩
              refine q_iald (Sh.arr hI20720.1 ka_247) a1.toInt rfl (by omega) v20739 hv20739 ?_
              refine r_goto ?_
              refine At.enter rfl ?_
              refine r_ireti ?_
              exact ⟨_, rfl, hI20720, hF20721, _, rfl, trivial⟩
          · have c20737_ : x20717.toInt < 50 := en_i_ge_f c20737
            refine At.enter rfl ?_
            refine r_iconst 0 rfl ?_
            refine r_istore_n _ rfl ?_
            refine q_iinc (w_p1 (by decide) (Or.inr rfl) e20727) (x20717.toInt + 1) rfl (by omega) (fun v20740 hv20740 => ?_)
            refine r_iconst 0 rfl ?_
            refine r_istore _ rfl ?_
            refine Ar.fall 46 rfl ?_
            have z_20990 : (0 : Int32).toInt = 0 := rfl
            have z_20991 : (0 : Int32).toInt = 0 := rfl
            refine w_loopI (fun n_ l_ g_ => ∃ x20975 : Int32, ∃ x20976 : Int32, n_ = 12 - x20976.toInt ∧ HI g_ ∧ Fr F_X11_rests_231 A_X11_rests_231 g0 g_ ∧ en_get 0 l_ = some (.ref 231) ∧ en_get 1 l_ = some (.int a1) ∧ en_get 2 l_ = some (.int v20740) ∧ en_get 3 l_ = some (.int x20975) ∧ en_get 4 l_ = some (.int x20976) ∧ (0 ≤ x20975.toInt ∧ x20975.toInt ≤ 1) ∧ (0 ≤ x20976.toInt ∧ x20976.toInt ≤ 12)) ?_ (12 - 0) ⟨0, 0, by first | rfl | omega, hI20720, hF20721, (w_p1 (by decide) (Or.inr rfl) (w_p1 (by decide) (Or.inr rfl) (w_p1 (by decide) (Or.inr rfl) e20725))), (w_p1 (by decide) (Or.inr rfl) (w_p1 (by decide) (Or.inr rfl) (w_p1 (by decide) (Or.inr rfl) e20726))), (w_p1 (by decide) (Or.inr rfl) (w_e1 _ _ _)), (w_p1 (by decide) (Or.inr rfl) (w_p1 (by decide) (Or.inr rfl) (w_e1 _ _ _))), (w_e1 _ _ _), by decide, by decide⟩
            rintro n20981 l20980 g20977 ⟨x20975, x20976, hm20992, hI20978, hF20979, e20983, e20984, e20985, e20986, e20987, r20988, r20989⟩ ih20982
            refine At.enter rfl ?_
            refine r_iload e20987 ?_
            refine r_aload_n e20983 ?_
            refine q_getR (Sh.ref hI20978.1 kx_231 rfl) ?_
            refine r_iconst 0 rfl ?_
            refine q_iald (Sh.arr hI20978.1 ka_233) 0 rfl (by decide) v17593 ((eA_c (hF20979.2.1 233 (by decide))).trans hv17593) ?_
            have bv20994 := q_bnd x20976
            have bv20995 := q_bnd v17593
            refine r_ics 57 rfl (fun c20993 => ?_) (fun c20993 => ?_)
            · have c20993_ : x20976.toInt ≥ v17593.toInt := en_i_ge_t c20993
              refine At.enter rfl ?_
              refine r_goto ?_
              exact ih20724 (50 - v20740.toInt) _ _ ⟨v20740, x20975, by first | rfl | omega, hI20978, hF20979, e20983, e20984, e20985, e20986, by omega, by omega⟩ ⟨by omega, by omega⟩
            · have c20993_ : x20976.toInt < v17593.toInt := en_i_ge_f c20993
              refine At.enter rfl ?_
              refine r_aload_n e20983 ?_
              refine r_iload e20987 ?_
              refine r_callV 63 rfl [.ref 231, .int x20976] [] (Nat.le_of_ble_eq_true rfl) rfl (T_X11_incomeOf_231 _ hI20978 x20976 (by omega)) ?_
              rintro _ _ ⟨g20996, rfl, hI20997, hF20998, v20999, rfl, hr21000⟩
              refine At.sti ?_
              have hF21001 := Fr.tr hF20979 hF20998 rfl rfl
              refine At.enter rfl ?_
              refine r_istore _ rfl ?_
              refine r_aload_n (w_p1 (by decide) (Or.inr rfl) e20983) ?_
              refine r_iload (w_p1 (by decide) (Or.inr rfl) e20987) ?_
              refine r_callV 71 rfl [.ref 231, .int x20976] [] (Nat.le_of_ble_eq_true rfl) rfl (T_X11_answerOf_231 _ hI20997 x20976 (by omega)) ?_
              rintro _ _ ⟨g21002, rfl, hI21003, hF21004, v21005, rfl, hr21006⟩
              refine At.sti ?_
              have hF21007 := Fr.tr hF21001 hF21004 rfl rfl
              refine At.enter rfl ?_
              refine r_istore _ rfl ?_
              refine r_aload_n (w_p1 (by decide) (Or.inr rfl) (w_p1 (by decide) (Or.inr rfl) e20983)) ?_
              obtain ⟨v21008, hv21008⟩ : ∃ v, gI g21002 231 47 = v := ⟨_, rfl⟩
              refine q_getI (Sh.int hI21003.1 kx_231 rfl) v21008 hv21008 ?_
              refine r_iload (w_p1 (by decide) (Or.inr rfl) (w_e1 _ _ _)) ?_
              have bv21010 := q_bnd v21008
              have bv21011 := q_bnd v20999
              refine r_ics 82 rfl (fun c21009 => ?_) (fun c21009 => ?_)
              · have c21009_ : v21008.toInt ≤ v20999.toInt := en_i_le_t c21009
                refine At.enter rfl ?_
                refine q_iinc (w_p1 (by decide) (Or.inr rfl) (w_p1 (by decide) (Or.inr rfl) e20987)) (x20976.toInt + 1) rfl (by omega) (fun v21012 hv21012 => ?_)
                refine r_goto ?_
                exact ih20982 (12 - v21012.toInt) _ _ ⟨x20975, v21012, by first | rfl | omega, hI21003, hF21007, (w_p1 (by decide) (Or.inr rfl) (w_p1 (by decide) (Or.inr rfl) (w_p1 (by decide) (Or.inr rfl) e20983))), (w_p1 (by decide) (Or.inr rfl) (w_p1 (by decide) (Or.inr rfl) (w_p1 (by decide) (Or.inr rfl) e20984))), (w_p1 (by decide) (Or.inr rfl) (w_p1 (by decide) (Or.inr rfl) (w_p1 (by decide) (Or.inr rfl) e20985))), (w_p1 (by decide) (Or.inr rfl) (w_p1 (by decide) (Or.inr rfl) (w_p1 (by decide) (Or.inr rfl) e20986))), (w_e1 _ _ _), by omega, by omega⟩ ⟨by omega, by omega⟩
              · have c21009_ : v21008.toInt > v20999.toInt := en_i_le_f c21009
                refine At.enter rfl ?_
                refine r_aload_n (w_p1 (by decide) (Or.inr rfl) (w_p1 (by decide) (Or.inr rfl) e20983)) ?_
                refine q_getR (Sh.ref hI21003.1 kx_231 rfl) ?_
                refine r_iload (w_p1 (by decide) (Or.inr rfl) (w_p1 (by decide) (Or.inr rfl) e20987)) ?_
                refine r_iload (w_e1 _ _ _) ?_
                refine q_iast (Sh.arr hI21003.1 ka_247) (x20976.toInt) rfl (by omega) ?_
                have hI21013 := HI.wA0 hI21003 ka_247 (p := 247) rfl rfl (x20976.toInt) (v21005)
                have hF21014 := Fr.wA (p := 247) (j := x20976.toInt) (v := v21005) hF21007 rfl
                refine r_iconst 1 rfl ?_
                refine r_istore_n _ rfl ?_
                refine Ar.fall 93 rfl ?_
                refine At.enter rfl ?_
                refine q_iinc (w_p1 (by decide) (Or.inr rfl) (w_p1 (by decide) (Or.inr rfl) (w_p1 (by decide) (Or.inr rfl) e20987))) (x20976.toInt + 1) rfl (by omega) (fun v21015 hv21015 => ?_)
                refine r_goto ?_
                exact ih20982 (12 - v21015.toInt) _ _ ⟨1, v21015, by first | rfl | omega, hI21013, hF21014, (w_p1 (by decide) (Or.inr rfl) (w_p1 (by decide) (Or.inr rfl) (w_p1 (by decide) (Or.inr rfl) (w_p1 (by decide) (Or.inr rfl) e20983)))), (w_p1 (by decide) (Or.inr rfl) (w_p1 (by decide) (Or.inr rfl) (w_p1 (by decide) (Or.inr rfl) (w_p1 (by decide) (Or.inr rfl) e20984)))), (w_p1 (by decide) (Or.inr rfl) (w_p1 (by decide) (Or.inr rfl) (w_p1 (by decide) (Or.inr rfl) (w_p1 (by decide) (Or.inr rfl) e20985)))), (w_p1 (by decide) (Or.inr rfl) (w_e1 _ _ _)), (w_e1 _ _ _), by decide, by omega⟩ ⟨by omega, by omega⟩
