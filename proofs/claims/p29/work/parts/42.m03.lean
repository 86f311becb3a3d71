def F_X11_reckon_231 : List (Nat × Nat) := [(231, 30)]
def A_X11_reckon_231 : List Nat := []
set_option maxRecDepth 100000 in
set_option maxHeartbeats 4000000 in
theorem T_X11_reckon_231 (d : Nat) {N : Nat} {g0 : List en_E} (hI0 : HI g0) (a1 : Int32) (a2 : Int64) (a3 : Int64) : Ev (d + 1) 212 [.ref 231, .int a1, .long a2, .long a3] (g0, N) (fun w h' => ∃ g', h' = (g', N) ∧ HI g' ∧ Fr F_X11_reckon_231 A_X11_reckon_231 g0 g' ∧ ∃ r : Int64, w = some (.long r) ∧ True ∧ JNM g0 g' a1.toInt a2 a3 r) := by
  have hF0 : Fr F_X11_reckon_231 A_X11_reckon_231 g0 g0 := Fr.rf
  refine Ev.mk rfl rfl ⟨Nat.le_of_ble_eq_true rfl, Or.inr (q_rc hI0.1 kx_231 rfl)⟩ ?_
  show At _ none _ _ (0, [(0, .ref 231), (1, .int a1), (2, .long a2), (4, .long a3)], [], (_, _)) _
  refine At.enter rfl ?_
  refine r_iload_n rfl ?_
  by_cases c29_0 : a1.toInt = 20
  · refine r_tsw 40 (by rw [c29_0]; rfl) ?_
    refine At.enter rfl ?_
    refine r_lload_n rfl ?_
    refine r_lload rfl ?_
    refine q_laddO (fun v30 lv30 => ?_)
    refine r_lret ?_
    exact ⟨_, rfl, hI0, hF0, _, rfl, trivial, ⟨KSM_rf, fun ha hb k2 k6 => ⟨fun z => absurd z (by omega), fun z => ⟨(by rw [show a1.toInt = 20 from by omega, opv_20]; exact ladd_b lv30 ha.1 ha.2 hb.1 hb.2), fun b => b⟩⟩⟩⟩
  by_cases c29_1 : a1.toInt = 21
  · refine r_tsw 45 (by rw [c29_1]; rfl) ?_
    refine At.enter rfl ?_
    refine r_lload_n rfl ?_
    refine r_lload rfl ?_
    refine q_lsubO (fun v31 lv31 => ?_)
    refine r_lret ?_
    exact ⟨_, rfl, hI0, hF0, _, rfl, trivial, ⟨KSM_rf, fun ha hb k2 k6 => ⟨fun z => absurd z (by omega), fun z => ⟨(by rw [show a1.toInt = 21 from by omega, opv_21]; exact lsub_b lv31 ha.1 ha.2 hb.1 hb.2), fun b => b⟩⟩⟩⟩
  by_cases c29_2 : a1.toInt = 22
  · refine r_tsw 50 (by rw [c29_2]; rfl) ?_
    refine At.enter rfl ?_
    refine r_lload_n rfl ?_
    refine r_lload rfl ?_
    refine q_lmulO (fun v32 lv32 => ?_)
    refine r_lret ?_
    exact ⟨_, rfl, hI0, hF0, _, rfl, trivial, ⟨KSM_rf, fun ha hb k2 k6 => ⟨fun z => absurd z (by omega), fun z => ⟨(by rw [show a1.toInt = 22 from by omega, opv_22]; exact lmul_b lv32 ha.1 ha.2 hb.1 hb.2), fun b => b⟩⟩⟩⟩
  by_cases c29_3 : a1.toInt = 23
  · refine r_tsw 55 (by rw [c29_3]; rfl) ?_
    refine At.enter rfl ?_
    refine r_aload_n rfl ?_
    refine r_lload rfl ?_
    refine r_lconst 0 rfl ?_
    refine r_lcmp _ rfl ?_
    refine r_ifs 63 rfl (fun c33 => ?_) (fun c33 => ?_)
    · have c33_ : a3.toInt ≠ 0 := en_j_ne_t c33
      refine At.enter rfl ?_
      refine r_iconst 0 rfl ?_
      refine Ar.fall 68 rfl ?_
      refine At.enter rfl ?_
      refine q_putI (Sh.int hI0.1 kx_231 rfl) rfl ?_
      have hI34 := HI.wI0 hI0 kx_231 rfl (p := 231) (b := 30) (v := 0) rfl
      have hF35 := Fr.wI (p := 231) (b := 30) (v := 0) hF0 rfl
      refine r_aload_n rfl ?_
      refine q_getI (Sh.int hI34.1 kx_231 rfl) 0 (gI_sI_eq hI0.1 kx_231 rfl _) ?_
      refine r_ift (by decide) ?_
      refine At.enter rfl ?_
      refine r_lload_n rfl ?_
      refine r_lload rfl ?_
      refine q_ldivO (by omega) (fun v36 lv36 => ?_)
      refine Ar.fall 86 rfl ?_
      refine At.enter rfl ?_
      refine r_lret ?_
      exact ⟨_, rfl, hI34, hF35, _, rfl, trivial, ⟨(KSM_I KSM_rf), fun ha hb k2 k6 => ⟨fun z => absurd z (by omega), fun z => ⟨(by rw [show a1.toInt = 23 from by omega, opv_23]; exact ldiv_e lv36 ha.1 ha.2), fun b => (congrArg Int32.toInt ((gI_sI_eq hI0.1 kx_231 rfl _))).trans rfl⟩⟩⟩⟩
    · have c33_ : a3.toInt = 0 := en_j_ne_f c33
      refine At.enter rfl ?_
      refine r_iconst 1 rfl ?_
      refine r_goto ?_
      refine At.enter rfl ?_
      refine q_putI (Sh.int hI0.1 kx_231 rfl) rfl ?_
      have hI37 := HI.wI0 hI0 kx_231 rfl (p := 231) (b := 30) (v := 1) rfl
      have hF38 := Fr.wI (p := 231) (b := 30) (v := 1) hF0 rfl
      refine r_aload_n rfl ?_
      refine q_getI (Sh.int hI37.1 kx_231 rfl) 1 (gI_sI_eq hI0.1 kx_231 rfl _) ?_
      refine r_iff 78 rfl (by decide) ?_
      refine At.enter rfl ?_
      refine r_lconst 0 rfl ?_
      refine r_goto ?_
      refine At.enter rfl ?_
      refine r_lret ?_
      exact ⟨_, rfl, hI37, hF38, _, rfl, trivial, ⟨(KSM_I KSM_rf), fun ha hb k2 k6 => ⟨fun z q => absurd ((congrArg Int32.toInt ((gI_sI_eq hI0.1 kx_231 rfl _))).symm.trans q) (by decide), fun z => absurd ⟨by omega, by omega⟩ z⟩⟩⟩
  by_cases c29_4 : a1.toInt = 24
  · refine r_tsw 87 (by rw [c29_4]; rfl) ?_
    refine At.enter rfl ?_
    refine r_lload_n rfl ?_
    refine r_lload rfl ?_
    refine r_lcmp _ rfl ?_
    refine r_ifs 94 rfl (fun c39 => ?_) (fun c39 => ?_)
    · have c39_ : a2.toInt ≥ a3.toInt := en_j_ge_t c39
      refine At.enter rfl ?_
      refine r_lconst 0 rfl ?_
      refine Ar.fall 99 rfl ?_
      refine At.enter rfl ?_
      refine r_lret ?_
      exact ⟨_, rfl, hI0, hF0, _, rfl, trivial, ⟨KSM_rf, fun ha hb k2 k6 => ⟨fun z => absurd z (by omega), fun z => ⟨(by first | (rw [show a1.toInt = 24 from by omega, opv_24]; exact (show (0 : Int64).toInt = 0 from rfl).trans (if_neg (by omega)).symm) | (rw [show a1.toInt = 25 from by omega, opv_25]; exact (show (0 : Int64).toInt = 0 from rfl).trans (if_neg (by omega)).symm) | (rw [show a1.toInt = 26 from by omega, opv_26]; exact (show (0 : Int64).toInt = 0 from rfl).trans (if_neg (by omega)).symm)), fun b => b⟩⟩⟩⟩
    · have c39_ : a2.toInt < a3.toInt := en_j_ge_f c39
      refine At.enter rfl ?_
      refine r_lconst 1 rfl ?_
      refine r_goto ?_
      refine At.enter rfl ?_
      refine r_lret ?_
      exact ⟨_, rfl, hI0, hF0, _, rfl, trivial, ⟨KSM_rf, fun ha hb k2 k6 => ⟨fun z => absurd z (by omega), fun z => ⟨(by first | (rw [show a1.toInt = 24 from by omega, opv_24]; exact (show (1 : Int64).toInt = 1 from rfl).trans (if_pos (by omega)).symm) | (rw [show a1.toInt = 25 from by omega, opv_25]; exact (show (1 : Int64).toInt = 1 from rfl).trans (if_pos (by omega)).symm) | (rw [show a1.toInt = 26 from by omega, opv_26]; exact (show (1 : Int64).toInt = 1 from rfl).trans (if_pos (by omega)).symm)), fun b => b⟩⟩⟩⟩
  by_cases c29_5 : a1.toInt = 25
  · refine r_tsw 100 (by rw [c29_5]; rfl) ?_
    refine At.enter rfl ?_
    refine r_lload_n rfl ?_
    refine r_lload rfl ?_
    refine r_lcmp _ rfl ?_
    refine r_ifs 107 rfl (fun c40 => ?_) (fun c40 => ?_)
    · have c40_ : a2.toInt ≤ a3.toInt := en_j_le_t c40
      refine At.enter rfl ?_
      refine r_lconst 0 rfl ?_
      refine Ar.fall 112 rfl ?_
      refine At.enter rfl ?_
      refine r_lret ?_
      exact ⟨_, rfl, hI0, hF0, _, rfl, trivial, ⟨KSM_rf, fun ha hb k2 k6 => ⟨fun z => absurd z (by omega), fun z => ⟨(by first | (rw [show a1.toInt = 24 from by omega, opv_24]; exact (show (0 : Int64).toInt = 0 from rfl).trans (if_neg (by omega)).symm) | (rw [show a1.toInt = 25 from by omega, opv_25]; exact (show (0 : Int64).toInt = 0 from rfl).trans (if_neg (by omega)).symm) | (rw [show a1.toInt = 26 from by omega, opv_26]; exact (show (0 : Int64).toInt = 0 from rfl).trans (if_neg (by omega)).symm)), fun b => b⟩⟩⟩⟩
    · have c40_ : a2.toInt > a3.toInt := en_j_le_f c40
      refine At.enter rfl ?_
      refine r_lconst 1 rfl ?_
      refine r_goto ?_
      refine At.enter rfl ?_
      refine r_lret ?_
      exact ⟨_, rfl, hI0, hF0, _, rfl, trivial, ⟨KSM_rf, fun ha hb k2 k6 => ⟨fun z => absurd z (by omega), fun z => ⟨(by first | (rw [show a1.toInt = 24 from by omega, opv_24]; exact (show (1 : Int64).toInt = 1 from rfl).trans (if_pos (by omega)).symm) | (rw [show a1.toInt = 25 from by omega, opv_25]; exact (show (1 : Int64).toInt = 1 from rfl).trans (if_pos (by omega)).symm) | (rw [show a1.toInt = 26 from by omega, opv_26]; exact (show (1 : Int64).toInt = 1 from rfl).trans (if_pos (by omega)).symm)), fun b => b⟩⟩⟩⟩
  have c41 : a1.toInt < 20 ∨ 25 < a1.toInt := by omega
  refine r_tsw 113 (by unfold en_sw; rw [if_pos c41]; rfl) ?_
  refine At.enter rfl ?_
  refine r_lload_n rfl ?_
  refine r_lload rfl ?_
  refine r_lcmp _ rfl ?_
  refine r_ifs 120 rfl (fun c42 => ?_) (fun c42 => ?_)
  · have c42_ : a2.toInt ≠ a3.toInt := en_j_ne_t c42
    refine At.enter rfl ?_
    refine r_lconst 0 rfl ?_
    refine Ar.fall 125 rfl ?_
    refine At.enter rfl ?_
    refine r_lret ?_
    exact ⟨_, rfl, hI0, hF0, _, rfl, trivial, ⟨KSM_rf, fun ha hb k2 k6 => ⟨fun z => absurd z (by omega), fun z => ⟨(by first | (rw [show a1.toInt = 24 from by omega, opv_24]; exact (show (0 : Int64).toInt = 0 from rfl).trans (if_neg (by omega)).symm) | (rw [show a1.toInt = 25 from by omega, opv_25]; exact (show (0 : Int64).toInt = 0 from rfl).trans (if_neg (by omega)).symm) | (rw [show a1.toInt = 26 from by omega, opv_26]; exact (show (0 : Int64).toInt = 0 from rfl).trans (if_neg (by omega)).symm)), fun b => b⟩⟩⟩⟩
  · have c42_ : a2.toInt = a3.toInt := en_j_ne_f c42
    refine At.enter rfl ?_
    refine r_lconst 1 rfl ?_
    refine r_goto ?_
    refine At.enter rfl ?_
    refine r_lret ?_
    exact ⟨_, rfl, hI0, hF0, _, rfl, trivial, ⟨KSM_rf, fun ha hb k2 k6 => ⟨fun z => absurd z (by omega), fun z => ⟨(by first | (rw [show a1.toInt = 24 from by omega, opv_24]; exact (show (1 : Int64).toInt = 1 from rfl).trans (if_pos (by omega)).symm) | (rw [show a1.toInt = 25 from by omega, opv_25]; exact (show (1 : Int64).toInt = 1 from rfl).trans (if_pos (by omega)).symm) | (rw [show a1.toInt = 26 from by omega, opv_26]; exact (show (1 : Int64).toInt = 1 from rfl).trans (if_pos (by omega)).symm)), fun b => b⟩⟩⟩⟩

def F_X11_reckonAll_231 : List (Nat × Nat) := [(231, 30), (231, 31)]
def A_X11_reckonAll_231 : List Nat := []
set_option maxRecDepth 100000 in
set_option maxHeartbeats 4000000 in
theorem T_X11_reckonAll_231 (d : Nat) {N : Nat} {g0 : List en_E} (hI0 : HI g0) (a1 : Int32) (a2 : Int32) (hC : WfCode (fun i => (eA g0 233 ((gI g0 231 27).toInt + 98 + 2 * i)).toInt) (fun i => (eA g0 233 ((gI g0 231 27).toInt + 98 + 2 * i + 1)).toInt) a1.toInt a2.toInt) : Ev (d + 2) 213 [.ref 231, .int a1, .int a2] (g0, N) (fun w h' => ∃ g', h' = (g', N) ∧ HI g' ∧ Fr F_X11_reckonAll_231 A_X11_reckonAll_231 g0 g' ∧ w = none ∧ WRN g0 g' a1.toInt a2.toInt) := by
  have hF0 : Fr F_X11_reckonAll_231 A_X11_reckonAll_231 g0 g0 := Fr.rf
  obtain ⟨c1, c2, c3, H, hH0, hHr, hHs⟩ := hC
  refine Ev.mk rfl rfl ⟨Nat.le_of_ble_eq_true rfl, Or.inr (q_rc hI0.1 kx_231 rfl)⟩ ?_
  show At _ none _ _ (0, [(0, .ref 231), (1, .int a1), (2, .int a2)], [], (_, _)) _
  refine At.enter rfl ?_
  refine r_aload_n rfl ?_
  refine r_iconst 0 rfl ?_
  refine q_putI (Sh.int hI0.1 kx_231 rfl) rfl ?_
  have hI1193 := HI.wI0 hI0 kx_231 rfl (p := 231) (b := 30) (v := 0) rfl
  have hF1194 := Fr.wI (p := 231) (b := 30) (v := 0) hF0 rfl
  refine r_iconst 0 rfl ?_
  refine r_istore_n ([(3, .int 0), (0, .ref 231), (1, .int a1), (2, .int a2)]) rfl ?_
  refine r_iload_n rfl ?_
  refine r_istore ([(4, .int a1), (3, .int 0), (0, .ref 231), (1, .int a1), (2, .int a2)]) rfl ?_
  refine Ar.fall 10 rfl ?_
  have z_1707 : (0 : Int32).toInt = 0 := rfl
  refine w_loopI (fun n_ l_ g_ => ∃ x1689 : Int32, ∃ x1690 : Int32, n_ = a2.toInt - x1690.toInt ∧ HI g_ ∧ Fr F_X11_reckonAll_231 A_X11_reckonAll_231 g0 g_ ∧ en_get 0 l_ = some (.ref 231) ∧ en_get 1 l_ = some (.int a1) ∧ en_get 2 l_ = some (.int a2) ∧ en_get 3 l_ = some (.int x1689) ∧ en_get 4 l_ = some (.int x1690) ∧ (0 ≤ x1689.toInt ∧ x1689.toInt ≤ 400) ∧ (0 ≤ x1690.toInt ∧ x1690.toInt ≤ 400) ∧ (x1689.toInt = H x1690.toInt) ∧ (a1.toInt ≤ x1690.toInt ∧ x1690.toInt ≤ a2.toInt) ∧ (WQM g0 g_ a1.toInt a2.toInt x1690.toInt x1689.toInt)) ?_ (a2.toInt - a1.toInt) ⟨0, a1, by first | rfl | omega, hI1193, hF1194, rfl, rfl, rfl, rfl, rfl, by decide, by omega, by omega, by omega, (WQM_z gK_sI ((congrArg Int32.toInt ((gI_sI_eq hI0.1 kx_231 rfl _))).trans rfl) rfl rfl)⟩
  rintro n1695 l1694 g1691 ⟨x1689, x1690, hm1708, hI1692, hF1693, e1697, e1698, e1699, e1700, e1701, r1702, r1703, q1704, q1705, q1706⟩ ih1696
  refine At.enter rfl ?_
  refine r_iload e1701 ?_
  refine r_iload_n e1699 ?_
  have bv1710 := q_bnd x1690
  have bv1711 := q_bnd a2
  refine r_ics 16 rfl (fun c1709 => ?_) (fun c1709 => ?_)
  · have c1709_ : x1690.toInt ≥ a2.toInt := en_i_ge_t c1709
    refine At.enter rfl ?_
    refine r_aload_n e1697 ?_
    refine r_iload_n e1700 ?_
    refine r_ifs 250 rfl (fun c1712 => ?_) (fun c1712 => ?_)
    · have c1712_ : x1689.toInt ≤ 0 := en_k_le_t c1712
      refine At.enter rfl ?_
      refine r_lconst 0 rfl ?_
      refine Ar.fall 260 rfl ?_
      refine At.enter rfl ?_
      refine q_putJ (Sh.long hI1692.1 kx_231 rfl) rfl ?_
      have hI1713 := HI.wJ hI1692 kx_231 rfl (p := 231) (b := 31) (v := 0)
      have hF1714 := Fr.wJ (p := 231) (b := 31) (v := 0) hF1693 rfl
      refine r_vret ?_
      exact ⟨_, rfl, hI1713, hF1714, rfl, (WQM_out q1706 (by first | exact Or.inl (by omega)) gK_sJ ((gI_sJ_ne (by decide))) ((gJ_sJ_eq hI1692.1 kx_231 rfl _)) (fun h => absurd h (by omega)))⟩
    · have c1712_ : x1689.toInt > 0 := en_k_le_f c1712
      refine At.enter rfl ?_
      refine r_aload_n e1697 ?_
      refine q_getR (Sh.ref hI1692.1 kx_231 rfl) ?_
      refine r_iconst 0 rfl ?_
      refine q_laldE (Sh.lar hI1692.1 ka_245) (0) rfl (by decide) (fun v1715 hv1715 => ?_)
      refine r_goto ?_
      refine At.enter rfl ?_
      refine q_putJ (Sh.long hI1692.1 kx_231 rfl) rfl ?_
      have hI1716 := HI.wJ hI1692 kx_231 rfl (p := 231) (b := 31) (v := v1715)
      have hF1717 := Fr.wJ (p := 231) (b := 31) (v := v1715) hF1693 rfl
      refine r_vret ?_
      exact ⟨_, rfl, hI1716, hF1717, rfl, (WQM_out q1706 (by first | exact Or.inl (by omega)) gK_sJ ((gI_sJ_ne (by decide))) ((gJ_sJ_eq hI1692.1 kx_231 rfl _)) (fun _ => hv1715))⟩
  · have c1709_ : x1690.toInt < a2.toInt := en_i_ge_f c1709
    refine At.enter rfl ?_
    refine r_aload_n e1697 ?_
    obtain ⟨v1718, hv1718⟩ : ∃ v, gI g1691 231 30 = v := ⟨_, rfl⟩
    refine q_getI (Sh.int hI1692.1 kx_231 rfl) v1718 hv1718 ?_
    refine r_ifs 23 rfl (fun c1719 => ?_) (fun c1719 => ?_)
    · have c1719_ : v1718.toInt ≠ 0 := en_k_ne_t c1719
      refine At.enter rfl ?_
      refine r_aload_n e1697 ?_
      refine r_iload_n e1700 ?_
      refine r_ifs 250 rfl (fun c1720 => ?_) (fun c1720 => ?_)
      · have c1720_ : x1689.toInt ≤ 0 := en_k_le_t c1720
        refine At.enter rfl ?_
        refine r_lconst 0 rfl ?_
        refine Ar.fall 260 rfl ?_
        refine At.enter rfl ?_
        refine q_putJ (Sh.long hI1692.1 kx_231 rfl) rfl ?_
        have hI1721 := HI.wJ hI1692 kx_231 rfl (p := 231) (b := 31) (v := 0)
        have hF1722 := Fr.wJ (p := 231) (b := 31) (v := 0) hF1693 rfl
        refine r_vret ?_
        exact ⟨_, rfl, hI1721, hF1722, rfl, (WQM_out q1706 (by first | exact Or.inl (by omega) | exact Or.inr (by rw [hv1718]; omega)) gK_sJ ((gI_sJ_ne (by decide))) ((gJ_sJ_eq hI1692.1 kx_231 rfl _)) (fun h => absurd h (by omega)))⟩
      · have c1720_ : x1689.toInt > 0 := en_k_le_f c1720
        refine At.enter rfl ?_
        refine r_aload_n e1697 ?_
        refine q_getR (Sh.ref hI1692.1 kx_231 rfl) ?_
        refine r_iconst 0 rfl ?_
        refine q_laldE (Sh.lar hI1692.1 ka_245) (0) rfl (by decide) (fun v1723 hv1723 => ?_)
        refine r_goto ?_
        refine At.enter rfl ?_
        refine q_putJ (Sh.long hI1692.1 kx_231 rfl) rfl ?_
        have hI1724 := HI.wJ hI1692 kx_231 rfl (p := 231) (b := 31) (v := v1723)
        have hF1725 := Fr.wJ (p := 231) (b := 31) (v := v1723) hF1693 rfl
        refine r_vret ?_
        exact ⟨_, rfl, hI1724, hF1725, rfl, (WQM_out q1706 (by first | exact Or.inl (by omega) | exact Or.inr (by rw [hv1718]; omega)) gK_sJ ((gI_sJ_ne (by decide))) ((gJ_sJ_eq hI1692.1 kx_231 rfl _)) (fun _ => hv1723))⟩
    · have c1719_ : v1718.toInt = 0 := en_k_ne_f c1719
      refine At.enter rfl ?_
      refine r_aload_n e1697 ?_
      refine q_getR (Sh.ref hI1692.1 kx_231 rfl) ?_
      refine r_aload_n e1697 ?_
      obtain ⟨v1726, hv1726⟩ : ∃ v, gI g0 231 27 = v := ⟨_, rfl⟩
      have rv1726 := RgF.at hI0.2.1 (p := 231) (b := 27) rfl
      rw [hv1726] at rv1726
      dsimp only at rv1726
      refine q_getI (Sh.int hI1692.1 kx_231 rfl) v1726 ((hF1693.1 231 27 (by decide)).trans hv1726) ?_
      refine r_bipush 98 rfl ?_
      refine q_iadd (v1726.toInt + 98) rfl (by omega) (fun v1727 hv1727 => ?_)
      refine r_iconst 2 rfl ?_
      refine r_iload e1701 ?_
      refine q_imul (2 * x1690.toInt) rfl (by omega) (fun v1728 hv1728 => ?_)
      refine q_iadd (v1727.toInt + v1728.toInt) rfl (by omega) (fun v1729 hv1729 => ?_)
      obtain ⟨v1730, hv1730⟩ : ∃ v, eA g0 233 (v1726.toInt + 2 * x1690.toInt + 98) = v := ⟨_, rfl⟩
      refine q_iald (Sh.arr hI1692.1 ka_233) (v1726.toInt + 2 * x1690.toInt + 98) (by omega) (by omega) v1730 ((eA_c (hF1693.2.1 233 (by decide))).trans hv1730) ?_
      refine r_istore _ rfl ?_
      refine r_aload_n (w_p1 (by decide) (Or.inr rfl) e1697) ?_
      refine q_getR (Sh.ref hI1692.1 kx_231 rfl) ?_
      refine r_aload_n (w_p1 (by decide) (Or.inr rfl) e1697) ?_
      refine q_getI (Sh.int hI1692.1 kx_231 rfl) v1726 ((hF1693.1 231 27 (by decide)).trans hv1726) ?_
      refine r_bipush 98 rfl ?_
      refine q_iadd (v1726.toInt + 98) rfl (by omega) (fun v1731 hv1731 => ?_)
      refine r_iconst 2 rfl ?_
      refine r_iload (w_p1 (by decide) (Or.inr rfl) e1701) ?_
      refine q_imul (2 * x1690.toInt) rfl (by omega) (fun v1732 hv1732 => ?_)
      refine q_iadd (v1731.toInt + v1732.toInt) rfl (by omega) (fun v1733 hv1733 => ?_)
      refine r_iconst 1 rfl ?_
      refine q_iadd (v1733.toInt + 1) rfl (by omega) (fun v1734 hv1734 => ?_)
      obtain ⟨v1735, hv1735⟩ : ∃ v, eA g0 233 (v1726.toInt + 2 * x1690.toInt + 99) = v := ⟨_, rfl⟩
      have hs1 : eA g0 233 ((gI g0 231 27).toInt + 98 + 2 * x1690.toInt) = v1730 := by rw [hv1726, show v1726.toInt + 98 + 2 * x1690.toInt = (v1726.toInt + 2 * x1690.toInt + 98) by omega]; exact hv1730
      have hs2 : eA g0 233 ((gI g0 231 27).toInt + 98 + 2 * x1690.toInt + 1) = v1735 := by rw [hv1726, show v1726.toInt + 98 + 2 * x1690.toInt + 1 = (v1726.toInt + 2 * x1690.toInt + 99) by omega]; exact hv1735
      have hs := hHs x1690.toInt (by omega) (by omega)
      dsimp only at hs
      rw [hs1, hs2] at hs
      unfold WfStep at hs
      have hr0 := hHr x1690.toInt (by omega) (by omega)
      have hr1 := hHr (x1690.toInt + 1) (by omega) (by omega)
      refine q_iald (Sh.arr hI1692.1 ka_233) (v1726.toInt + 2 * x1690.toInt + 99) (by omega) (by omega) v1735 ((eA_c (hF1693.2.1 233 (by decide))).trans hv1735) ?_
      refine r_istore _ rfl ?_
      refine q_iinc (w_p1 (by decide) (Or.inr rfl) (w_p1 (by decide) (Or.inr rfl) e1701)) (x1690.toInt + 1) rfl (by omega) (fun v1736 hv1736 => ?_)
      refine r_iload (w_p1 (by decide) (Or.inr rfl) (w_p1 (by decide) (Or.inr rfl) (w_e1 _ _ _))) ?_
      refine r_bipush 20 rfl ?_
      refine r_ics 73 rfl (fun c1737 => ?_) (fun c1737 => ?_)
      · have c1737_ : v1730.toInt ≥ 20 := en_i_ge_t c1737
        refine At.enter rfl ?_
        refine r_iload (w_p1 (by decide) (Or.inr rfl) (w_p1 (by decide) (Or.inr rfl) (w_e1 _ _ _))) ?_
        refine r_bipush 27 rfl ?_
        refine r_ics 110 rfl (fun c1738 => ?_) (fun c1738 => ?_)
        · have c1738_ : v1730.toInt ≥ 27 := en_i_ge_t c1738
          refine At.enter rfl ?_
          refine r_iload (w_p1 (by decide) (Or.inr rfl) (w_p1 (by decide) (Or.inr rfl) (w_e1 _ _ _))) ?_
          refine r_bipush 27 rfl ?_
          refine r_ics 187 rfl (fun c1739 => ?_) (fun c1739 => ?_)
          · have c1739_ : v1730.toInt ≠ 27 := en_i_ne_t c1739
            refine At.enter rfl ?_
            refine r_aload_n (w_p1 (by decide) (Or.inr rfl) (w_p1 (by decide) (Or.inr rfl) (w_p1 (by decide) (Or.inr rfl) e1697))) ?_
            refine q_getR (Sh.ref hI1692.1 kx_231 rfl) ?_
            refine r_iload_n (w_p1 (by decide) (Or.inr rfl) (w_p1 (by decide) (Or.inr rfl) (w_p1 (by decide) (Or.inr rfl) e1700))) ?_
            refine r_iconst 1 rfl ?_
            refine q_isub (x1689.toInt - 1) rfl (by omega) (fun v1740 hv1740 => ?_)
            refine q_laldE (Sh.lar hI1692.1 ka_245) ((x1689.toInt + (-1))) (by omega) (by omega) (fun v1741 hv1741 => ?_)
            refine r_iload (w_p1 (by decide) (Or.inr rfl) (w_p1 (by decide) (Or.inr rfl) (w_e1 _ _ _))) ?_
            refine r_bipush 28 rfl ?_
            refine r_ics 223 rfl (fun c1742 => ?_) (fun c1742 => ?_)
            · have c1742_ : v1730.toInt ≠ 28 := en_i_ne_t c1742
              refine At.enter rfl ?_
              refine r_lconst 1 rfl ?_
              refine Ar.fall 228 rfl ?_
              refine At.enter rfl ?_
              refine r_lcmp _ rfl ?_
              refine r_ifs 232 rfl (fun c1743 => ?_) (fun c1743 => ?_)
              · have c1743_ : v1741.toInt ≠ 1 := en_j_ne_t c1743
                refine At.enter rfl ?_
                refine q_iinc (w_p1 (by decide) (Or.inr rfl) (w_p1 (by decide) (Or.inr rfl) (w_p1 (by decide) (Or.inr rfl) e1700))) (x1689.toInt + (-1)) rfl (by omega) (fun v1744 hv1744 => ?_)
                refine Ar.fall 242 rfl ?_
                refine At.enter rfl ?_
                refine r_goto ?_
                exact ih1696 (a2.toInt - v1736.toInt) _ _ ⟨v1744, v1736, by first | rfl | omega, hI1692, hF1693, (w_p1 (by decide) (Or.inr rfl) (w_p1 (by decide) (Or.inr rfl) (w_p1 (by decide) (Or.inr rfl) (w_p1 (by decide) (Or.inr rfl) e1697)))), (w_p1 (by decide) (Or.inr rfl) (w_p1 (by decide) (Or.inr rfl) (w_p1 (by decide) (Or.inr rfl) (w_p1 (by decide) (Or.inr rfl) e1698)))), (w_p1 (by decide) (Or.inr rfl) (w_p1 (by decide) (Or.inr rfl) (w_p1 (by decide) (Or.inr rfl) (w_p1 (by decide) (Or.inr rfl) e1699)))), (w_e1 _ _ _), (w_p1 (by decide) (Or.inr rfl) (w_e1 _ _ _)), by omega, by omega, (by first | omega | (have e := congrArg H hv1736; omega)), by omega, (WQM_pop (x := v1741) q1706 ((congrArg Int32.toInt hv1718).trans (by omega)) (by omega) (congrArg Int32.toInt hs1) (by rw [show x1689.toInt - 1 = (x1689.toInt + (-1)) from by omega]; exact hv1741) (by omega) (by omega) (by omega))⟩ ⟨by omega, by omega⟩
              · have c1743_ : v1741.toInt = 1 := en_j_ne_f c1743
                refine At.enter rfl ?_
                refine r_iload (w_p1 (by decide) (Or.inr rfl) (w_e1 _ _ _)) ?_
                refine r_istore _ rfl ?_
                refine r_goto ?_
                refine At.enter rfl ?_
                refine r_goto ?_
                exact ih1696 (a2.toInt - v1735.toInt) _ _ ⟨x1689, v1735, by first | rfl | omega, hI1692, hF1693, (w_p1 (by decide) (Or.inr rfl) (w_p1 (by decide) (Or.inr rfl) (w_p1 (by decide) (Or.inr rfl) (w_p1 (by decide) (Or.inr rfl) e1697)))), (w_p1 (by decide) (Or.inr rfl) (w_p1 (by decide) (Or.inr rfl) (w_p1 (by decide) (Or.inr rfl) (w_p1 (by decide) (Or.inr rfl) e1698)))), (w_p1 (by decide) (Or.inr rfl) (w_p1 (by decide) (Or.inr rfl) (w_p1 (by decide) (Or.inr rfl) (w_p1 (by decide) (Or.inr rfl) e1699)))), (w_p1 (by decide) (Or.inr rfl) (w_p1 (by decide) (Or.inr rfl) (w_p1 (by decide) (Or.inr rfl) (w_p1 (by decide) (Or.inr rfl) e1700)))), (w_e1 _ _ _), by omega, by omega, (by first | omega | (have e := congrArg H hv1735; omega)), by omega, (WQM_jmp (x := v1741) q1706 ((congrArg Int32.toInt hv1718).trans (by omega)) (by omega) (congrArg Int32.toInt hs1) (congrArg Int32.toInt hs2) (by rw [show x1689.toInt - 1 = (x1689.toInt + (-1)) from by omega]; exact hv1741) (by omega) rfl (by omega))⟩ ⟨by omega, by omega⟩
            · have c1742_ : v1730.toInt = 28 := en_i_ne_f c1742
              refine At.enter rfl ?_
              refine r_lconst 0 rfl ?_
              refine r_goto ?_
              refine At.enter rfl ?_
              refine r_lcmp _ rfl ?_
              refine r_ifs 232 rfl (fun c1745 => ?_) (fun c1745 => ?_)
              · have c1745_ : v1741.toInt ≠ 0 := en_j_ne_t c1745
                refine At.enter rfl ?_
                refine q_iinc (w_p1 (by decide) (Or.inr rfl) (w_p1 (by decide) (Or.inr rfl) (w_p1 (by decide) (Or.inr rfl) e1700))) (x1689.toInt + (-1)) rfl (by omega) (fun v1746 hv1746 => ?_)
                refine Ar.fall 242 rfl ?_
                refine At.enter rfl ?_
                refine r_goto ?_
                exact ih1696 (a2.toInt - v1736.toInt) _ _ ⟨v1746, v1736, by first | rfl | omega, hI1692, hF1693, (w_p1 (by decide) (Or.inr rfl) (w_p1 (by decide) (Or.inr rfl) (w_p1 (by decide) (Or.inr rfl) (w_p1 (by decide) (Or.inr rfl) e1697)))), (w_p1 (by decide) (Or.inr rfl) (w_p1 (by decide) (Or.inr rfl) (w_p1 (by decide) (Or.inr rfl) (w_p1 (by decide) (Or.inr rfl) e1698)))), (w_p1 (by decide) (Or.inr rfl) (w_p1 (by decide) (Or.inr rfl) (w_p1 (by decide) (Or.inr rfl) (w_p1 (by decide) (Or.inr rfl) e1699)))), (w_e1 _ _ _), (w_p1 (by decide) (Or.inr rfl) (w_e1 _ _ _)), by omega, by omega, (by first | omega | (have e := congrArg H hv1736; omega)), by omega, (WQM_pop (x := v1741) q1706 ((congrArg Int32.toInt hv1718).trans (by omega)) (by omega) (congrArg Int32.toInt hs1) (by rw [show x1689.toInt - 1 = (x1689.toInt + (-1)) from by omega]; exact hv1741) (by omega) (by omega) (by omega))⟩ ⟨by omega, by omega⟩
              · have c1745_ : v1741.toInt = 0 := en_j_ne_f c1745
                refine At.enter rfl ?_
                refine r_iload (w_p1 (by decide) (Or.inr rfl) (w_e1 _ _ _)) ?_
                refine r_istore _ rfl ?_
                refine r_goto ?_
                refine At.enter rfl ?_
                refine r_goto ?_
                exact ih1696 (a2.toInt - v1735.toInt) _ _ ⟨x1689, v1735, by first | rfl | omega, hI1692, hF1693, (w_p1 (by decide) (Or.inr rfl) (w_p1 (by decide) (Or.inr rfl) (w_p1 (by decide) (Or.inr rfl) (w_p1 (by decide) (Or.inr rfl) e1697)))), (w_p1 (by decide) (Or.inr rfl) (w_p1 (by decide) (Or.inr rfl) (w_p1 (by decide) (Or.inr rfl) (w_p1 (by decide) (Or.inr rfl) e1698)))), (w_p1 (by decide) (Or.inr rfl) (w_p1 (by decide) (Or.inr rfl) (w_p1 (by decide) (Or.inr rfl) (w_p1 (by decide) (Or.inr rfl) e1699)))), (w_p1 (by decide) (Or.inr rfl) (w_p1 (by decide) (Or.inr rfl) (w_p1 (by decide) (Or.inr rfl) (w_p1 (by decide) (Or.inr rfl) e1700)))), (w_e1 _ _ _), by omega, by omega, (by first | omega | (have e := congrArg H hv1735; omega)), by omega, (WQM_jmp (x := v1741) q1706 ((congrArg Int32.toInt hv1718).trans (by omega)) (by omega) (congrArg Int32.toInt hs1) (congrArg Int32.toInt hs2) (by rw [show x1689.toInt - 1 = (x1689.toInt + (-1)) from by omega]; exact hv1741) (by omega) rfl (by omega))⟩ ⟨by omega, by omega⟩
          · have c1739_ : v1730.toInt = 27 := en_i_ne_f c1739
            refine At.enter rfl ?_
            refine r_aload_n (w_p1 (by decide) (Or.inr rfl) (w_p1 (by decide) (Or.inr rfl) (w_p1 (by decide) (Or.inr rfl) e1697))) ?_
            refine q_getR (Sh.ref hI1692.1 kx_231 rfl) ?_
            refine r_iload_n (w_p1 (by decide) (Or.inr rfl) (w_p1 (by decide) (Or.inr rfl) (w_p1 (by decide) (Or.inr rfl) e1700))) ?_
            refine r_iconst 1 rfl ?_
            refine q_isub (x1689.toInt - 1) rfl (by omega) (fun v1747 hv1747 => ?_)
            refine r_lconst 1 rfl ?_
            refine r_aload_n (w_p1 (by decide) (Or.inr rfl) (w_p1 (by decide) (Or.inr rfl) (w_p1 (by decide) (Or.inr rfl) e1697))) ?_
            refine q_getR (Sh.ref hI1692.1 kx_231 rfl) ?_
            refine r_iload_n (w_p1 (by decide) (Or.inr rfl) (w_p1 (by decide) (Or.inr rfl) (w_p1 (by decide) (Or.inr rfl) e1700))) ?_
            refine r_iconst 1 rfl ?_
            refine q_isub (x1689.toInt - 1) rfl (by omega) (fun v1748 hv1748 => ?_)
            refine q_laldE (Sh.lar hI1692.1 ka_245) ((x1689.toInt + (-1))) (by omega) (by omega) (fun v1749 hv1749 => ?_)
            refine q_lsubO (fun v1750 lv1750 => ?_)
            refine q_last (Sh.lar hI1692.1 ka_245) ((x1689.toInt + (-1))) (by omega) (by omega) ?_
            have hI1751 := HI.wK hI1692 ka_245 ((x1689.toInt + (-1))) (v1750) (by decide)
            have hF1752 := Fr.wK (p := 245) (j := (x1689.toInt + (-1))) (v := v1750) hF1693
            refine r_goto ?_
            refine At.enter rfl ?_
            refine r_goto ?_
            exact ih1696 (a2.toInt - v1736.toInt) _ _ ⟨x1689, v1736, by first | rfl | omega, hI1751, hF1752, (w_p1 (by decide) (Or.inr rfl) (w_p1 (by decide) (Or.inr rfl) (w_p1 (by decide) (Or.inr rfl) e1697))), (w_p1 (by decide) (Or.inr rfl) (w_p1 (by decide) (Or.inr rfl) (w_p1 (by decide) (Or.inr rfl) e1698))), (w_p1 (by decide) (Or.inr rfl) (w_p1 (by decide) (Or.inr rfl) (w_p1 (by decide) (Or.inr rfl) e1699))), (w_p1 (by decide) (Or.inr rfl) (w_p1 (by decide) (Or.inr rfl) (w_p1 (by decide) (Or.inr rfl) e1700))), (w_e1 _ _ _), by omega, by omega, (by first | omega | (have e := congrArg H hv1736; omega)), by omega, (WQM_not q1706 ((congrArg Int32.toInt hv1718).trans (by omega)) (by omega) ((congrArg Int32.toInt hs1).trans (by omega)) (KWR_mk hI1692.1 ka_245 (by omega) (by omega)) (gK_sX_ne (by decide)) ((congrArg Int32.toInt (((gI_sX).trans hv1718))).trans (by omega)) (by omega) (fun x hx hs => lnot_b lv1750 (hv1749.trans (by rw [hx, show x1689.toInt - 1 = (x1689.toInt + (-1)) from by omega])) hs) (by omega) (by omega) (by omega))⟩ ⟨by omega, by omega⟩
        · have c1738_ : v1730.toInt < 27 := en_i_ge_f c1738
          refine At.enter rfl ?_
          refine q_iinc (w_p1 (by decide) (Or.inr rfl) (w_p1 (by decide) (Or.inr rfl) (w_p1 (by decide) (Or.inr rfl) e1700))) (x1689.toInt + (-1)) rfl (by omega) (fun v1753 hv1753 => ?_)
          refine r_aload_n (w_p1 (by decide) (Or.inr rfl) (w_p1 (by decide) (Or.inr rfl) (w_p1 (by decide) (Or.inr rfl) (w_p1 (by decide) (Or.inr rfl) e1697)))) ?_
          refine q_getR (Sh.ref hI1692.1 kx_231 rfl) ?_
          refine r_iload_n (w_e1 _ _ _) ?_
          refine r_iconst 1 rfl ?_
          refine q_isub (v1753.toInt - 1) rfl (by omega) (fun v1754 hv1754 => ?_)
          refine r_aload_n (w_p1 (by decide) (Or.inr rfl) (w_p1 (by decide) (Or.inr rfl) (w_p1 (by decide) (Or.inr rfl) (w_p1 (by decide) (Or.inr rfl) e1697)))) ?_
          refine r_iload (w_p1 (by decide) (Or.inr rfl) (w_p1 (by decide) (Or.inr rfl) (w_p1 (by decide) (Or.inr rfl) (w_e1 _ _ _)))) ?_
          refine r_aload_n (w_p1 (by decide) (Or.inr rfl) (w_p1 (by decide) (Or.inr rfl) (w_p1 (by decide) (Or.inr rfl) (w_p1 (by decide) (Or.inr rfl) e1697)))) ?_
          refine q_getR (Sh.ref hI1692.1 kx_231 rfl) ?_
          refine r_iload_n (w_e1 _ _ _) ?_
          refine r_iconst 1 rfl ?_
          refine q_isub (v1753.toInt - 1) rfl (by omega) (fun v1755 hv1755 => ?_)
          refine q_laldE (Sh.lar hI1692.1 ka_245) ((x1689.toInt + (-2))) (by omega) (by omega) (fun v1756 hv1756 => ?_)
          refine r_aload_n (w_p1 (by decide) (Or.inr rfl) (w_p1 (by decide) (Or.inr rfl) (w_p1 (by decide) (Or.inr rfl) (w_p1 (by decide) (Or.inr rfl) e1697)))) ?_
          refine q_getR (Sh.ref hI1692.1 kx_231 rfl) ?_
          refine r_iload_n (w_e1 _ _ _) ?_
          refine q_laldE (Sh.lar hI1692.1 ka_245) ((x1689.toInt + (-1))) (by omega) (by omega) (fun v1757 hv1757 => ?_)
          refine r_callV 140 rfl [.ref 231, .int v1730, .long v1756, .long v1757] [.int v1754, .ref 245] (Nat.le_of_ble_eq_true rfl) rfl (T_X11_reckon_231 _ hI1692 v1730 v1756 v1757) ?_
          rintro _ _ ⟨g1758, rfl, hI1759, hF1760, v1761, rfl, hr1762⟩
          refine At.stl ?_
          have hF1763 := Fr.tr hF1693 hF1760 rfl rfl
          refine At.enter rfl ?_
          refine q_last (Sh.lar hI1759.1 ka_245) ((x1689.toInt + (-2))) (by omega) (by omega) ?_
          have hI1764 := HI.wK hI1759 ka_245 ((x1689.toInt + (-2))) (v1761) (by decide)
          have hF1765 := Fr.wK (p := 245) (j := (x1689.toInt + (-2))) (v := v1761) hF1763
          refine r_aload_n (w_p1 (by decide) (Or.inr rfl) (w_p1 (by decide) (Or.inr rfl) (w_p1 (by decide) (Or.inr rfl) (w_p1 (by decide) (Or.inr rfl) e1697)))) ?_
          refine r_aload_n (w_p1 (by decide) (Or.inr rfl) (w_p1 (by decide) (Or.inr rfl) (w_p1 (by decide) (Or.inr rfl) (w_p1 (by decide) (Or.inr rfl) e1697)))) ?_
          obtain ⟨v1766, hv1766⟩ : ∃ v, gI g1758 231 30 = v := ⟨_, rfl⟩
          refine q_getI (Sh.int hI1764.1 kx_231 rfl) v1766 ((gI_sX).trans hv1766) ?_
          refine r_ifs 149 rfl (fun c1767 => ?_) (fun c1767 => ?_)
          · have c1767_ : v1766.toInt ≠ 0 := en_k_ne_t c1767
            refine At.enter rfl ?_
            refine r_iconst 1 rfl ?_
            refine r_goto ?_
            refine At.enter rfl ?_
            refine q_putI (Sh.int hI1764.1 kx_231 rfl) rfl ?_
            have hI1768 := HI.wI0 hI1764 kx_231 rfl (p := 231) (b := 30) (v := 1) rfl
            have hF1769 := Fr.wI (p := 231) (b := 30) (v := 1) hF1765 rfl
            refine r_goto ?_
            refine At.enter rfl ?_
            refine r_goto ?_
            exact ih1696 (a2.toInt - v1736.toInt) _ _ ⟨v1753, v1736, by first | rfl | omega, hI1768, hF1769, (w_p1 (by decide) (Or.inr rfl) (w_p1 (by decide) (Or.inr rfl) (w_p1 (by decide) (Or.inr rfl) (w_p1 (by decide) (Or.inr rfl) e1697)))), (w_p1 (by decide) (Or.inr rfl) (w_p1 (by decide) (Or.inr rfl) (w_p1 (by decide) (Or.inr rfl) (w_p1 (by decide) (Or.inr rfl) e1698)))), (w_p1 (by decide) (Or.inr rfl) (w_p1 (by decide) (Or.inr rfl) (w_p1 (by decide) (Or.inr rfl) (w_p1 (by decide) (Or.inr rfl) e1699)))), (w_e1 _ _ _), (w_p1 (by decide) (Or.inr rfl) (w_e1 _ _ _)), by omega, by omega, (by first | omega | (have e := congrArg H hv1736; omega)), by omega, (WQM_bin (x := v1756) (y := v1757) q1706 ((congrArg Int32.toInt hv1718).trans (by omega)) (by omega) (congrArg Int32.toInt hs1) (by omega) (by omega) (by rw [show x1689.toInt - 2 = (x1689.toInt + (-2)) from by omega]; exact hv1756) (by rw [show x1689.toInt - 1 = (x1689.toInt + (-1)) from by omega]; exact hv1757) hr1762.2 (KWR_r (KWR_mk hI1759.1 ka_245 (by omega) (by omega)) gK_sI) (gK_sI.trans (gK_sX_ne (by decide))) (by omega) (Or.inr ⟨(fun q => absurd ((congrArg Int32.toInt ((gI_sI_eq hI1764.1 kx_231 rfl _))).symm.trans q) (by decide)), Or.inl (by rw [hv1766]; omega)⟩) (by omega) (by omega))⟩ ⟨by omega, by omega⟩
          · have c1767_ : v1766.toInt = 0 := en_k_ne_f c1767
            refine At.enter rfl ?_
            refine r_aload_n (w_p1 (by decide) (Or.inr rfl) (w_p1 (by decide) (Or.inr rfl) (w_p1 (by decide) (Or.inr rfl) (w_p1 (by decide) (Or.inr rfl) e1697)))) ?_
            refine q_getR (Sh.ref hI1764.1 kx_231 rfl) ?_
            refine r_iload_n (w_e1 _ _ _) ?_
            refine r_iconst 1 rfl ?_
            refine q_isub (v1753.toInt - 1) rfl (by omega) (fun v1770 hv1770 => ?_)
            refine q_laldE (Sh.lar hI1764.1 ka_245) ((x1689.toInt + (-2))) (by omega) (by omega) (fun v1771 hv1771 => ?_)
            refine r_ldc2 (-1000000000) rfl ?_
            refine r_ldc2 1000000000 rfl ?_
            refine q_inlS 166 rfl [.long v1771, .long (-1000000000), .long 1000000000] [.ref 231] (Nat.le_of_ble_eq_true rfl) rfl ?_
            refine Ev.mk rfl rfl ⟨Nat.le_of_ble_eq_true rfl, Or.inl rfl⟩ ?_
            show At _ none _ _ (0, [(0, .long v1771), (2, .long (-1000000000)), (4, .long 1000000000)], [], (_, _)) _
            refine At.enter rfl ?_
            refine r_lload_n rfl ?_
            refine r_lload_n rfl ?_
            refine r_lcmp _ rfl ?_
            refine r_ifs 6 rfl (fun c1772 => ?_) (fun c1772 => ?_)
            · have c1772_ : v1771.toInt < (-1000000000) := en_j_lt_t c1772
              refine At.enter rfl ?_
              refine r_iconst 0 rfl ?_
              refine Ar.fall 18 rfl ?_
              refine At.enter rfl ?_
              refine q_iretz (by decide) ?_
              refine At.enter rfl ?_
              refine r_iff 169 rfl (by decide) ?_
              refine At.enter rfl ?_
              refine r_iconst 1 rfl ?_
              refine r_goto ?_
              refine At.enter rfl ?_
              refine q_putI (Sh.int hI1764.1 kx_231 rfl) rfl ?_
              have hI1773 := HI.wI0 hI1764 kx_231 rfl (p := 231) (b := 30) (v := 1) rfl
              have hF1774 := Fr.wI (p := 231) (b := 30) (v := 1) hF1765 rfl
              refine r_goto ?_
              refine At.enter rfl ?_
              refine r_goto ?_
              exact ih1696 (a2.toInt - v1736.toInt) _ _ ⟨v1753, v1736, by first | rfl | omega, hI1773, hF1774, (w_p1 (by decide) (Or.inr rfl) (w_p1 (by decide) (Or.inr rfl) (w_p1 (by decide) (Or.inr rfl) (w_p1 (by decide) (Or.inr rfl) e1697)))), (w_p1 (by decide) (Or.inr rfl) (w_p1 (by decide) (Or.inr rfl) (w_p1 (by decide) (Or.inr rfl) (w_p1 (by decide) (Or.inr rfl) e1698)))), (w_p1 (by decide) (Or.inr rfl) (w_p1 (by decide) (Or.inr rfl) (w_p1 (by decide) (Or.inr rfl) (w_p1 (by decide) (Or.inr rfl) e1699)))), (w_e1 _ _ _), (w_p1 (by decide) (Or.inr rfl) (w_e1 _ _ _)), by omega, by omega, (by first | omega | (have e := congrArg H hv1736; omega)), by omega, (WQM_bin (x := v1756) (y := v1757) q1706 ((congrArg Int32.toInt hv1718).trans (by omega)) (by omega) (congrArg Int32.toInt hs1) (by omega) (by omega) (by rw [show x1689.toInt - 2 = (x1689.toInt + (-2)) from by omega]; exact hv1756) (by rw [show x1689.toInt - 1 = (x1689.toInt + (-1)) from by omega]; exact hv1757) hr1762.2 (KWR_r (KWR_mk hI1759.1 ka_245 (by omega) (by omega)) gK_sI) (gK_sI.trans (gK_sX_ne (by decide))) (by omega) (Or.inr ⟨(fun q => absurd ((congrArg Int32.toInt ((gI_sI_eq hI1764.1 kx_231 rfl _))).symm.trans q) (by decide)), Or.inr (by have e := (congrArg Int64.toInt (hv1771.trans (eK_eqT hI1759.1 ka_245 rfl (by omega) (by omega)))); omega)⟩) (by omega) (by omega))⟩ ⟨by omega, by omega⟩
            · have c1772_ : v1771.toInt ≥ (-1000000000) := en_j_lt_f c1772
              refine At.enter rfl ?_
              refine r_lload_n rfl ?_
              refine r_lload rfl ?_
              refine r_lcmp _ rfl ?_
              refine r_ifs 13 rfl (fun c1775 => ?_) (fun c1775 => ?_)
              · have c1775_ : v1771.toInt > 1000000000 := en_j_gt_t c1775
                refine At.enter rfl ?_
                refine r_iconst 0 rfl ?_
                refine Ar.fall 18 rfl ?_
                refine At.enter rfl ?_
                refine q_iretz (by decide) ?_
                refine At.enter rfl ?_
                refine r_iff 169 rfl (by decide) ?_
                refine At.enter rfl ?_
                refine r_iconst 1 rfl ?_
                refine r_goto ?_
                refine At.enter rfl ?_
                refine q_putI (Sh.int hI1764.1 kx_231 rfl) rfl ?_
                have hI1776 := HI.wI0 hI1764 kx_231 rfl (p := 231) (b := 30) (v := 1) rfl
                have hF1777 := Fr.wI (p := 231) (b := 30) (v := 1) hF1765 rfl
                refine r_goto ?_
                refine At.enter rfl ?_
                refine r_goto ?_
                exact ih1696 (a2.toInt - v1736.toInt) _ _ ⟨v1753, v1736, by first | rfl | omega, hI1776, hF1777, (w_p1 (by decide) (Or.inr rfl) (w_p1 (by decide) (Or.inr rfl) (w_p1 (by decide) (Or.inr rfl) (w_p1 (by decide) (Or.inr rfl) e1697)))), (w_p1 (by decide) (Or.inr rfl) (w_p1 (by decide) (Or.inr rfl) (w_p1 (by decide) (Or.inr rfl) (w_p1 (by decide) (Or.inr rfl) e1698)))), (w_p1 (by decide) (Or.inr rfl) (w_p1 (by decide) (Or.inr rfl) (w_p1 (by decide) (Or.inr rfl) (w_p1 (by decide) (Or.inr rfl) e1699)))), (w_e1 _ _ _), (w_p1 (by decide) (Or.inr rfl) (w_e1 _ _ _)), by omega, by omega, (by first | omega | (have e := congrArg H hv1736; omega)), by omega, (WQM_bin (x := v1756) (y := v1757) q1706 ((congrArg Int32.toInt hv1718).trans (by omega)) (by omega) (congrArg Int32.toInt hs1) (by omega) (by omega) (by rw [show x1689.toInt - 2 = (x1689.toInt + (-2)) from by omega]; exact hv1756) (by rw [show x1689.toInt - 1 = (x1689.toInt + (-1)) from by omega]; exact hv1757) hr1762.2 (KWR_r (KWR_mk hI1759.1 ka_245 (by omega) (by omega)) gK_sI) (gK_sI.trans (gK_sX_ne (by decide))) (by omega) (Or.inr ⟨(fun q => absurd ((congrArg Int32.toInt ((gI_sI_eq hI1764.1 kx_231 rfl _))).symm.trans q) (by decide)), Or.inr (by have e := (congrArg Int64.toInt (hv1771.trans (eK_eqT hI1759.1 ka_245 rfl (by omega) (by omega)))); omega)⟩) (by omega) (by omega))⟩ ⟨by omega, by omega⟩
              · have c1775_ : v1771.toInt ≤ 1000000000 := en_j_gt_f c1775
                refine At.enter rfl ?_
                refine r_iconst 1 rfl ?_
                refine r_goto ?_
                refine At.enter rfl ?_
                refine q_iretz (by decide) ?_
                refine At.enter rfl ?_
                refine r_ift (by decide) ?_
                refine At.enter rfl ?_
                refine r_iconst 0 rfl ?_
                refine Ar.fall 174 rfl ?_
                refine At.enter rfl ?_
                refine q_putI (Sh.int hI1764.1 kx_231 rfl) rfl ?_
                have hI1778 := HI.wI0 hI1764 kx_231 rfl (p := 231) (b := 30) (v := 0) rfl
                have hF1779 := Fr.wI (p := 231) (b := 30) (v := 0) hF1765 rfl
                refine r_goto ?_
                refine At.enter rfl ?_
                refine r_goto ?_
                exact ih1696 (a2.toInt - v1736.toInt) _ _ ⟨v1753, v1736, by first | rfl | omega, hI1778, hF1779, (w_p1 (by decide) (Or.inr rfl) (w_p1 (by decide) (Or.inr rfl) (w_p1 (by decide) (Or.inr rfl) (w_p1 (by decide) (Or.inr rfl) e1697)))), (w_p1 (by decide) (Or.inr rfl) (w_p1 (by decide) (Or.inr rfl) (w_p1 (by decide) (Or.inr rfl) (w_p1 (by decide) (Or.inr rfl) e1698)))), (w_p1 (by decide) (Or.inr rfl) (w_p1 (by decide) (Or.inr rfl) (w_p1 (by decide) (Or.inr rfl) (w_p1 (by decide) (Or.inr rfl) e1699)))), (w_e1 _ _ _), (w_p1 (by decide) (Or.inr rfl) (w_e1 _ _ _)), by omega, by omega, (by first | omega | (have e := congrArg H hv1736; omega)), by omega, (WQM_bin (x := v1756) (y := v1757) q1706 ((congrArg Int32.toInt hv1718).trans (by omega)) (by omega) (congrArg Int32.toInt hs1) (by omega) (by omega) (by rw [show x1689.toInt - 2 = (x1689.toInt + (-2)) from by omega]; exact hv1756) (by rw [show x1689.toInt - 1 = (x1689.toInt + (-1)) from by omega]; exact hv1757) hr1762.2 (KWR_r (KWR_mk hI1759.1 ka_245 (by omega) (by omega)) gK_sI) (gK_sI.trans (gK_sX_ne (by decide))) (by omega) (Or.inl ⟨(congrArg Int32.toInt ((gI_sI_eq hI1764.1 kx_231 rfl _))).trans rfl, by rw [hv1766]; omega, by have e := (congrArg Int64.toInt (hv1771.trans (eK_eqT hI1759.1 ka_245 rfl (by omega) (by omega)))); omega, by have e := (congrArg Int64.toInt (hv1771.trans (eK_eqT hI1759.1 ka_245 rfl (by omega) (by omega)))); omega⟩) (by omega) (by omega))⟩ ⟨by omega, by omega⟩
      · have c1737_ : v1730.toInt < 20 := en_i_ge_f c1737
        refine At.enter rfl ?_
        refine r_aload_n (w_p1 (by decide) (Or.inr rfl) (w_p1 (by decide) (Or.inr rfl) (w_p1 (by decide) (Or.inr rfl) e1697))) ?_
        refine q_getR (Sh.ref hI1692.1 kx_231 rfl) ?_
        refine r_iload_n (w_p1 (by decide) (Or.inr rfl) (w_p1 (by decide) (Or.inr rfl) (w_p1 (by decide) (Or.inr rfl) e1700))) ?_
        refine r_iload (w_p1 (by decide) (Or.inr rfl) (w_p1 (by decide) (Or.inr rfl) (w_e1 _ _ _))) ?_
        refine r_ifs 83 rfl (fun c1780 => ?_) (fun c1780 => ?_)
        · have c1780_ : v1730.toInt ≠ 0 := en_k_ne_t c1780
          refine At.enter rfl ?_
          refine r_aload_n (w_p1 (by decide) (Or.inr rfl) (w_p1 (by decide) (Or.inr rfl) (w_p1 (by decide) (Or.inr rfl) e1697))) ?_
          refine q_getR (Sh.ref hI1692.1 kx_231 rfl) ?_
          refine r_iload (w_p1 (by decide) (Or.inr rfl) (w_p1 (by decide) (Or.inr rfl) (w_e1 _ _ _))) ?_
          refine q_laldE (Sh.lar hI1692.1 ka_244) (v1730.toInt) rfl (by omega) (fun v1781 hv1781 => ?_)
          refine Ar.fall 96 rfl ?_
          refine At.enter rfl ?_
          refine q_last (Sh.lar hI1692.1 ka_245) (x1689.toInt) rfl (by omega) ?_
          have hI1782 := HI.wK hI1692 ka_245 (x1689.toInt) (v1781) (by decide)
          have hF1783 := Fr.wK (p := 245) (j := x1689.toInt) (v := v1781) hF1693
          refine q_iinc (w_p1 (by decide) (Or.inr rfl) (w_p1 (by decide) (Or.inr rfl) (w_p1 (by decide) (Or.inr rfl) e1700))) (x1689.toInt + 1) rfl (by omega) (fun v1784 hv1784 => ?_)
          refine r_goto ?_
          refine At.enter rfl ?_
          refine r_goto ?_
          exact ih1696 (a2.toInt - v1736.toInt) _ _ ⟨v1784, v1736, by first | rfl | omega, hI1782, hF1783, (w_p1 (by decide) (Or.inr rfl) (w_p1 (by decide) (Or.inr rfl) (w_p1 (by decide) (Or.inr rfl) (w_p1 (by decide) (Or.inr rfl) e1697)))), (w_p1 (by decide) (Or.inr rfl) (w_p1 (by decide) (Or.inr rfl) (w_p1 (by decide) (Or.inr rfl) (w_p1 (by decide) (Or.inr rfl) e1698)))), (w_p1 (by decide) (Or.inr rfl) (w_p1 (by decide) (Or.inr rfl) (w_p1 (by decide) (Or.inr rfl) (w_p1 (by decide) (Or.inr rfl) e1699)))), (w_e1 _ _ _), (w_p1 (by decide) (Or.inr rfl) (w_e1 _ _ _)), by omega, by omega, (by first | omega | (have e := congrArg H hv1736; omega)), by omega, (WQM_word q1706 ((congrArg Int32.toInt hv1718).trans (by omega)) (by omega) (congrArg Int32.toInt hs1) (by omega) (KWR_mk hI1692.1 ka_245 (by omega) (by omega)) (gK_sX_ne (by decide)) ((congrArg Int32.toInt (((gI_sX).trans hv1718))).trans (by omega)) (by omega) hv1781 (by omega) (by omega))⟩ ⟨by omega, by omega⟩
        · have c1780_ : v1730.toInt = 0 := en_k_ne_f c1780
          refine At.enter rfl ?_
          refine r_iload (w_p1 (by decide) (Or.inr rfl) (w_e1 _ _ _)) ?_
          refine q_i2l (fun v1785 hv1785 => ?_)
          refine r_goto ?_
          refine At.enter rfl ?_
          refine q_last (Sh.lar hI1692.1 ka_245) (x1689.toInt) rfl (by omega) ?_
          have hI1786 := HI.wK hI1692 ka_245 (x1689.toInt) (v1785) (by decide)
          have hF1787 := Fr.wK (p := 245) (j := x1689.toInt) (v := v1785) hF1693
          refine q_iinc (w_p1 (by decide) (Or.inr rfl) (w_p1 (by decide) (Or.inr rfl) (w_p1 (by decide) (Or.inr rfl) e1700))) (x1689.toInt + 1) rfl (by omega) (fun v1788 hv1788 => ?_)
          refine r_goto ?_
          refine At.enter rfl ?_
          refine r_goto ?_
          have bv1789 := q_bnd v1735
          exact ih1696 (a2.toInt - v1736.toInt) _ _ ⟨v1788, v1736, by first | rfl | omega, hI1786, hF1787, (w_p1 (by decide) (Or.inr rfl) (w_p1 (by decide) (Or.inr rfl) (w_p1 (by decide) (Or.inr rfl) (w_p1 (by decide) (Or.inr rfl) e1697)))), (w_p1 (by decide) (Or.inr rfl) (w_p1 (by decide) (Or.inr rfl) (w_p1 (by decide) (Or.inr rfl) (w_p1 (by decide) (Or.inr rfl) e1698)))), (w_p1 (by decide) (Or.inr rfl) (w_p1 (by decide) (Or.inr rfl) (w_p1 (by decide) (Or.inr rfl) (w_p1 (by decide) (Or.inr rfl) e1699)))), (w_e1 _ _ _), (w_p1 (by decide) (Or.inr rfl) (w_e1 _ _ _)), by omega, by omega, (by first | omega | (have e := congrArg H hv1736; omega)), by omega, (WQM_num q1706 ((congrArg Int32.toInt hv1718).trans (by omega)) (by omega) ((congrArg Int32.toInt hs1).trans (by omega)) (congrArg Int32.toInt hs2) (KWR_mk hI1692.1 ka_245 (by omega) (by omega)) (gK_sX_ne (by decide)) ((congrArg Int32.toInt (((gI_sX).trans hv1718))).trans (by omega)) (by omega) (by omega) ⟨by omega, by omega⟩ (by omega) (by omega))⟩ ⟨by omega, by omega⟩
