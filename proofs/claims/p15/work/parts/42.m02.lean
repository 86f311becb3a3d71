def F_X11_reckon_231 : List (Nat × Nat) := [(231, 30)]
def A_X11_reckon_231 : List Nat := []
set_option maxRecDepth 100000 in
set_option maxHeartbeats 4000000 in
theorem T_X11_reckon_231 (d : Nat) {N : Nat} {g0 : List en_E} (hI0 : HI g0) (a1 : Int32) (a2 : Int64) (a3 : Int64) : Ev (d + 1) 212 [.ref 231, .int a1, .long a2, .long a3] (g0, N) (fun w h' => ∃ g', h' = (g', N) ∧ HI g' ∧ Fr F_X11_reckon_231 A_X11_reckon_231 g0 g' ∧ ∃ r : Int64, w = some (.long r) ∧ True) := by
  have hF0 : Fr F_X11_reckon_231 A_X11_reckon_231 g0 g0 := Fr.rf
  refine Ev.mk rfl rfl ⟨Nat.le_of_ble_eq_true rfl, Or.inr (q_rc hI0.1 kx_231 rfl)⟩ ?_
  show At _ none _ _ (0, [(0, .ref 231), (1, .int a1), (2, .long a2), (4, .long a3)], [], (_, _)) _
  refine At.enter rfl ?_
  refine r_iload_n rfl ?_
  by_cases c29_0 : a1.toInt = 20
  · refine r_tsw 40 (by rw [c29_0]; rfl) ?_
    refine At.enter rfl ?_
    refine r_lload_n rfl ?_
    refine r_lload rfl ?_
    refine q_laddO (fun v30 _ => ?_)
    refine r_lret ?_
    exact ⟨_, rfl, hI0, hF0, _, rfl, trivial⟩
  by_cases c29_1 : a1.toInt = 21
  · refine r_tsw 45 (by rw [c29_1]; rfl) ?_
    refine At.enter rfl ?_
    refine r_lload_n rfl ?_
    refine r_lload rfl ?_
    refine q_lsubO (fun v31 _ => ?_)
    refine r_lret ?_
    exact ⟨_, rfl, hI0, hF0, _, rfl, trivial⟩
  by_cases c29_2 : a1.toInt = 22
  · refine r_tsw 50 (by rw [c29_2]; rfl) ?_
    refine At.enter rfl ?_
    refine r_lload_n rfl ?_
    refine r_lload rfl ?_
    refine q_lmulO (fun v32 _ => ?_)
    refine r_lret ?_
    exact ⟨_, rfl, hI0, hF0, _, rfl, trivial⟩
  by_cases c29_3 : a1.toInt = 23
  · refine r_tsw 55 (by rw [c29_3]; rfl) ?_
    refine At.enter rfl ?_
    refine r_aload_n rfl ?_
    refine r_lload rfl ?_
    refine r_lconst 0 rfl ?_
    refine r_lcmp _ rfl ?_
    refine r_ifs 63 rfl (fun c33 => ?_) (fun c33 => ?_)
    · have c33_ : a3.toInt ≠ 0 := en_j_ne_t c33
      refine At.enter rfl ?_
      refine r_iconst 0 rfl ?_
      refine Ar.fall 68 rfl ?_
      refine At.enter rfl ?_
      refine q_putI (Sh.int hI0.1 kx_231 rfl) rfl ?_
      have hI34 := HI.wI0 hI0 kx_231 rfl (p := 231) (b := 30) (v := 0) rfl
      have hF35 := Fr.wI (p := 231) (b := 30) (v := 0) hF0 rfl
      refine r_aload_n rfl ?_
      refine q_getI (Sh.int hI34.1 kx_231 rfl) 0 (gI_sI_eq hI0.1 kx_231 rfl _) ?_
      refine r_ift (by decide) ?_
      refine At.enter rfl ?_
      refine r_lload_n rfl ?_
      refine r_lload rfl ?_
      refine q_ldivO (by omega) (fun v36 _ => ?_)
      refine Ar.fall 86 rfl ?_
      refine At.enter rfl ?_
      refine r_lret ?_
      exact ⟨_, rfl, hI34, hF35, _, rfl, trivial⟩
    · have c33_ : a3.toInt = 0 := en_j_ne_f c33
      refine At.enter rfl ?_
      refine r_iconst 1 rfl ?_
      refine r_goto ?_
      refine At.enter rfl ?_
      refine q_putI (Sh.int hI0.1 kx_231 rfl) rfl ?_
      have hI37 := HI.wI0 hI0 kx_231 rfl (p := 231) (b := 30) (v := 1) rfl
      have hF38 := Fr.wI (p := 231) (b := 30) (v := 1) hF0 rfl
      refine r_aload_n rfl ?_
      refine q_getI (Sh.int hI37.1 kx_231 rfl) 1 (gI_sI_eq hI0.1 kx_231 rfl _) ?_
      refine r_iff 78 rfl (by decide) ?_
      refine At.enter rfl ?_
      refine r_lconst 0 rfl ?_
      refine r_goto ?_
      refine At.enter rfl ?_
      refine r_lret ?_
      exact ⟨_, rfl, hI37, hF38, _, rfl, trivial⟩
  by_cases c29_4 : a1.toInt = 24
  · refine r_tsw 87 (by rw [c29_4]; rfl) ?_
    refine At.enter rfl ?_
    refine r_lload_n rfl ?_
    refine r_lload rfl ?_
    refine r_lcmp _ rfl ?_
    refine r_ifs 94 rfl (fun c39 => ?_) (fun c39 => ?_)
    · have c39_ : a2.toInt ≥ a3.toInt := en_j_ge_t c39
      refine At.enter rfl ?_
      refine r_lconst 0 rfl ?_
      refine Ar.fall 99 rfl ?_
      refine At.enter rfl ?_
      refine r_lret ?_
      exact ⟨_, rfl, hI0, hF0, _, rfl, trivial⟩
    · have c39_ : a2.toInt < a3.toInt := en_j_ge_f c39
      refine At.enter rfl ?_
      refine r_lconst 1 rfl ?_
      refine r_goto ?_
      refine At.enter rfl ?_
      refine r_lret ?_
      exact ⟨_, rfl, hI0, hF0, _, rfl, trivial⟩
  by_cases c29_5 : a1.toInt = 25
  · refine r_tsw 100 (by rw [c29_5]; rfl) ?_
    refine At.enter rfl ?_
    refine r_lload_n rfl ?_
    refine r_lload rfl ?_
    refine r_lcmp _ rfl ?_
    refine r_ifs 107 rfl (fun c40 => ?_) (fun c40 => ?_)
    · have c40_ : a2.toInt ≤ a3.toInt := en_j_le_t c40
      refine At.enter rfl ?_
      refine r_lconst 0 rfl ?_
      refine Ar.fall 112 rfl ?_
      refine At.enter rfl ?_
      refine r_lret ?_
      exact ⟨_, rfl, hI0, hF0, _, rfl, trivial⟩
    · have c40_ : a2.toInt > a3.toInt := en_j_le_f c40
      refine At.enter rfl ?_
      refine r_lconst 1 rfl ?_
      refine r_goto ?_
      refine At.enter rfl ?_
      refine r_lret ?_
      exact ⟨_, rfl, hI0, hF0, _, rfl, trivial⟩
  have c41 : a1.toInt < 20 ∨ 25 < a1.toInt := by omega
  refine r_tsw 113 (by unfold en_sw; rw [if_pos c41]; rfl) ?_
  refine At.enter rfl ?_
  refine r_lload_n rfl ?_
  refine r_lload rfl ?_
  refine r_lcmp _ rfl ?_
  refine r_ifs 120 rfl (fun c42 => ?_) (fun c42 => ?_)
  · have c42_ : a2.toInt ≠ a3.toInt := en_j_ne_t c42
    refine At.enter rfl ?_
    refine r_lconst 0 rfl ?_
    refine Ar.fall 125 rfl ?_
    refine At.enter rfl ?_
    refine r_lret ?_
    exact ⟨_, rfl, hI0, hF0, _, rfl, trivial⟩
  · have c42_ : a2.toInt = a3.toInt := en_j_ne_f c42
    refine At.enter rfl ?_
    refine r_lconst 1 rfl ?_
    refine r_goto ?_
    refine At.enter rfl ?_
    refine r_lret ?_
    exact ⟨_, rfl, hI0, hF0, _, rfl, trivial⟩

def F_X11_reckonAll_231 : List (Nat × Nat) := [(231, 30), (231, 31)]
def A_X11_reckonAll_231 : List Nat := []
set_option maxRecDepth 100000 in
set_option maxHeartbeats 4000000 in
theorem T_X11_reckonAll_231 (d : Nat) {N : Nat} {g0 : List en_E} (hI0 : HI g0) (a1 : Int32) (a2 : Int32) (hC : WfCode (fun i => (eA g0 233 ((gI g0 231 27).toInt + 98 + 2 * i)).toInt) (fun i => (eA g0 233 ((gI g0 231 27).toInt + 98 + 2 * i + 1)).toInt) a1.toInt a2.toInt) : Ev (d + 2) 213 [.ref 231, .int a1, .int a2] (g0, N) (fun w h' => ∃ g', h' = (g', N) ∧ HI g' ∧ Fr F_X11_reckonAll_231 A_X11_reckonAll_231 g0 g' ∧ w = none) := by
  have hF0 : Fr F_X11_reckonAll_231 A_X11_reckonAll_231 g0 g0 := Fr.rf
  obtain ⟨c1, c2, c3, H, hH0, hHr, hHs⟩ := hC
  refine Ev.mk rfl rfl ⟨Nat.le_of_ble_eq_true rfl, Or.inr (q_rc hI0.1 kx_231 rfl)⟩ ?_
  show At _ none _ _ (0, [(0, .ref 231), (1, .int a1), (2, .int a2)], [], (_, _)) _
  refine At.enter rfl ?_
  refine r_aload_n rfl ?_
  refine r_iconst 0 rfl ?_
  refine q_putI (Sh.int hI0.1 kx_231 rfl) rfl ?_
  have hI1191 := HI.wI0 hI0 kx_231 rfl (p := 231) (b := 30) (v := 0) rfl
  have hF1192 := Fr.wI (p := 231) (b := 30) (v := 0) hF0 rfl
  refine r_iconst 0 rfl ?_
  refine r_istore_n ([(3, .int 0), (0, .ref 231), (1, .int a1), (2, .int a2)]) rfl ?_
  refine r_iload_n rfl ?_
  refine r_istore ([(4, .int a1), (3, .int 0), (0, .ref 231), (1, .int a1), (2, .int a2)]) rfl ?_
  refine Ar.fall 10 rfl ?_
  have z_1704 : (0 : Int32).toInt = 0 := rfl
  refine w_loopI (fun n_ l_ g_ => ∃ x1687 : Int32, ∃ x1688 : Int32, n_ = a2.toInt - x1688.toInt ∧ HI g_ ∧ Fr F_X11_reckonAll_231 A_X11_reckonAll_231 g0 g_ ∧ en_get 0 l_ = some (.ref 231) ∧ en_get 1 l_ = some (.int a1) ∧ en_get 2 l_ = some (.int a2) ∧ en_get 3 l_ = some (.int x1687) ∧ en_get 4 l_ = some (.int x1688) ∧ (0 ≤ x1687.toInt ∧ x1687.toInt ≤ 400) ∧ (0 ≤ x1688.toInt ∧ x1688.toInt ≤ 400) ∧ (x1687.toInt = H x1688.toInt) ∧ (a1.toInt ≤ x1688.toInt ∧ x1688.toInt ≤ a2.toInt)) ?_ (a2.toInt - a1.toInt) ⟨0, a1, by first | rfl | omega, hI1191, hF1192, rfl, rfl, rfl, rfl, rfl, by decide, by omega, by omega, by omega⟩
  rintro n1693 l1692 g1689 ⟨x1687, x1688, hm1705, hI1690, hF1691, e1695, e1696, e1697, e1698, e1699, r1700, r1701, q1702, q1703⟩ ih1694
  refine At.enter rfl ?_
  refine r_iload e1699 ?_
  refine r_iload_n e1697 ?_
  have bv1707 := q_bnd x1688
  have bv1708 := q_bnd a2
  refine r_ics 16 rfl (fun c1706 => ?_) (fun c1706 => ?_)
  · have c1706_ : x1688.toInt ≥ a2.toInt := en_i_ge_t c1706
    refine At.enter rfl ?_
    refine r_aload_n e1695 ?_
    refine r_iload_n e1698 ?_
    refine r_ifs 250 rfl (fun c1709 => ?_) (fun c1709 => ?_)
    · have c1709_ : x1687.toInt ≤ 0 := en_k_le_t c1709
      refine At.enter rfl ?_
      refine r_lconst 0 rfl ?_
      refine Ar.fall 260 rfl ?_
      refine At.enter rfl ?_
      refine q_putJ (Sh.long hI1690.1 kx_231 rfl) rfl ?_
      have hI1710 := HI.wJ hI1690 kx_231 rfl (p := 231) (b := 31) (v := 0)
      have hF1711 := Fr.wJ (p := 231) (b := 31) (v := 0) hF1691 rfl
      refine r_vret ?_
      exact ⟨_, rfl, hI1710, hF1711, rfl⟩
    · have c1709_ : x1687.toInt > 0 := en_k_le_f c1709
      refine At.enter rfl ?_
      refine r_aload_n e1695 ?_
      refine q_getR (Sh.ref hI1690.1 kx_231 rfl) ?_
      refine r_iconst 0 rfl ?_
      refine q_lald (Sh.lar hI1690.1 ka_245) (0) rfl (by decide) (fun v1712 => ?_)
      refine r_goto ?_
      refine At.enter rfl ?_
      refine q_putJ (Sh.long hI1690.1 kx_231 rfl) rfl ?_
      have hI1713 := HI.wJ hI1690 kx_231 rfl (p := 231) (b := 31) (v := v1712)
      have hF1714 := Fr.wJ (p := 231) (b := 31) (v := v1712) hF1691 rfl
      refine r_vret ?_
      exact ⟨_, rfl, hI1713, hF1714, rfl⟩
  · have c1706_ : x1688.toInt < a2.toInt := en_i_ge_f c1706
    refine At.enter rfl ?_
    refine r_aload_n e1695 ?_
    obtain ⟨v1715, hv1715⟩ : ∃ v, gI g1689 231 30 = v := ⟨_, rfl⟩
    refine q_getI (Sh.int hI1690.1 kx_231 rfl) v1715 hv1715 ?_
    refine r_ifs 23 rfl (fun c1716 => ?_) (fun c1716 => ?_)
    · have c1716_ : v1715.toInt ≠ 0 := en_k_ne_t c1716
      refine At.enter rfl ?_
      refine r_aload_n e1695 ?_
      refine r_iload_n e1698 ?_
      refine r_ifs 250 rfl (fun c1717 => ?_) (fun c1717 => ?_)
      · have c1717_ : x1687.toInt ≤ 0 := en_k_le_t c1717
        refine At.enter rfl ?_
        refine r_lconst 0 rfl ?_
        refine Ar.fall 260 rfl ?_
        refine At.enter rfl ?_
        refine q_putJ (Sh.long hI1690.1 kx_231 rfl) rfl ?_
        have hI1718 := HI.wJ hI1690 kx_231 rfl (p := 231) (b := 31) (v := 0)
        have hF1719 := Fr.wJ (p := 231) (b := 31) (v := 0) hF1691 rfl
        refine r_vret ?_
        exact ⟨_, rfl, hI1718, hF1719, rfl⟩
      · have c1717_ : x1687.toInt > 0 := en_k_le_f c1717
        refine At.enter rfl ?_
        refine r_aload_n e1695 ?_
        refine q_getR (Sh.ref hI1690.1 kx_231 rfl) ?_
        refine r_iconst 0 rfl ?_
        refine q_lald (Sh.lar hI1690.1 ka_245) (0) rfl (by decide) (fun v1720 => ?_)
        refine r_goto ?_
        refine At.enter rfl ?_
        refine q_putJ (Sh.long hI1690.1 kx_231 rfl) rfl ?_
        have hI1721 := HI.wJ hI1690 kx_231 rfl (p := 231) (b := 31) (v := v1720)
        have hF1722 := Fr.wJ (p := 231) (b := 31) (v := v1720) hF1691 rfl
        refine r_vret ?_
        exact ⟨_, rfl, hI1721, hF1722, rfl⟩
    · have c1716_ : v1715.toInt = 0 := en_k_ne_f c1716
      refine At.enter rfl ?_
      refine r_aload_n e1695 ?_
      refine q_getR (Sh.ref hI1690.1 kx_231 rfl) ?_
      refine r_aload_n e1695 ?_
      obtain ⟨v1723, hv1723⟩ : ∃ v, gI g0 231 27 = v := ⟨_, rfl⟩
      have rv1723 := RgF.at hI0.2.1 (p := 231) (b := 27) rfl
      rw [hv1723] at rv1723
      dsimp only at rv1723
      refine q_getI (Sh.int hI1690.1 kx_231 rfl) v1723 ((hF1691.1 231 27 (by decide)).trans hv1723) ?_
      refine r_bipush 98 rfl ?_
      refine q_iadd (v1723.toInt + 98) rfl (by omega) (fun v1724 hv1724 => ?_)
      refine r_iconst 2 rfl ?_
      refine r_iload e1699 ?_
      refine q_imul (2 * x1688.toInt) rfl (by omega) (fun v1725 hv1725 => ?_)
      refine q_iadd (v1724.toInt + v1725.toInt) rfl (by omega) (fun v1726 hv1726 => ?_)
      obtain ⟨v1727, hv1727⟩ : ∃ v, eA g0 233 (v1723.toInt + 2 * x1688.toInt + 98) = v := ⟨_, rfl⟩
      refine q_iald (Sh.arr hI1690.1 ka_233) (v1723.toInt + 2 * x1688.toInt + 98) (by omega) (by omega) v1727 ((eA_c (hF1691.2.1 233 (by decide))).trans hv1727) ?_
      refine r_istore _ rfl ?_
      refine r_aload_n (w_p1 (by decide) (Or.inr rfl) e1695) ?_
      refine q_getR (Sh.ref hI1690.1 kx_231 rfl) ?_
      refine r_aload_n (w_p1 (by decide) (Or.inr rfl) e1695) ?_
      refine q_getI (Sh.int hI1690.1 kx_231 rfl) v1723 ((hF1691.1 231 27 (by decide)).trans hv1723) ?_
      refine r_bipush 98 rfl ?_
      refine q_iadd (v1723.toInt + 98) rfl (by omega) (fun v1728 hv1728 => ?_)
      refine r_iconst 2 rfl ?_
      refine r_iload (w_p1 (by decide) (Or.inr rfl) e1699) ?_
      refine q_imul (2 * x1688.toInt) rfl (by omega) (fun v1729 hv1729 => ?_)
      refine q_iadd (v1728.toInt + v1729.toInt) rfl (by omega) (fun v1730 hv1730 => ?_)
      refine r_iconst 1 rfl ?_
      refine q_iadd (v1730.toInt + 1) rfl (by omega) (fun v1731 hv1731 => ?_)
      obtain ⟨v1732, hv1732⟩ : ∃ v, eA g0 233 (v1723.toInt + 2 * x1688.toInt + 99) = v := ⟨_, rfl⟩
      have hs1 : eA g0 233 ((gI g0 231 27).toInt + 98 + 2 * x1688.toInt) = v1727 := by rw [hv1723, show v1723.toInt + 98 + 2 * x1688.toInt = (v1723.toInt + 2 * x1688.toInt + 98) by omega]; exact hv1727
      have hs2 : eA g0 233 ((gI g0 231 27).toInt + 98 + 2 * x1688.toInt + 1) = v1732 := by rw [hv1723, show v1723.toInt + 98 + 2 * x1688.toInt + 1 = (v1723.toInt + 2 * x1688.toInt + 99) by omega]; exact hv1732
      have hs := hHs x1688.toInt (by omega) (by omega)
      dsimp only at hs
      rw [hs1, hs2] at hs
      unfold WfStep at hs
      have hr0 := hHr x1688.toInt (by omega) (by omega)
      have hr1 := hHr (x1688.toInt + 1) (by omega) (by omega)
      refine q_iald (Sh.arr hI1690.1 ka_233) (v1723.toInt + 2 * x1688.toInt + 99) (by omega) (by omega) v1732 ((eA_c (hF1691.2.1 233 (by decide))).trans hv1732) ?_
      refine r_istore _ rfl ?_
      refine q_iinc (w_p1 (by decide) (Or.inr rfl) (w_p1 (by decide) (Or.inr rfl) e1699)) (x1688.toInt + 1) rfl (by omega) (fun v1733 hv1733 => ?_)
      refine r_iload (w_p1 (by decide) (Or.inr rfl) (w_p1 (by decide) (Or.inr rfl) (w_e1 _ _ _))) ?_
      refine r_bipush 20 rfl ?_
      refine r_ics 73 rfl (fun c1734 => ?_) (fun c1734 => ?_)
      · have c1734_ : v1727.toInt ≥ 20 := en_i_ge_t c1734
        refine At.enter rfl ?_
        refine r_iload (w_p1 (by decide) (Or.inr rfl) (w_p1 (by decide) (Or.inr rfl) (w_e1 _ _ _))) ?_
        refine r_bipush 27 rfl ?_
        refine r_ics 110 rfl (fun c1735 => ?_) (fun c1735 => ?_)
        · have c1735_ : v1727.toInt ≥ 27 := en_i_ge_t c1735
          refine At.enter rfl ?_
          refine r_iload (w_p1 (by decide) (Or.inr rfl) (w_p1 (by decide) (Or.inr rfl) (w_e1 _ _ _))) ?_
          refine r_bipush 27 rfl ?_
          refine r_ics 187 rfl (fun c1736 => ?_) (fun c1736 => ?_)
          · have c1736_ : v1727.toInt ≠ 27 := en_i_ne_t c1736
            refine At.enter rfl ?_
            refine r_aload_n (w_p1 (by decide) (Or.inr rfl) (w_p1 (by decide) (Or.inr rfl) (w_p1 (by decide) (Or.inr rfl) e1695))) ?_
            refine q_getR (Sh.ref hI1690.1 kx_231 rfl) ?_
            refine r_iload_n (w_p1 (by decide) (Or.inr rfl) (w_p1 (by decide) (Or.inr rfl) (w_p1 (by decide) (Or.inr rfl) e1698))) ?_
            refine r_iconst 1 rfl ?_
            refine q_isub (x1687.toInt - 1) rfl (by omega) (fun v1737 hv1737 => ?_)
            refine q_lald (Sh.lar hI1690.1 ka_245) ((x1687.toInt + (-1))) (by omega) (by omega) (fun v1738 => ?_)
            refine r_iload (w_p1 (by decide) (Or.inr rfl) (w_p1 (by decide) (Or.inr rfl) (w_e1 _ _ _))) ?_
            refine r_bipush 28 rfl ?_
            refine r_ics 223 rfl (fun c1739 => ?_) (fun c1739 => ?_)
            · have c1739_ : v1727.toInt ≠ 28 := en_i_ne_t c1739
              refine At.enter rfl ?_
              refine r_lconst 1 rfl ?_
              refine Ar.fall 228 rfl ?_
              refine At.enter rfl ?_
              refine r_lcmp _ rfl ?_
              refine r_ifs 232 rfl (fun c1740 => ?_) (fun c1740 => ?_)
              · have c1740_ : v1738.toInt ≠ 1 := en_j_ne_t c1740
                refine At.enter rfl ?_
                refine q_iinc (w_p1 (by decide) (Or.inr rfl) (w_p1 (by decide) (Or.inr rfl) (w_p1 (by decide) (Or.inr rfl) e1698))) (x1687.toInt + (-1)) rfl (by omega) (fun v1741 hv1741 => ?_)
                refine Ar.fall 242 rfl ?_
                refine At.enter rfl ?_
                refine r_goto ?_
                exact ih1694 (a2.toInt - v1733.toInt) _ _ ⟨v1741, v1733, by first | rfl | omega, hI1690, hF1691, (w_p1 (by decide) (Or.inr rfl) (w_p1 (by decide) (Or.inr rfl) (w_p1 (by decide) (Or.inr rfl) (w_p1 (by decide) (Or.inr rfl) e1695)))), (w_p1 (by decide) (Or.inr rfl) (w_p1 (by decide) (Or.inr rfl) (w_p1 (by decide) (Or.inr rfl) (w_p1 (by decide) (Or.inr rfl) e1696)))), (w_p1 (by decide) (Or.inr rfl) (w_p1 (by decide) (Or.inr rfl) (w_p1 (by decide) (Or.inr rfl) (w_p1 (by decide) (Or.inr rfl) e1697)))), (w_e1 _ _ _), (w_p1 (by decide) (Or.inr rfl) (w_e1 _ _ _)), by omega, by omega, (by first | omega | (have e := congrArg H hv1733; omega)), by omega⟩ ⟨by omega, by omega⟩
              · have c1740_ : v1738.toInt = 1 := en_j_ne_f c1740
                refine At.enter rfl ?_
                refine r_iload (w_p1 (by decide) (Or.inr rfl) (w_e1 _ _ _)) ?_
                refine r_istore _ rfl ?_
                refine r_goto ?_
                refine At.enter rfl ?_
                refine r_goto ?_
                exact ih1694 (a2.toInt - v1732.toInt) _ _ ⟨x1687, v1732, by first | rfl | omega, hI1690, hF1691, (w_p1 (by decide) (Or.inr rfl) (w_p1 (by decide) (Or.inr rfl) (w_p1 (by decide) (Or.inr rfl) (w_p1 (by decide) (Or.inr rfl) e1695)))), (w_p1 (by decide) (Or.inr rfl) (w_p1 (by decide) (Or.inr rfl) (w_p1 (by decide) (Or.inr rfl) (w_p1 (by decide) (Or.inr rfl) e1696)))), (w_p1 (by decide) (Or.inr rfl) (w_p1 (by decide) (Or.inr rfl) (w_p1 (by decide) (Or.inr rfl) (w_p1 (by decide) (Or.inr rfl) e1697)))), (w_p1 (by decide) (Or.inr rfl) (w_p1 (by decide) (Or.inr rfl) (w_p1 (by decide) (Or.inr rfl) (w_p1 (by decide) (Or.inr rfl) e1698)))), (w_e1 _ _ _), by omega, by omega, (by first | omega | (have e := congrArg H hv1732; omega)), by omega⟩ ⟨by omega, by omega⟩
            · have c1739_ : v1727.toInt = 28 := en_i_ne_f c1739
              refine At.enter rfl ?_
              refine r_lconst 0 rfl ?_
              refine r_goto ?_
              refine At.enter rfl ?_
              refine r_lcmp _ rfl ?_
              refine r_ifs 232 rfl (fun c1742 => ?_) (fun c1742 => ?_)
              · have c1742_ : v1738.toInt ≠ 0 := en_j_ne_t c1742
                refine At.enter rfl ?_
                refine q_iinc (w_p1 (by decide) (Or.inr rfl) (w_p1 (by decide) (Or.inr rfl) (w_p1 (by decide) (Or.inr rfl) e1698))) (x1687.toInt + (-1)) rfl (by omega) (fun v1743 hv1743 => ?_)
                refine Ar.fall 242 rfl ?_
                refine At.enter rfl ?_
                refine r_goto ?_
                exact ih1694 (a2.toInt - v1733.toInt) _ _ ⟨v1743, v1733, by first | rfl | omega, hI1690, hF1691, (w_p1 (by decide) (Or.inr rfl) (w_p1 (by decide) (Or.inr rfl) (w_p1 (by decide) (Or.inr rfl) (w_p1 (by decide) (Or.inr rfl) e1695)))), (w_p1 (by decide) (Or.inr rfl) (w_p1 (by decide) (Or.inr rfl) (w_p1 (by decide) (Or.inr rfl) (w_p1 (by decide) (Or.inr rfl) e1696)))), (w_p1 (by decide) (Or.inr rfl) (w_p1 (by decide) (Or.inr rfl) (w_p1 (by decide) (Or.inr rfl) (w_p1 (by decide) (Or.inr rfl) e1697)))), (w_e1 _ _ _), (w_p1 (by decide) (Or.inr rfl) (w_e1 _ _ _)), by omega, by omega, (by first | omega | (have e := congrArg H hv1733; omega)), by omega⟩ ⟨by omega, by omega⟩
              · have c1742_ : v1738.toInt = 0 := en_j_ne_f c1742
                refine At.enter rfl ?_
                refine r_iload (w_p1 (by decide) (Or.inr rfl) (w_e1 _ _ _)) ?_
                refine r_istore _ rfl ?_
                refine r_goto ?_
                refine At.enter rfl ?_
                refine r_goto ?_
                exact ih1694 (a2.toInt - v1732.toInt) _ _ ⟨x1687, v1732, by first | rfl | omega, hI1690, hF1691, (w_p1 (by decide) (Or.inr rfl) (w_p1 (by decide) (Or.inr rfl) (w_p1 (by decide) (Or.inr rfl) (w_p1 (by decide) (Or.inr rfl) e1695)))), (w_p1 (by decide) (Or.inr rfl) (w_p1 (by decide) (Or.inr rfl) (w_p1 (by decide) (Or.inr rfl) (w_p1 (by decide) (Or.inr rfl) e1696)))), (w_p1 (by decide) (Or.inr rfl) (w_p1 (by decide) (Or.inr rfl) (w_p1 (by decide) (Or.inr rfl) (w_p1 (by decide) (Or.inr rfl) e1697)))), (w_p1 (by decide) (Or.inr rfl) (w_p1 (by decide) (Or.inr rfl) (w_p1 (by decide) (Or.inr rfl) (w_p1 (by decide) (Or.inr rfl) e1698)))), (w_e1 _ _ _), by omega, by omega, (by first | omega | (have e := congrArg H hv1732; omega)), by omega⟩ ⟨by omega, by omega⟩
          · have c1736_ : v1727.toInt = 27 := en_i_ne_f c1736
            refine At.enter rfl ?_
            refine r_aload_n (w_p1 (by decide) (Or.inr rfl) (w_p1 (by decide) (Or.inr rfl) (w_p1 (by decide) (Or.inr rfl) e1695))) ?_
            refine q_getR (Sh.ref hI1690.1 kx_231 rfl) ?_
            refine r_iload_n (w_p1 (by decide) (Or.inr rfl) (w_p1 (by decide) (Or.inr rfl) (w_p1 (by decide) (Or.inr rfl) e1698))) ?_
            refine r_iconst 1 rfl ?_
            refine q_isub (x1687.toInt - 1) rfl (by omega) (fun v1744 hv1744 => ?_)
            refine r_lconst 1 rfl ?_
            refine r_aload_n (w_p1 (by decide) (Or.inr rfl) (w_p1 (by decide) (Or.inr rfl) (w_p1 (by decide) (Or.inr rfl) e1695))) ?_
            refine q_getR (Sh.ref hI1690.1 kx_231 rfl) ?_
            refine r_iload_n (w_p1 (by decide) (Or.inr rfl) (w_p1 (by decide) (Or.inr rfl) (w_p1 (by decide) (Or.inr rfl) e1698))) ?_
            refine r_iconst 1 rfl ?_
            refine q_isub (x1687.toInt - 1) rfl (by omega) (fun v1745 hv1745 => ?_)
            refine q_lald (Sh.lar hI1690.1 ka_245) ((x1687.toInt + (-1))) (by omega) (by omega) (fun v1746 => ?_)
            refine q_lsubO (fun v1747 _ => ?_)
            refine q_last (Sh.lar hI1690.1 ka_245) ((x1687.toInt + (-1))) (by omega) (by omega) ?_
            have hI1748 := HI.wK hI1690 ka_245 ((x1687.toInt + (-1))) (v1747) (by decide)
            have hF1749 := Fr.wK (p := 245) (j := (x1687.toInt + (-1))) (v := v1747) hF1691
            refine r_goto ?_
            refine At.enter rfl ?_
            refine r_goto ?_
            exact ih1694 (a2.toInt - v1733.toInt) _ _ ⟨x1687, v1733, by first | rfl | omega, hI1748, hF1749, (w_p1 (by decide) (Or.inr rfl) (w_p1 (by decide) (Or.inr rfl) (w_p1 (by decide) (Or.inr rfl) e1695))), (w_p1 (by decide) (Or.inr rfl) (w_p1 (by decide) (Or.inr rfl) (w_p1 (by decide) (Or.inr rfl) e1696))), (w_p1 (by decide) (Or.inr rfl) (w_p1 (by decide) (Or.inr rfl) (w_p1 (by decide) (Or.inr rfl) e1697))), (w_p1 (by decide) (Or.inr rfl) (w_p1 (by decide) (Or.inr rfl) (w_p1 (by decide) (Or.inr rfl) e1698))), (w_e1 _ _ _), by omega, by omega, (by first | omega | (have e := congrArg H hv1733; omega)), by omega⟩ ⟨by omega, by omega⟩
        · have c1735_ : v1727.toInt < 27 := en_i_ge_f c1735
          refine At.enter rfl ?_
          refine q_iinc (w_p1 (by decide) (Or.inr rfl) (w_p1 (by decide) (Or.inr rfl) (w_p1 (by decide) (Or.inr rfl) e1698))) (x1687.toInt + (-1)) rfl (by omega) (fun v1750 hv1750 => ?_)
          refine r_aload_n (w_p1 (by decide) (Or.inr rfl) (w_p1 (by decide) (Or.inr rfl) (w_p1 (by decide) (Or.inr rfl) (w_p1 (by decide) (Or.inr rfl) e1695)))) ?_
          refine q_getR (Sh.ref hI1690.1 kx_231 rfl) ?_
          refine r_iload_n (w_e1 _ _ _) ?_
          refine r_iconst 1 rfl ?_
          refine q_isub (v1750.toInt - 1) rfl (by omega) (fun v1751 hv1751 => ?_)
          refine r_aload_n (w_p1 (by decide) (Or.inr rfl) (w_p1 (by decide) (Or.inr rfl) (w_p1 (by decide) (Or.inr rfl) (w_p1 (by decide) (Or.inr rfl) e1695)))) ?_
          refine r_iload (w_p1 (by decide) (Or.inr rfl) (w_p1 (by decide) (Or.inr rfl) (w_p1 (by decide) (Or.inr rfl) (w_e1 _ _ _)))) ?_
          refine r_aload_n (w_p1 (by decide) (Or.inr rfl) (w_p1 (by decide) (Or.inr rfl) (w_p1 (by decide) (Or.inr rfl) (w_p1 (by decide) (Or.inr rfl) e1695)))) ?_
          refine q_getR (Sh.ref hI1690.1 kx_231 rfl) ?_
          refine r_iload_n (w_e1 _ _ _) ?_
          refine r_iconst 1 rfl ?_
          refine q_isub (v1750.toInt - 1) rfl (by omega) (fun v1752 hv1752 => ?_)
          refine q_lald (Sh.lar hI1690.1 ka_245) ((x1687.toInt + (-2))) (by omega) (by omega) (fun v1753 => ?_)
          refine r_aload_n (w_p1 (by decide) (Or.inr rfl) (w_p1 (by decide) (Or.inr rfl) (w_p1 (by decide) (Or.inr rfl) (w_p1 (by decide) (Or.inr rfl) e1695)))) ?_
          refine q_getR (Sh.ref hI1690.1 kx_231 rfl) ?_
          refine r_iload_n (w_e1 _ _ _) ?_
          refine q_lald (Sh.lar hI1690.1 ka_245) ((x1687.toInt + (-1))) (by omega) (by omega) (fun v1754 => ?_)
          refine r_callV 140 rfl [.ref 231, .int v1727, .long v1753, .long v1754] [.int v1751, .ref 245] (Nat.le_of_ble_eq_true rfl) rfl (T_X11_reckon_231 _ hI1690 v1727 v1753 v1754) ?_
          rintro _ _ ⟨g1755, rfl, hI1756, hF1757, v1758, rfl, hr1759⟩
          refine At.stl ?_
          have hF1760 := Fr.tr hF1691 hF1757 rfl rfl
          refine At.enter rfl ?_
          refine q_last (Sh.lar hI1756.1 ka_245) ((x1687.toInt + (-2))) (by omega) (by omega) ?_
          have hI1761 := HI.wK hI1756 ka_245 ((x1687.toInt + (-2))) (v1758) (by decide)
          have hF1762 := Fr.wK (p := 245) (j := (x1687.toInt + (-2))) (v := v1758) hF1760
          refine r_aload_n (w_p1 (by decide) (Or.inr rfl) (w_p1 (by decide) (Or.inr rfl) (w_p1 (by decide) (Or.inr rfl) (w_p1 (by decide) (Or.inr rfl) e1695)))) ?_
          refine r_aload_n (w_p1 (by decide) (Or.inr rfl) (w_p1 (by decide) (Or.inr rfl) (w_p1 (by decide) (Or.inr rfl) (w_p1 (by decide) (Or.inr rfl) e1695)))) ?_
          obtain ⟨v1763, hv1763⟩ : ∃ v, gI g1755 231 30 = v := ⟨_, rfl⟩
          refine q_getI (Sh.int hI1761.1 kx_231 rfl) v1763 ((gI_sX).trans hv1763) ?_
          refine r_ifs 149 rfl (fun c1764 => ?_) (fun c1764 => ?_)
          · have c1764_ : v1763.toInt ≠ 0 := en_k_ne_t c1764
            refine At.enter rfl ?_
            refine r_iconst 1 rfl ?_
            refine r_goto ?_
            refine At.enter rfl ?_
            refine q_putI (Sh.int hI1761.1 kx_231 rfl) rfl ?_
            have hI1765 := HI.wI0 hI1761 kx_231 rfl (p := 231) (b := 30) (v := 1) rfl
            have hF1766 := Fr.wI (p := 231) (b := 30) (v := 1) hF1762 rfl
            refine r_goto ?_
            refine At.enter rfl ?_
            refine r_goto ?_
            exact ih1694 (a2.toInt - v1733.toInt) _ _ ⟨v1750, v1733, by first | rfl | omega, hI1765, hF1766, (w_p1 (by decide) (Or.inr rfl) (w_p1 (by decide) (Or.inr rfl) (w_p1 (by decide) (Or.inr rfl) (w_p1 (by decide) (Or.inr rfl) e1695)))), (w_p1 (by decide) (Or.inr rfl) (w_p1 (by decide) (Or.inr rfl) (w_p1 (by decide) (Or.inr rfl) (w_p1 (by decide) (Or.inr rfl) e1696)))), (w_p1 (by decide) (Or.inr rfl) (w_p1 (by decide) (Or.inr rfl) (w_p1 (by decide) (Or.inr rfl) (w_p1 (by decide) (Or.inr rfl) e1697)))), (w_e1 _ _ _), (w_p1 (by decide) (Or.inr rfl) (w_e1 _ _ _)), by omega, by omega, (by first | omega | (have e := congrArg H hv1733; omega)), by omega⟩ ⟨by omega, by omega⟩
          · have c1764_ : v1763.toInt = 0 := en_k_ne_f c1764
            refine At.enter rfl ?_
            refine r_aload_n (w_p1 (by decide) (Or.inr rfl) (w_p1 (by decide) (Or.inr rfl) (w_p1 (by decide) (Or.inr rfl) (w_p1 (by decide) (Or.inr rfl) e1695)))) ?_
            refine q_getR (Sh.ref hI1761.1 kx_231 rfl) ?_
            refine r_iload_n (w_e1 _ _ _) ?_
            refine r_iconst 1 rfl ?_
            refine q_isub (v1750.toInt - 1) rfl (by omega) (fun v1767 hv1767 => ?_)
            refine q_lald (Sh.lar hI1761.1 ka_245) ((x1687.toInt + (-2))) (by omega) (by omega) (fun v1768 => ?_)
            refine r_ldc2 (-1000000000) rfl ?_
            refine r_ldc2 1000000000 rfl ?_
            refine q_inlS 166 rfl [.long v1768, .long (-1000000000), .long 1000000000] [.ref 231] (Nat.le_of_ble_eq_true rfl) rfl ?_
            refine Ev.mk rfl rfl ⟨Nat.le_of_ble_eq_true rfl, Or.inl rfl⟩ ?_
            show At _ none _ _ (0, [(0, .long v1768), (2, .long (-1000000000)), (4, .long 1000000000)], [], (_, _)) _
            refine At.enter rfl ?_
            refine r_lload_n rfl ?_
            refine r_lload_n rfl ?_
            refine r_lcmp _ rfl ?_
            refine r_ifs 6 rfl (fun c1769 => ?_) (fun c1769 => ?_)
            · have c1769_ : v1768.toInt < (-1000000000) := en_j_lt_t c1769
              refine At.enter rfl ?_
              refine r_iconst 0 rfl ?_
              refine Ar.fall 18 rfl ?_
              refine At.enter rfl ?_
              refine q_iretz (by decide) ?_
              refine At.enter rfl ?_
              refine r_iff 169 rfl (by decide) ?_
              refine At.enter rfl ?_
              refine r_iconst 1 rfl ?_
              refine r_goto ?_
              refine At.enter rfl ?_
              refine q_putI (Sh.int hI1761.1 kx_231 rfl) rfl ?_
              have hI1770 := HI.wI0 hI1761 kx_231 rfl (p := 231) (b := 30) (v := 1) rfl
              have hF1771 := Fr.wI (p := 231) (b := 30) (v := 1) hF1762 rfl
              refine r_goto ?_
              refine At.enter rfl ?_
              refine r_goto ?_
              exact ih1694 (a2.toInt - v1733.toInt) _ _ ⟨v1750, v1733, by first | rfl | omega, hI1770, hF1771, (w_p1 (by decide) (Or.inr rfl) (w_p1 (by decide) (Or.inr rfl) (w_p1 (by decide) (Or.inr rfl) (w_p1 (by decide) (Or.inr rfl) e1695)))), (w_p1 (by decide) (Or.inr rfl) (w_p1 (by decide) (Or.inr rfl) (w_p1 (by decide) (Or.inr rfl) (w_p1 (by decide) (Or.inr rfl) e1696)))), (w_p1 (by decide) (Or.inr rfl) (w_p1 (by decide) (Or.inr rfl) (w_p1 (by decide) (Or.inr rfl) (w_p1 (by decide) (Or.inr rfl) e1697)))), (w_e1 _ _ _), (w_p1 (by decide) (Or.inr rfl) (w_e1 _ _ _)), by omega, by omega, (by first | omega | (have e := congrArg H hv1733; omega)), by omega⟩ ⟨by omega, by omega⟩
            · have c1769_ : v1768.toInt ≥ (-1000000000) := en_j_lt_f c1769
              refine At.enter rfl ?_
              refine r_lload_n rfl ?_
              refine r_lload rfl ?_
              refine r_lcmp _ rfl ?_
              refine r_ifs 13 rfl (fun c1772 => ?_) (fun c1772 => ?_)
              · have c1772_ : v1768.toInt > 1000000000 := en_j_gt_t c1772
                refine At.enter rfl ?_
                refine r_iconst 0 rfl ?_
                refine Ar.fall 18 rfl ?_
                refine At.enter rfl ?_
                refine q_iretz (by decide) ?_
                refine At.enter rfl ?_
                refine r_iff 169 rfl (by decide) ?_
                refine At.enter rfl ?_
                refine r_iconst 1 rfl ?_
                refine r_goto ?_
                refine At.enter rfl ?_
                refine q_putI (Sh.int hI1761.1 kx_231 rfl) rfl ?_
                have hI1773 := HI.wI0 hI1761 kx_231 rfl (p := 231) (b := 30) (v := 1) rfl
                have hF1774 := Fr.wI (p := 231) (b := 30) (v := 1) hF1762 rfl
                refine r_goto ?_
                refine At.enter rfl ?_
                refine r_goto ?_
                exact ih1694 (a2.toInt - v1733.toInt) _ _ ⟨v1750, v1733, by first | rfl | omega, hI1773, hF1774, (w_p1 (by decide) (Or.inr rfl) (w_p1 (by decide) (Or.inr rfl) (w_p1 (by decide) (Or.inr rfl) (w_p1 (by decide) (Or.inr rfl) e1695)))), (w_p1 (by decide) (Or.inr rfl) (w_p1 (by decide) (Or.inr rfl) (w_p1 (by decide) (Or.inr rfl) (w_p1 (by decide) (Or.inr rfl) e1696)))), (w_p1 (by decide) (Or.inr rfl) (w_p1 (by decide) (Or.inr rfl) (w_p1 (by decide) (Or.inr rfl) (w_p1 (by decide) (Or.inr rfl) e1697)))), (w_e1 _ _ _), (w_p1 (by decide) (Or.inr rfl) (w_e1 _ _ _)), by omega, by omega, (by first | omega | (have e := congrArg H hv1733; omega)), by omega⟩ ⟨by omega, by omega⟩
              · have c1772_ : v1768.toInt ≤ 1000000000 := en_j_gt_f c1772
                refine At.enter rfl ?_
                refine r_iconst 1 rfl ?_
                refine r_goto ?_
                refine At.enter rfl ?_
                refine q_iretz (by decide) ?_
                refine At.enter rfl ?_
                refine r_ift (by decide) ?_
                refine At.enter rfl ?_
                refine r_iconst 0 rfl ?_
                refine Ar.fall 174 rfl ?_
                refine At.enter rfl ?_
                refine q_putI (Sh.int hI1761.1 kx_231 rfl) rfl ?_
                have hI1775 := HI.wI0 hI1761 kx_231 rfl (p := 231) (b := 30) (v := 0) rfl
                have hF1776 := Fr.wI (p := 231) (b := 30) (v := 0) hF1762 rfl
                refine r_goto ?_
                refine At.enter rfl ?_
                refine r_goto ?_
                exact ih1694 (a2.toInt - v1733.toInt) _ _ ⟨v1750, v1733, by first | rfl | omega, hI1775, hF1776, (w_p1 (by decide) (Or.inr rfl) (w_p1 (by decide) (Or.inr rfl) (w_p1 (by decide) (Or.inr rfl) (w_p1 (by decide) (Or.inr rfl) e1695)))), (w_p1 (by decide) (Or.inr rfl) (w_p1 (by decide) (Or.inr rfl) (w_p1 (by decide) (Or.inr rfl) (w_p1 (by decide) (Or.inr rfl) e1696)))), (w_p1 (by decide) (Or.inr rfl) (w_p1 (by decide) (Or.inr rfl) (w_p1 (by decide) (Or.inr rfl) (w_p1 (by decide) (Or.inr rfl) e1697)))), (w_e1 _ _ _), (w_p1 (by decide) (Or.inr rfl) (w_e1 _ _ _)), by omega, by omega, (by first | omega | (have e := congrArg H hv1733; omega)), by omega⟩ ⟨by omega, by omega⟩
      · have c1734_ : v1727.toInt < 20 := en_i_ge_f c1734
        refine At.enter rfl ?_
        refine r_aload_n (w_p1 (by decide) (Or.inr rfl) (w_p1 (by decide) (Or.inr rfl) (w_p1 (by decide) (Or.inr rfl) e1695))) ?_
        refine q_getR (Sh.ref hI1690.1 kx_231 rfl) ?_
        refine r_iload_n (w_p1 (by decide) (Or.inr rfl) (w_p1 (by decide) (Or.inr rfl) (w_p1 (by decide) (Or.inr rfl) e1698))) ?_
        refine r_iload (w_p1 (by decide) (Or.inr rfl) (w_p1 (by decide) (Or.inr rfl) (w_e1 _ _ _))) ?_
        refine r_ifs 83 rfl (fun c1777 => ?_) (fun c1777 => ?_)
        · have c1777_ : v1727.toInt ≠ 0 := en_k_ne_t c1777
          refine At.enter rfl ?_
          refine r_aload_n (w_p1 (by decide) (Or.inr rfl) (w_p1 (by decide) (Or.inr rfl) (w_p1 (by decide) (Or.inr rfl) e1695))) ?_
          refine q_getR (Sh.ref hI1690.1 kx_231 rfl) ?_
          refine r_iload (w_p1 (by decide) (Or.inr rfl) (w_p1 (by decide) (Or.inr rfl) (w_e1 _ _ _))) ?_
          refine q_lald (Sh.lar hI1690.1 ka_244) (v1727.toInt) rfl (by omega) (fun v1778 => ?_)
          refine Ar.fall 96 rfl ?_
          refine At.enter rfl ?_
          refine q_last (Sh.lar hI1690.1 ka_245) (x1687.toInt) rfl (by omega) ?_
          have hI1779 := HI.wK hI1690 ka_245 (x1687.toInt) (v1778) (by decide)
          have hF1780 := Fr.wK (p := 245) (j := x1687.toInt) (v := v1778) hF1691
          refine q_iinc (w_p1 (by decide) (Or.inr rfl) (w_p1 (by decide) (Or.inr rfl) (w_p1 (by decide) (Or.inr rfl) e1698))) (x1687.toInt + 1) rfl (by omega) (fun v1781 hv1781 => ?_)
          refine r_goto ?_
          refine At.enter rfl ?_
          refine r_goto ?_
          exact ih1694 (a2.toInt - v1733.toInt) _ _ ⟨v1781, v1733, by first | rfl | omega, hI1779, hF1780, (w_p1 (by decide) (Or.inr rfl) (w_p1 (by decide) (Or.inr rfl) (w_p1 (by decide) (Or.inr rfl) (w_p1 (by decide) (Or.inr rfl) e1695)))), (w_p1 (by decide) (Or.inr rfl) (w_p1 (by decide) (Or.inr rfl) (w_p1 (by decide) (Or.inr rfl) (w_p1 (by decide) (Or.inr rfl) e1696)))), (w_p1 (by decide) (Or.inr rfl) (w_p1 (by decide) (Or.inr rfl) (w_p1 (by decide) (Or.inr rfl) (w_p1 (by decide) (Or.inr rfl) e1697)))), (w_e1 _ _ _), (w_p1 (by decide) (Or.inr rfl) (w_e1 _ _ _)), by omega, by omega, (by first | omega | (have e := congrArg H hv1733; omega)), by omega⟩ ⟨by omega, by omega⟩
        · have c1777_ : v1727.toInt = 0 := en_k_ne_f c1777
          refine At.enter rfl ?_
          refine r_iload (w_p1 (by decide) (Or.inr rfl) (w_e1 _ _ _)) ?_
          refine q_i2l (fun v1782 hv1782 => ?_)
          refine r_goto ?_
          refine At.enter rfl ?_
          refine q_last (Sh.lar hI1690.1 ka_245) (x1687.toInt) rfl (by omega) ?_
          have hI1783 := HI.wK hI1690 ka_245 (x1687.toInt) (v1782) (by decide)
          have hF1784 := Fr.wK (p := 245) (j := x1687.toInt) (v := v1782) hF1691
          refine q_iinc (w_p1 (by decide) (Or.inr rfl) (w_p1 (by decide) (Or.inr rfl) (w_p1 (by decide) (Or.inr rfl) e1698))) (x1687.toInt + 1) rfl (by omega) (fun v1785 hv1785 => ?_)
          refine r_goto ?_
          refine At.enter rfl ?_
          refine r_goto ?_
          exact ih1694 (a2.toInt - v1733.toInt) _ _ ⟨v1785, v1733, by first | rfl | omega, hI1783, hF1784, (w_p1 (by decide) (Or.inr rfl) (w_p1 (by decide) (Or.inr rfl) (w_p1 (by decide) (Or.inr rfl) (w_p1 (by decide) (Or.inr rfl) e1695)))), (w_p1 (by decide) (Or.inr rfl) (w_p1 (by decide) (Or.inr rfl) (w_p1 (by decide) (Or.inr rfl) (w_p1 (by decide) (Or.inr rfl) e1696)))), (w_p1 (by decide) (Or.inr rfl) (w_p1 (by decide) (Or.inr rfl) (w_p1 (by decide) (Or.inr rfl) (w_p1 (by decide) (Or.inr rfl) e1697)))), (w_e1 _ _ _), (w_p1 (by decide) (Or.inr rfl) (w_e1 _ _ _)), by omega, by omega, (by first | omega | (have e := congrArg H hv1733; omega)), by omega⟩ ⟨by omega, by omega⟩
