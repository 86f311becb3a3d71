set_option maxRecDepth 100000 in
set_option maxHeartbeats 4000000 in
theorem S_X5_readPlain_176 (n : Nat) (IHJ : QJ n) (IHP : QP n) (IHT : QT n) : QP (n + 1) := by
  intro e he N g0 hI0 a1 h_a1 hm hT
  obtain ⟨d, rfl⟩ : ∃ d, e = d + 4 := ⟨e - 4, by omega⟩
  have hF0 : Fr F_rd A_rd g0 g0 := Fr.rf
  refine Ev.mk rfl rfl ⟨Nat.le_of_ble_eq_true rfl, Or.inr (q_rc hI0.1 kx_176 rfl)⟩ ?_
  show At _ none _ _ (0, [(0, .ref 176), (1, .int a1)], [], (_, _)) _
  refine At.enter rfl ?_
  refine r_iconst 0 rfl ?_
  refine r_istore_n ([(2, .int 0), (0, .ref 176), (1, .int a1)]) rfl ?_
  refine r_iconst 0 rfl ?_
  refine r_istore_n ([(3, .int 0), (2, .int 0), (0, .ref 176), (1, .int a1)]) rfl ?_
  refine Ar.fall 4 rfl ?_
  have z_17719 : (0 : Int32).toInt = 0 := rfl
  have z_17720 : (0 : Int32).toInt = 0 := rfl
  obtain ⟨v17721, hv17721⟩ : ∃ v, gI g0 176 4 = v := ⟨_, rfl⟩
  have rv17721 := RgF.at hI0.2.1 (p := 176) (b := 4) rfl
  rw [hv17721] at rv17721
  dsimp only at rv17721
  have tv17721 := congrArg Int32.toInt hv17721
  have x17722 := rX.e hI0 (b := 4) (hv17721)
  refine w_loopI (fun n_ l_ g_ => ∃ x17701 : Int32, ∃ x17702 : Int32, n_ = 400 - x17702.toInt ∧ HI g_ ∧ Fr F_rd A_rd g0 g_ ∧ en_get 0 l_ = some (.ref 176) ∧ en_get 1 l_ = some (.int a1) ∧ en_get 2 l_ = some (.int x17701) ∧ en_get 3 l_ = some (.int x17702) ∧ (0 ≤ x17701.toInt ∧ x17701.toInt ≤ 1) ∧ (0 ≤ x17702.toInt ∧ x17702.toInt ≤ 400) ∧ (TKX g_) ∧ (NLI (TX g0) (nX g0) g0 g_) ∧ (PRG0 0 (rX g0 2) (rX g_ 2) (rX g0 4) (rX g_ 4)) ∧ (x17702.toInt ≤ rX g_ 4)) ?_ (400 - 0) ⟨0, 0, by first | rfl | omega, hI0, hF0, rfl, rfl, rfl, rfl, by decide, by decide, hT, NLI.rf, PRG0.rf, by omega⟩
  rintro n17707 l17706 g17703 ⟨x17701, x17702, hm17723, hI17704, hF17705, e17709, e17710, e17711, e17712, r17713, r17714, q17715, q17716, q17717, q17718⟩ ih17708
  obtain ⟨v17724, hv17724⟩ : ∃ v, gI g17703 176 4 = v := ⟨_, rfl⟩
  have rv17724 := RgF.at hI17704.2.1 (p := 176) (b := 4) rfl
  rw [hv17724] at rv17724
  dsimp only at rv17724
  have tv17724 := congrArg Int32.toInt hv17724
  have x17725 := rX.e hI17704 (b := 4) (hv17724)
  have ce17726 := fun hz => CDX.end_ q17715 hz
  refine At.enter rfl ?_
  refine r_iload_n e17712 ?_
  refine r_sipush 400 rfl ?_
  refine r_ics 11 rfl (fun c17727 => ?_) (fun c17727 => ?_)
  · have c17727_ : x17702.toInt ≥ 400 := en_i_ge_t c17727
    refine At.enter rfl ?_
    refine r_aload_n e17709 ?_
    refine r_bipush 40 rfl ?_
    refine r_callV 46 rfl [.ref 176, .int 40] [] (Nat.le_of_ble_eq_true rfl) rfl (T_X5_isSingle_176 _ hI17704 40 (by decide)) ?_
    rintro _ _ ⟨g17728, rfl, hI17729, hF17730, v17731, rfl, hr17732⟩
    refine At.sti ?_
    have hF17733 := Fr.tr hF17705 hF17730 rfl rfl
    have zv17734 : (40 : Int32).toInt = 40 := rfl
    have hb17735 : BL (CDX g17703 = 2) v17731.toInt := ISX.code (c := 2) hr17732.2 q17715 (isSC_d (by omega)) (by decide)
    refine At.enter rfl ?_
    refine r_ifs 49 rfl (fun c17736 => ?_) (fun c17736 => ?_)
    · have c17736_ : v17731.toInt = 0 := en_k_eq_t c17736
      have i17737 := BL.no hb17735 (by omega)
      refine At.enter rfl ?_
      refine r_aload_n e17709 ?_
      refine r_iconst 2 rfl ?_
      refine r_iload_n e17710 ?_
      have zv17738 : (2 : Int32).toInt = 2 := rfl
      refine r_callV 85 rfl [.ref 176, .int 2, .int a1] [] (Nat.le_of_ble_eq_true rfl) rfl (IHJ _ (by omega) hI17729 2 (by decide) a1 (by omega) (by omega) (TKX.c q17715 ((hF17730.2.1 175 (by decide))) ((hF17730.1 174 1 (by decide))) ((hF17730.1 176 3 (by decide))) ((hF17730.1 176 4 (by decide))) ((hF17730.1 176 5 (by decide))))) ?_
      rintro _ _ ⟨g17739, rfl, hI17740, hF17741, rfl, hr17743⟩
      refine At.stn ?_
      have hF17744 := Fr.tr hF17733 hF17741 rfl rfl
      have zv17745 : (2 : Int32).toInt = 2 := rfl
      obtain ⟨v17750, hv17750⟩ : ∃ v, gI g17703 176 2 = v := ⟨_, rfl⟩
      have tv17750 := congrArg Int32.toInt hv17750
      have x17751 := rX.e hI17729 (b := 2) (((hF17730.1 176 2 (by decide)).trans hv17750))
      have x17752 := rX.e hI17729 (b := 4) (((hF17730.1 176 4 (by decide)).trans hv17724))
      obtain ⟨o17746, o17747, o17748, o17749⟩ := hr17743
      have o17753 := OPD.tc o17748 (((hF17730.2.1 175 (by decide)).trans (hF17705.2.1 175 (by decide)))) (((hF17730.1 174 1 (by decide)).trans (hF17705.1 174 1 (by decide))))
      have o17754 := PRG0.fr o17747 (rX.c (b := 2) ((hF17730.1 176 2 (by decide)))) (rX.c (b := 4) ((hF17730.1 176 4 (by decide))))
      have o17755 := OPD.fr o17753 (rX.c (b := 2) ((hF17730.1 176 2 (by decide)))) (rX.c (b := 4) ((hF17730.1 176 4 (by decide)))) (rX.c (b := 6) ((hF17730.1 176 6 (by decide))))
      obtain ⟨v17756, hv17756⟩ : ∃ v, gI g17739 176 2 = v := ⟨_, rfl⟩
      have tv17756 := congrArg Int32.toInt hv17756
      have x17757 := rX.e hI17740 (b := 2) (hv17756)
      obtain ⟨v17758, hv17758⟩ : ∃ v, gI g17739 176 4 = v := ⟨_, rfl⟩
      have rv17758 := RgF.at hI17740.2.1 (p := 176) (b := 4) rfl
      rw [hv17758] at rv17758
      dsimp only at rv17758
      have tv17758 := congrArg Int32.toInt hv17758
      have x17759 := rX.e hI17740 (b := 4) (hv17758)
      refine At.enter rfl ?_
      refine r_aload_n e17709 ?_
      refine r_callV 89 rfl [.ref 176] [] (Nat.le_of_ble_eq_true rfl) rfl (T_X5_comparisonHere_176 _ hI17740 o17746) ?_
      rintro _ _ ⟨g17760, rfl, hI17761, hF17762, v17763, rfl, hr17764⟩
      refine At.sti ?_
      have hF17765 := Fr.tr hF17744 hF17762 rfl rfl
      have hb17766 : BLN (24 ≤ CDX g17739 ∧ CDX g17739 ≤ 26) v17763.toInt := hr17764.2
      refine At.enter rfl ?_
      refine r_istore_n _ rfl ?_
      refine r_iload_n (w_e1 _ _ _) ?_
      refine r_iconst (-1) rfl ?_
      refine r_ics 95 rfl (fun c17767 => ?_) (fun c17767 => ?_)
      · have c17767_ : v17763.toInt ≠ (-1) := en_i_ne_t c17767
        have i17768 := BLN.yes hb17766 (by omega)
        refine At.enter rfl ?_
        refine r_aload_n (w_p1 (by decide) (Or.inr rfl) e17709) ?_
        refine r_callV 104 rfl [.ref 176] [] (Nat.le_of_ble_eq_true rfl) rfl (T_X5_step_176 _ hI17761 (TKX.c o17746 ((hF17762.2.1 175 (by decide))) ((hF17762.1 174 1 (by decide))) ((hF17762.1 176 3 (by decide))) ((hF17762.1 176 4 (by decide))) ((hF17762.1 176 5 (by decide)))).1 (TKX.c o17746 ((hF17762.2.1 175 (by decide))) ((hF17762.1 174 1 (by decide))) ((hF17762.1 176 3 (by decide))) ((hF17762.1 176 4 (by decide))) ((hF17762.1 176 5 (by decide)))).2.1.le.2.1) ?_
        rintro _ _ ⟨g17769, rfl, hI17770, hF17771, rfl, hr17773⟩
        refine At.stn ?_
        have hF17774 := Fr.tr hF17765 hF17771 rfl rfl
        have tok17775_ := hr17773.2
        rw [TX.c ((hF17762.2.1 175 (by decide))), nX.c ((hF17762.1 174 1 (by decide))), rX.c (b := 5) ((hF17762.1 176 5 (by decide)))] at tok17775_
        have tok17775 := TKX.tok o17746 tok17775_
        rw [TX.c (((hF17741.2.1 175 (by decide)).trans ((hF17730.2.1 175 (by decide)).trans (hF17705.2.1 175 (by decide))))), nX.c (((hF17741.1 174 1 (by decide)).trans ((hF17730.1 174 1 (by decide)).trans (hF17705.1 174 1 (by decide)))))] at tok17775
        have hT17776 := hr17773.1
        have x17777 := rX.e hI17761 (b := 4) (((hF17762.1 176 4 (by decide)).trans hv17758))
        obtain ⟨v17778, hv17778⟩ : ∃ v, gI g17769 176 4 = v := ⟨_, rfl⟩
        have rv17778 := RgF.at hI17770.2.1 (p := 176) (b := 4) rfl
        rw [hv17778] at rv17778
        dsimp only at rv17778
        have tv17778 := congrArg Int32.toInt hv17778
        have x17779 := rX.e hI17770 (b := 4) (hv17778)
        refine At.enter rfl ?_
        refine r_aload_n (w_p1 (by decide) (Or.inr rfl) e17709) ?_
        refine r_iconst 2 rfl ?_
        refine r_iload_n (w_p1 (by decide) (Or.inr rfl) e17710) ?_
        have zv17780 : (2 : Int32).toInt = 2 := rfl
        refine r_callV 110 rfl [.ref 176, .int 2, .int a1] [] (Nat.le_of_ble_eq_true rfl) rfl (IHJ _ (by omega) hI17770 2 (by decide) a1 (by omega) (by omega) hT17776) ?_
        rintro _ _ ⟨g17781, rfl, hI17782, hF17783, rfl, hr17785⟩
        refine At.stn ?_
        have hF17786 := Fr.tr hF17774 hF17783 rfl rfl
        have zv17787 : (2 : Int32).toInt = 2 := rfl
        have x17792 := rX.e hI17770 (b := 2) ((((hF17771.1 176 2 (by decide)).trans (hF17762.1 176 2 (by decide))).trans hv17756))
        have x17793 := rX.e hI17770 (b := 4) (hv17778)
        obtain ⟨o17788, o17789, o17790, o17791⟩ := hr17785
        have o17794 := OPD.tc o17790 (((hF17771.2.1 175 (by decide)).trans ((hF17762.2.1 175 (by decide)).trans ((hF17741.2.1 175 (by decide)).trans ((hF17730.2.1 175 (by decide)).trans (hF17705.2.1 175 (by decide))))))) (((hF17771.1 174 1 (by decide)).trans ((hF17762.1 174 1 (by decide)).trans ((hF17741.1 174 1 (by decide)).trans ((hF17730.1 174 1 (by decide)).trans (hF17705.1 174 1 (by decide)))))))
        obtain ⟨v17795, hv17795⟩ : ∃ v, gI g17781 176 2 = v := ⟨_, rfl⟩
        have tv17795 := congrArg Int32.toInt hv17795
        have x17796 := rX.e hI17782 (b := 2) (hv17795)
        obtain ⟨v17797, hv17797⟩ : ∃ v, gI g17781 176 4 = v := ⟨_, rfl⟩
        have rv17797 := RgF.at hI17782.2.1 (p := 176) (b := 4) rfl
        rw [hv17797] at rv17797
        dsimp only at rv17797
        have tv17797 := congrArg Int32.toInt hv17797
        have x17798 := rX.e hI17782 (b := 4) (hv17797)
        refine At.enter rfl ?_
        refine r_aload_n (w_p1 (by decide) (Or.inr rfl) e17709) ?_
        refine q_getR (Sh.ref hI17782.1 kx_176 rfl) ?_
        refine r_iload_n (w_e1 _ _ _) ?_
        refine r_iconst 0 rfl ?_
        refine r_callV 119 rfl [.ref 177, .int v17763, .int 0] [] (Nat.le_of_ble_eq_true rfl) rfl (T_X4_add_177 _ hI17782 v17763 0) ?_
        rintro _ _ ⟨g17799, rfl, hI17800, hF17801, v17802, rfl, hr17803⟩
        refine At.sti ?_
        have hF17804 := Fr.tr hF17786 hF17801 rfl rfl
        refine At.enter rfl ?_
        refine r_pop rfl ?_
        refine Ar.fall 120 rfl ?_
        refine At.enter rfl ?_
        refine r_iload_n (w_p1 (by decide) (Or.inr rfl) e17711) ?_
        refine r_ifs 124 rfl (fun c17805 => ?_) (fun c17805 => ?_)
        · have c17805_ : x17701.toInt = 0 := en_k_eq_t c17805
          refine At.enter rfl ?_
          refine r_vret ?_
          have x17806 := rX.e hI17800 (b := 2) (((hF17801.1 176 2 (by decide)).trans hv17795))
          have x17807 := rX.e hI17800 (b := 4) (((hF17801.1 176 4 (by decide)).trans hv17797))
          obtain ⟨v17808, hv17808⟩ : ∃ v, gI g17781 176 6 = v := ⟨_, rfl⟩
          have tv17808 := congrArg Int32.toInt hv17808
          have x17809 := rX.e hI17800 (b := 6) (((hF17801.1 176 6 (by decide)).trans hv17808))
          obtain ⟨v17810, hv17810⟩ : ∃ v, gI g0 176 2 = v := ⟨_, rfl⟩
          have tv17810 := congrArg Int32.toInt hv17810
          have x17811 := rX.e hI0 (b := 2) (hv17810)
          have x17812 := rX.e hI0 (b := 4) (hv17721)
          have x17813 := rX.e hI17704 (b := 2) (hv17750)
          have x17814 := rX.e hI17704 (b := 4) (hv17724)
          have x17815 := rX.e hI17740 (b := 2) (hv17756)
          have x17816 := rX.e hI17740 (b := 4) (hv17758)
          obtain ⟨v17817, hv17817⟩ : ∃ v, gI g17739 176 6 = v := ⟨_, rfl⟩
          have tv17817 := congrArg Int32.toInt hv17817
          have x17818 := rX.e hI17740 (b := 6) (hv17817)
          have x17819 := rX.e hI17770 (b := 2) ((((hF17771.1 176 2 (by decide)).trans (hF17762.1 176 2 (by decide))).trans hv17756))
          have x17820 := rX.e hI17770 (b := 4) (hv17778)
          have x17821 := rX.e hI17770 (b := 6) ((((hF17771.1 176 6 (by decide)).trans (hF17762.1 176 6 (by decide))).trans hv17817))
          have x17822 := rX.e hI17782 (b := 2) (hv17795)
          have x17823 := rX.e hI17782 (b := 4) (hv17797)
          have x17824 := rX.e hI17782 (b := 6) (hv17808)
          exact ⟨_, rfl, hI17800, hF17804, rfl, ⟨(TKX.c o17788 ((hF17801.2.1 175 (by decide))) ((hF17801.1 174 1 (by decide))) ((hF17801.1 176 3 (by decide))) ((hF17801.1 176 4 (by decide))) ((hF17801.1 176 5 (by decide)))), ((PRG0.tr ((PRG0.tr ((PRG0.tr ((PRG0.tr (q17717) (o17754))) (PRG0.step o17746 tok17775_ (rX.c (b := 2) (((hF17771.1 176 2 (by decide)).trans (hF17762.1 176 2 (by decide))))) (by omega)))) (o17789))) (PRG0.eq (rX.c (b := 4) ((hF17801.1 176 4 (by decide)))) (rX.c (b := 2) ((hF17801.1 176 2 (by decide))))))).le (by omega), PLO.cmp q17716 (TKX.someC q17715 ((hF17705.2.1 175 (by decide))) ((hF17705.1 174 1 (by decide)))).choose_spec (by omega) o17755 tok17775 (by omega) (rX.c (b := 2) (((hF17771.1 176 2 (by decide)).trans (hF17762.1 176 2 (by decide))))) (rX.c (b := 6) (((hF17771.1 176 6 (by decide)).trans (hF17762.1 176 6 (by decide))))) o17794 (TKX.someC o17788 (((hF17783.2.1 175 (by decide)).trans ((hF17771.2.1 175 (by decide)).trans ((hF17762.2.1 175 (by decide)).trans ((hF17741.2.1 175 (by decide)).trans ((hF17730.2.1 175 (by decide)).trans (hF17705.2.1 175 (by decide)))))))) (((hF17783.1 174 1 (by decide)).trans ((hF17771.1 174 1 (by decide)).trans ((hF17762.1 174 1 (by decide)).trans ((hF17741.1 174 1 (by decide)).trans ((hF17730.1 174 1 (by decide)).trans (hF17705.1 174 1 (by decide))))))))).choose_spec o17791 (rX.c (b := 2) ((hF17801.1 176 2 (by decide)))) (rX.c (b := 4) ((hF17801.1 176 4 (by decide)))) (rX.c (b := 6) ((hF17801.1 176 6 (by decide))))⟩⟩
        · have c17805_ : x17701.toInt ≠ 0 := en_k_eq_f c17805
          refine At.enter rfl ?_
          refine r_aload_n (w_p1 (by decide) (Or.inr rfl) e17709) ?_
          refine q_getR (Sh.ref hI17800.1 kx_176 rfl) ?_
          refine r_bipush 9 rfl ?_
          refine r_iconst 0 rfl ?_
          refine r_callV 134 rfl [.ref 177, .int 9, .int 0] [] (Nat.le_of_ble_eq_true rfl) rfl (T_X4_add_177 _ hI17800 9 0) ?_
          rintro _ _ ⟨g17825, rfl, hI17826, hF17827, v17828, rfl, hr17829⟩
          refine At.sti ?_
          have hF17830 := Fr.tr hF17804 hF17827 rfl rfl
          refine At.enter rfl ?_
          refine r_pop rfl ?_
          refine Ar.fall 135 rfl ?_
          refine At.enter rfl ?_
          refine r_vret ?_
          have x17831 := rX.e hI17826 (b := 2) ((((hF17827.1 176 2 (by decide)).trans (hF17801.1 176 2 (by decide))).trans hv17795))
          have x17832 := rX.e hI17826 (b := 4) ((((hF17827.1 176 4 (by decide)).trans (hF17801.1 176 4 (by decide))).trans hv17797))
          obtain ⟨v17833, hv17833⟩ : ∃ v, gI g17781 176 6 = v := ⟨_, rfl⟩
          have tv17833 := congrArg Int32.toInt hv17833
          have x17834 := rX.e hI17826 (b := 6) ((((hF17827.1 176 6 (by decide)).trans (hF17801.1 176 6 (by decide))).trans hv17833))
          obtain ⟨v17835, hv17835⟩ : ∃ v, gI g0 176 2 = v := ⟨_, rfl⟩
          have tv17835 := congrArg Int32.toInt hv17835
          have x17836 := rX.e hI0 (b := 2) (hv17835)
          have x17837 := rX.e hI0 (b := 4) (hv17721)
          have x17838 := rX.e hI17704 (b := 2) (hv17750)
          have x17839 := rX.e hI17704 (b := 4) (hv17724)
          have x17840 := rX.e hI17740 (b := 2) (hv17756)
          have x17841 := rX.e hI17740 (b := 4) (hv17758)
          obtain ⟨v17842, hv17842⟩ : ∃ v, gI g17739 176 6 = v := ⟨_, rfl⟩
          have tv17842 := congrArg Int32.toInt hv17842
          have x17843 := rX.e hI17740 (b := 6) (hv17842)
          have x17844 := rX.e hI17770 (b := 2) ((((hF17771.1 176 2 (by decide)).trans (hF17762.1 176 2 (by decide))).trans hv17756))
          have x17845 := rX.e hI17770 (b := 4) (hv17778)
          have x17846 := rX.e hI17770 (b := 6) ((((hF17771.1 176 6 (by decide)).trans (hF17762.1 176 6 (by decide))).trans hv17842))
          have x17847 := rX.e hI17782 (b := 2) (hv17795)
          have x17848 := rX.e hI17782 (b := 4) (hv17797)
          have x17849 := rX.e hI17782 (b := 6) (hv17833)
          exact ⟨_, rfl, hI17826, hF17830, rfl, ⟨(TKX.c o17788 (((hF17827.2.1 175 (by decide)).trans (hF17801.2.1 175 (by decide)))) (((hF17827.1 174 1 (by decide)).trans (hF17801.1 174 1 (by decide)))) (((hF17827.1 176 3 (by decide)).trans (hF17801.1 176 3 (by decide)))) (((hF17827.1 176 4 (by decide)).trans (hF17801.1 176 4 (by decide)))) (((hF17827.1 176 5 (by decide)).trans (hF17801.1 176 5 (by decide))))), ((PRG0.tr ((PRG0.tr ((PRG0.tr ((PRG0.tr (q17717) (o17754))) (PRG0.step o17746 tok17775_ (rX.c (b := 2) (((hF17771.1 176 2 (by decide)).trans (hF17762.1 176 2 (by decide))))) (by omega)))) (o17789))) (PRG0.eq (rX.c (b := 4) (((hF17827.1 176 4 (by decide)).trans (hF17801.1 176 4 (by decide))))) (rX.c (b := 2) (((hF17827.1 176 2 (by decide)).trans (hF17801.1 176 2 (by decide)))))))).le (by omega), PLO.cmp q17716 (TKX.someC q17715 ((hF17705.2.1 175 (by decide))) ((hF17705.1 174 1 (by decide)))).choose_spec (by omega) o17755 tok17775 (by omega) (rX.c (b := 2) (((hF17771.1 176 2 (by decide)).trans (hF17762.1 176 2 (by decide))))) (rX.c (b := 6) (((hF17771.1 176 6 (by decide)).trans (hF17762.1 176 6 (by decide))))) o17794 (TKX.someC o17788 (((hF17783.2.1 175 (by decide)).trans ((hF17771.2.1 175 (by decide)).trans ((hF17762.2.1 175 (by decide)).trans ((hF17741.2.1 175 (by decide)).trans ((hF17730.2.1 175 (by decide)).trans (hF17705.2.1 175 (by decide)))))))) (((hF17783.1 174 1 (by decide)).trans ((hF17771.1 174 1 (by decide)).trans ((hF17762.1 174 1 (by decide)).trans ((hF17741.1 174 1 (by decide)).trans ((hF17730.1 174 1 (by decide)).trans (hF17705.1 174 1 (by decide))))))))).choose_spec o17791 (rX.c (b := 2) (((hF17827.1 176 2 (by decide)).trans (hF17801.1 176 2 (by decide))))) (rX.c (b := 4) (((hF17827.1 176 4 (by decide)).trans (hF17801.1 176 4 (by decide))))) (rX.c (b := 6) (((hF17827.1 176 6 (by decide)).trans (hF17801.1 176 6 (by decide)))))⟩⟩
      · have c17767_ : v17763.toInt = (-1) := en_i_ne_f c17767
        have i17850 := BLN.no hb17766 (by omega)
        refine At.enter rfl ?_
        refine r_aload_n (w_p1 (by decide) (Or.inr rfl) e17709) ?_
        refine q_inlV 99 rfl [.ref 176] [] (Nat.le_of_ble_eq_true rfl) rfl ?_
        refine Ev.mk rfl rfl ⟨Nat.le_of_ble_eq_true rfl, Or.inr (q_rc hI17761.1 kx_176 rfl)⟩ ?_
        show At _ none _ _ (0, [(0, .ref 176)], [], (_, _)) _
        refine At.enter rfl ?_
        refine r_aload_n rfl ?_
        refine q_getI (Sh.int hI17761.1 kx_176 rfl) v17756 ((hF17762.1 176 2 (by decide)).trans hv17756) ?_
        refine r_iconst (-1) rfl ?_
        refine r_ics 8 rfl (fun c17851 => ?_) (fun c17851 => ?_)
        · have c17851_ : v17756.toInt ≠ (-1) := en_i_ne_t c17851
          refine At.enter rfl ?_
          refine q_vret ?_
          refine At.enter rfl ?_
          refine r_vret ?_
          have x17852 := rX.e hI17761 (b := 2) (((hF17762.1 176 2 (by decide)).trans hv17756))
          have x17853 := rX.e hI17761 (b := 4) (((hF17762.1 176 4 (by decide)).trans hv17758))
          obtain ⟨v17854, hv17854⟩ : ∃ v, gI g17739 176 6 = v := ⟨_, rfl⟩
          have tv17854 := congrArg Int32.toInt hv17854
          have x17855 := rX.e hI17761 (b := 6) (((hF17762.1 176 6 (by decide)).trans hv17854))
          obtain ⟨v17856, hv17856⟩ : ∃ v, gI g0 176 2 = v := ⟨_, rfl⟩
          have tv17856 := congrArg Int32.toInt hv17856
          have x17857 := rX.e hI0 (b := 2) (hv17856)
          have x17858 := rX.e hI0 (b := 4) (hv17721)
          have x17859 := rX.e hI17704 (b := 2) (hv17750)
          have x17860 := rX.e hI17704 (b := 4) (hv17724)
          have x17861 := rX.e hI17740 (b := 2) (hv17756)
          have x17862 := rX.e hI17740 (b := 4) (hv17758)
          have x17863 := rX.e hI17740 (b := 6) (hv17854)
          exact ⟨_, rfl, hI17761, hF17765, rfl, ⟨(TKX.c o17746 ((hF17762.2.1 175 (by decide))) ((hF17762.1 174 1 (by decide))) ((hF17762.1 176 3 (by decide))) ((hF17762.1 176 4 (by decide))) ((hF17762.1 176 5 (by decide)))), ((PRG0.tr ((PRG0.tr (q17717) (o17754))) (PRG0.fail 1 (rX.c (b := 4) ((hF17762.1 176 4 (by decide)))) (fun _ => by omega) (fun _ => by omega) (by omega)))).le (by omega), PLO.cmpF q17716 (TKX.someC q17715 ((hF17705.2.1 175 (by decide))) ((hF17705.1 174 1 (by decide)))).choose_spec (by omega) o17755 (TKX.someC o17746 (((hF17741.2.1 175 (by decide)).trans ((hF17730.2.1 175 (by decide)).trans (hF17705.2.1 175 (by decide))))) (((hF17741.1 174 1 (by decide)).trans ((hF17730.1 174 1 (by decide)).trans (hF17705.1 174 1 (by decide)))))).choose_spec o17749 (by omega) (fun _ => by omega) (fun _ => by omega) (by omega)⟩⟩
        · have c17851_ : v17756.toInt = (-1) := en_i_ne_f c17851
          refine At.enter rfl ?_
          refine r_aload_n rfl ?_
          refine r_aload_n rfl ?_
          refine q_getI (Sh.int hI17761.1 kx_176 rfl) v17758 ((hF17762.1 176 4 (by decide)).trans hv17758) ?_
          refine q_putI (Sh.int hI17761.1 kx_176 rfl) rfl ?_
          have hI17864 := HI.wI0 hI17761 kx_176 rfl (p := 176) (b := 2) (v := v17758) rfl
          have hF17865 := Fr.wI (p := 176) (b := 2) (v := v17758) hF17765 rfl
          refine Ar.fall 16 rfl ?_
          refine At.enter rfl ?_
          refine q_vret ?_
          refine At.enter rfl ?_
          refine r_vret ?_
          have x17866 := rX.e hI17864 (b := 2) ((gI_sI_eq hI17761.1 kx_176 rfl _))
          have x17867 := rX.e hI17864 (b := 4) ((((gI_sI_ne (by decide)).trans (hF17762.1 176 4 (by decide))).trans hv17758))
          obtain ⟨v17868, hv17868⟩ : ∃ v, gI g17739 176 6 = v := ⟨_, rfl⟩
          have tv17868 := congrArg Int32.toInt hv17868
          have x17869 := rX.e hI17864 (b := 6) ((((gI_sI_ne (by decide)).trans (hF17762.1 176 6 (by decide))).trans hv17868))
          obtain ⟨v17870, hv17870⟩ : ∃ v, gI g0 176 2 = v := ⟨_, rfl⟩
          have tv17870 := congrArg Int32.toInt hv17870
          have x17871 := rX.e hI0 (b := 2) (hv17870)
          have x17872 := rX.e hI0 (b := 4) (hv17721)
          have x17873 := rX.e hI17704 (b := 2) (hv17750)
          have x17874 := rX.e hI17704 (b := 4) (hv17724)
          have x17875 := rX.e hI17740 (b := 2) (hv17756)
          have x17876 := rX.e hI17740 (b := 4) (hv17758)
          have x17877 := rX.e hI17740 (b := 6) (hv17868)
          exact ⟨_, rfl, hI17864, hF17865, rfl, ⟨(TKX.c o17746 (((gA_sI).trans (hF17762.2.1 175 (by decide)))) (((gI_sI_ne (by decide)).trans (hF17762.1 174 1 (by decide)))) (((gI_sI_ne (by decide)).trans (hF17762.1 176 3 (by decide)))) (((gI_sI_ne (by decide)).trans (hF17762.1 176 4 (by decide)))) (((gI_sI_ne (by decide)).trans (hF17762.1 176 5 (by decide))))), ((PRG0.tr ((PRG0.tr (q17717) (o17754))) (PRG0.fail 1 (rX.c (b := 4) (((gI_sI_ne (by decide)).trans (hF17762.1 176 4 (by decide))))) (fun _ => by omega) (fun _ => by omega) (by omega)))).le (by omega), PLO.cmpF q17716 (TKX.someC q17715 ((hF17705.2.1 175 (by decide))) ((hF17705.1 174 1 (by decide)))).choose_spec (by omega) o17755 (TKX.someC o17746 (((hF17741.2.1 175 (by decide)).trans ((hF17730.2.1 175 (by decide)).trans (hF17705.2.1 175 (by decide))))) (((hF17741.1 174 1 (by decide)).trans ((hF17730.1 174 1 (by decide)).trans (hF17705.1 174 1 (by decide)))))).choose_spec o17749 (by omega) (fun _ => by omega) (fun _ => by omega) (by omega)⟩⟩
    · have c17736_ : v17731.toInt ≠ 0 := en_k_eq_f c17736
      have i17878 := BL.yes hb17735 (by omega)
      refine At.enter rfl ?_
      refine r_aload_n e17709 ?_
      refine r_iload_n e17710 ?_
      refine q_inlV 54 rfl [.ref 176, .int a1] [] (Nat.le_of_ble_eq_true rfl) rfl ?_
      refine Ev.mk rfl rfl ⟨Nat.le_of_ble_eq_true rfl, Or.inr (q_rc hI17729.1 kx_176 rfl)⟩ ?_
      show At _ none _ _ (0, [(0, .ref 176), (1, .int a1)], [], (_, _)) _
      refine At.enter rfl ?_
      refine r_iload_n rfl ?_
      refine r_bipush 8 rfl ?_
      refine r_ics 6 rfl (fun c17879 => ?_) (fun c17879 => ?_)
      · have c17879_ : a1.toInt < 8 := en_i_lt_t c17879
        refine At.enter rfl ?_
        refine r_aload_n rfl ?_
        refine r_callV 17 rfl [.ref 176] [] (Nat.le_of_ble_eq_true rfl) rfl (T_X5_step_176 _ hI17729 (TKX.c q17715 ((hF17730.2.1 175 (by decide))) ((hF17730.1 174 1 (by decide))) ((hF17730.1 176 3 (by decide))) ((hF17730.1 176 4 (by decide))) ((hF17730.1 176 5 (by decide)))).1 (TKX.c q17715 ((hF17730.2.1 175 (by decide))) ((hF17730.1 174 1 (by decide))) ((hF17730.1 176 3 (by decide))) ((hF17730.1 176 4 (by decide))) ((hF17730.1 176 5 (by decide)))).2.1.le.2.1) ?_
        rintro _ _ ⟨g17880, rfl, hI17881, hF17882, rfl, hr17884⟩
        refine At.stn ?_
        have hF17885 := Fr.tr hF17733 hF17882 rfl rfl
        have tok17886_ := hr17884.2
        rw [TX.c ((hF17730.2.1 175 (by decide))), nX.c ((hF17730.1 174 1 (by decide))), rX.c (b := 5) ((hF17730.1 176 5 (by decide)))] at tok17886_
        have tok17886 := TKX.tok q17715 tok17886_
        rw [TX.c ((hF17705.2.1 175 (by decide))), nX.c ((hF17705.1 174 1 (by decide)))] at tok17886
        have hT17887 := hr17884.1
        have x17888 := rX.e hI17729 (b := 4) (((hF17730.1 176 4 (by decide)).trans hv17724))
        obtain ⟨v17889, hv17889⟩ : ∃ v, gI g17880 176 4 = v := ⟨_, rfl⟩
        have rv17889 := RgF.at hI17881.2.1 (p := 176) (b := 4) rfl
        rw [hv17889] at rv17889
        dsimp only at rv17889
        have tv17889 := congrArg Int32.toInt hv17889
        have x17890 := rX.e hI17881 (b := 4) (hv17889)
        refine At.enter rfl ?_
        refine q_vret ?_
        refine At.enter rfl ?_
        refine r_aload_n e17709 ?_
        obtain ⟨v17891, hv17891⟩ : ∃ v, gI g17703 176 2 = v := ⟨_, rfl⟩
        refine q_getI (Sh.int hI17881.1 kx_176 rfl) v17891 (((hF17882.1 176 2 (by decide)).trans (hF17730.1 176 2 (by decide))).trans hv17891) ?_
        refine r_iconst (-1) rfl ?_
        refine r_ics 62 rfl (fun c17892 => ?_) (fun c17892 => ?_)
        · have c17892_ : v17891.toInt ≠ (-1) := en_i_ne_t c17892
          refine At.enter rfl ?_
          refine r_iload_n e17711 ?_
          refine r_ifs 124 rfl (fun c17893 => ?_) (fun c17893 => ?_)
          · have c17893_ : x17701.toInt = 0 := en_k_eq_t c17893
            refine At.enter rfl ?_
            refine r_vret ?_
            have x17894 := rX.e hI17881 (b := 2) ((((hF17882.1 176 2 (by decide)).trans (hF17730.1 176 2 (by decide))).trans hv17891))
            have x17895 := rX.e hI17881 (b := 4) (hv17889)
            obtain ⟨v17896, hv17896⟩ : ∃ v, gI g17703 176 6 = v := ⟨_, rfl⟩
            have tv17896 := congrArg Int32.toInt hv17896
            have x17897 := rX.e hI17881 (b := 6) ((((hF17882.1 176 6 (by decide)).trans (hF17730.1 176 6 (by decide))).trans hv17896))
            obtain ⟨v17898, hv17898⟩ : ∃ v, gI g0 176 2 = v := ⟨_, rfl⟩
            have tv17898 := congrArg Int32.toInt hv17898
            have x17899 := rX.e hI0 (b := 2) (hv17898)
            have x17900 := rX.e hI0 (b := 4) (hv17721)
            have x17901 := rX.e hI17704 (b := 2) (hv17891)
            have x17902 := rX.e hI17704 (b := 4) (hv17724)
            have x17903 := rX.e hI17881 (b := 2) ((((hF17882.1 176 2 (by decide)).trans (hF17730.1 176 2 (by decide))).trans hv17891))
            have x17904 := rX.e hI17881 (b := 4) (hv17889)
            have x17905 := rX.e hI17881 (b := 6) ((((hF17882.1 176 6 (by decide)).trans (hF17730.1 176 6 (by decide))).trans hv17896))
            exact ⟨_, rfl, hI17881, hF17885, rfl, ⟨hT17887, ((PRG0.tr ((PRG0.tr (q17717) (PRG0.step q17715 tok17886_ (rX.c (b := 2) (((hF17882.1 176 2 (by decide)).trans (hF17730.1 176 2 (by decide))))) (by omega)))) (PRG0.eq rfl rfl))).le (by omega), PLO.bad (g1 := g17703) q17716 (by omega) (rX.c (b := 2) (((hF17882.1 176 2 (by decide)).trans (hF17730.1 176 2 (by decide)))))⟩⟩
          · have c17893_ : x17701.toInt ≠ 0 := en_k_eq_f c17893
            refine At.enter rfl ?_
            refine r_aload_n e17709 ?_
            refine q_getR (Sh.ref hI17881.1 kx_176 rfl) ?_
            refine r_bipush 9 rfl ?_
            refine r_iconst 0 rfl ?_
            refine r_callV 134 rfl [.ref 177, .int 9, .int 0] [] (Nat.le_of_ble_eq_true rfl) rfl (T_X4_add_177 _ hI17881 9 0) ?_
            rintro _ _ ⟨g17906, rfl, hI17907, hF17908, v17909, rfl, hr17910⟩
            refine At.sti ?_
            have hF17911 := Fr.tr hF17885 hF17908 rfl rfl
            refine At.enter rfl ?_
            refine r_pop rfl ?_
            refine Ar.fall 135 rfl ?_
            refine At.enter rfl ?_
            refine r_vret ?_
            have x17912 := rX.e hI17907 (b := 2) ((((hF17908.1 176 2 (by decide)).trans ((hF17882.1 176 2 (by decide)).trans (hF17730.1 176 2 (by decide)))).trans hv17891))
            have x17913 := rX.e hI17907 (b := 4) (((hF17908.1 176 4 (by decide)).trans hv17889))
            obtain ⟨v17914, hv17914⟩ : ∃ v, gI g17703 176 6 = v := ⟨_, rfl⟩
            have tv17914 := congrArg Int32.toInt hv17914
            have x17915 := rX.e hI17907 (b := 6) ((((hF17908.1 176 6 (by decide)).trans ((hF17882.1 176 6 (by decide)).trans (hF17730.1 176 6 (by decide)))).trans hv17914))
            obtain ⟨v17916, hv17916⟩ : ∃ v, gI g0 176 2 = v := ⟨_, rfl⟩
            have tv17916 := congrArg Int32.toInt hv17916
            have x17917 := rX.e hI0 (b := 2) (hv17916)
            have x17918 := rX.e hI0 (b := 4) (hv17721)
            have x17919 := rX.e hI17704 (b := 2) (hv17891)
            have x17920 := rX.e hI17704 (b := 4) (hv17724)
            have x17921 := rX.e hI17881 (b := 2) ((((hF17882.1 176 2 (by decide)).trans (hF17730.1 176 2 (by decide))).trans hv17891))
            have x17922 := rX.e hI17881 (b := 4) (hv17889)
            have x17923 := rX.e hI17881 (b := 6) ((((hF17882.1 176 6 (by decide)).trans (hF17730.1 176 6 (by decide))).trans hv17914))
            exact ⟨_, rfl, hI17907, hF17911, rfl, ⟨(TKX.c hT17887 ((hF17908.2.1 175 (by decide))) ((hF17908.1 174 1 (by decide))) ((hF17908.1 176 3 (by decide))) ((hF17908.1 176 4 (by decide))) ((hF17908.1 176 5 (by decide)))), ((PRG0.tr ((PRG0.tr (q17717) (PRG0.step q17715 tok17886_ (rX.c (b := 2) (((hF17882.1 176 2 (by decide)).trans (hF17730.1 176 2 (by decide))))) (by omega)))) (PRG0.eq (rX.c (b := 4) ((hF17908.1 176 4 (by decide)))) (rX.c (b := 2) ((hF17908.1 176 2 (by decide))))))).le (by omega), PLO.bad (g1 := g17703) q17716 (by omega) (rX.c (b := 2) (((hF17908.1 176 2 (by decide)).trans ((hF17882.1 176 2 (by decide)).trans (hF17730.1 176 2 (by decide))))))⟩⟩
        · have c17892_ : v17891.toInt = (-1) := en_i_ne_f c17892
          refine At.enter rfl ?_
          refine r_aload_n e17709 ?_
          refine r_iconst 0 rfl ?_
          refine r_iload_n e17710 ?_
          refine r_iconst 1 rfl ?_
          refine q_iadd (a1.toInt + 1) rfl (by omega) (fun v17924 hv17924 => ?_)
          have zv17925 : (0 : Int32).toInt = 0 := rfl
          refine r_callV 70 rfl [.ref 176, .int 0, .int v17924] [] (Nat.le_of_ble_eq_true rfl) rfl (IHJ _ (by omega) hI17881 0 (by decide) v17924 (by omega) (by omega) hT17887) ?_
          rintro _ _ ⟨g17926, rfl, hI17927, hF17928, rfl, hr17930⟩
          refine At.stn ?_
          have hF17931 := Fr.tr hF17885 hF17928 rfl rfl
          have zv17932 : (0 : Int32).toInt = 0 := rfl
          have x17937 := rX.e hI17881 (b := 2) ((((hF17882.1 176 2 (by decide)).trans (hF17730.1 176 2 (by decide))).trans hv17891))
          have x17938 := rX.e hI17881 (b := 4) (hv17889)
          obtain ⟨o17933, o17934, o17935, o17936⟩ := hr17930
          have o17939 := OPD.tc o17935 (((hF17882.2.1 175 (by decide)).trans ((hF17730.2.1 175 (by decide)).trans (hF17705.2.1 175 (by decide))))) (((hF17882.1 174 1 (by decide)).trans ((hF17730.1 174 1 (by decide)).trans (hF17705.1 174 1 (by decide)))))
          obtain ⟨v17940, hv17940⟩ : ∃ v, gI g17926 176 2 = v := ⟨_, rfl⟩
          have tv17940 := congrArg Int32.toInt hv17940
          have x17941 := rX.e hI17927 (b := 2) (hv17940)
          obtain ⟨v17942, hv17942⟩ : ∃ v, gI g17926 176 4 = v := ⟨_, rfl⟩
          have rv17942 := RgF.at hI17927.2.1 (p := 176) (b := 4) rfl
          rw [hv17942] at rv17942
          dsimp only at rv17942
          have tv17942 := congrArg Int32.toInt hv17942
          have x17943 := rX.e hI17927 (b := 4) (hv17942)
          refine At.enter rfl ?_
          refine r_aload_n e17709 ?_
          refine r_bipush 41 rfl ?_
          refine q_inlV 76 rfl [.ref 176, .int 41] [] (Nat.le_of_ble_eq_true rfl) rfl ?_
          refine Ev.mk rfl rfl ⟨Nat.le_of_ble_eq_true rfl, Or.inr (q_rc hI17927.1 kx_176 rfl)⟩ ?_
          show At _ none _ _ (0, [(0, .ref 176), (1, .int 41)], [], (_, _)) _
          refine At.enter rfl ?_
          refine r_aload_n rfl ?_
          refine r_iload_n rfl ?_
          refine r_callV 5 rfl [.ref 176, .int 41] [] (Nat.le_of_ble_eq_true rfl) rfl (T_X5_isSingle_176 _ hI17927 41 (by decide)) ?_
          rintro _ _ ⟨g17944, rfl, hI17945, hF17946, v17947, rfl, hr17948⟩
          refine At.sti ?_
          have hF17949 := Fr.tr hF17931 hF17946 rfl rfl
          have zv17950 : (41 : Int32).toInt = 41 := rfl
          have hb17951 : BL (CDX g17926 = 9) v17947.toInt := ISX.code (c := 9) hr17948.2 o17933 (isSC_d (by omega)) (by decide)
          refine At.enter rfl ?_
          refine r_ifs 8 rfl (fun c17952 => ?_) (fun c17952 => ?_)
          · have c17952_ : v17947.toInt = 0 := en_k_eq_t c17952
            have i17953 := BL.no hb17951 (by omega)
            refine At.enter rfl ?_
            refine r_aload_n rfl ?_
            refine q_inlV 19 rfl [.ref 176] [] (Nat.le_of_ble_eq_true rfl) rfl ?_
            refine Ev.mk rfl rfl ⟨Nat.le_of_ble_eq_true rfl, Or.inr (q_rc hI17945.1 kx_176 rfl)⟩ ?_
            show At _ none _ _ (0, [(0, .ref 176)], [], (_, _)) _
            refine At.enter rfl ?_
            refine r_aload_n rfl ?_
            refine q_getI (Sh.int hI17945.1 kx_176 rfl) v17940 ((hF17946.1 176 2 (by decide)).trans hv17940) ?_
            refine r_iconst (-1) rfl ?_
            refine r_ics 8 rfl (fun c17954 => ?_) (fun c17954 => ?_)
            · have c17954_ : v17940.toInt ≠ (-1) := en_i_ne_t c17954
              refine At.enter rfl ?_
              refine q_vret ?_
              refine At.enter rfl ?_
              refine q_vret ?_
              refine At.enter rfl ?_
              refine r_goto ?_
              refine At.enter rfl ?_
              refine r_iload_n e17711 ?_
              refine r_ifs 124 rfl (fun c17955 => ?_) (fun c17955 => ?_)
              · have c17955_ : x17701.toInt = 0 := en_k_eq_t c17955
                refine At.enter rfl ?_
                refine r_vret ?_
                have x17956 := rX.e hI17945 (b := 2) (((hF17946.1 176 2 (by decide)).trans hv17940))
                have x17957 := rX.e hI17945 (b := 4) (((hF17946.1 176 4 (by decide)).trans hv17942))
                obtain ⟨v17958, hv17958⟩ : ∃ v, gI g17926 176 6 = v := ⟨_, rfl⟩
                have tv17958 := congrArg Int32.toInt hv17958
                have x17959 := rX.e hI17945 (b := 6) (((hF17946.1 176 6 (by decide)).trans hv17958))
                obtain ⟨v17960, hv17960⟩ : ∃ v, gI g0 176 2 = v := ⟨_, rfl⟩
                have tv17960 := congrArg Int32.toInt hv17960
                have x17961 := rX.e hI0 (b := 2) (hv17960)
                have x17962 := rX.e hI0 (b := 4) (hv17721)
                have x17963 := rX.e hI17704 (b := 2) (hv17891)
                have x17964 := rX.e hI17704 (b := 4) (hv17724)
                have x17965 := rX.e hI17881 (b := 2) ((((hF17882.1 176 2 (by decide)).trans (hF17730.1 176 2 (by decide))).trans hv17891))
                have x17966 := rX.e hI17881 (b := 4) (hv17889)
                obtain ⟨v17967, hv17967⟩ : ∃ v, gI g17703 176 6 = v := ⟨_, rfl⟩
                have tv17967 := congrArg Int32.toInt hv17967
                have x17968 := rX.e hI17881 (b := 6) ((((hF17882.1 176 6 (by decide)).trans (hF17730.1 176 6 (by decide))).trans hv17967))
                have x17969 := rX.e hI17927 (b := 2) (hv17940)
                have x17970 := rX.e hI17927 (b := 4) (hv17942)
                have x17971 := rX.e hI17927 (b := 6) (hv17958)
                exact ⟨_, rfl, hI17945, hF17949, rfl, ⟨(TKX.c o17933 ((hF17946.2.1 175 (by decide))) ((hF17946.1 174 1 (by decide))) ((hF17946.1 176 3 (by decide))) ((hF17946.1 176 4 (by decide))) ((hF17946.1 176 5 (by decide)))), ((PRG0.tr ((PRG0.tr ((PRG0.tr (q17717) (PRG0.step q17715 tok17886_ (rX.c (b := 2) (((hF17882.1 176 2 (by decide)).trans (hF17730.1 176 2 (by decide))))) (by omega)))) (o17934))) (PRG0.fail 1 (rX.c (b := 4) ((hF17946.1 176 4 (by decide)))) (fun _ => by omega) (fun _ => by omega) (by omega)))).le (by omega), PLO.rndF q17716 tok17886 (by omega) (by omega) (rX.c (b := 2) (((hF17882.1 176 2 (by decide)).trans (hF17730.1 176 2 (by decide))))) (rX.c (b := 6) (((hF17882.1 176 6 (by decide)).trans (hF17730.1 176 6 (by decide))))) (OPD.cast o17939 rfl (by omega)) (TKX.someC o17933 (((hF17928.2.1 175 (by decide)).trans ((hF17882.2.1 175 (by decide)).trans ((hF17730.2.1 175 (by decide)).trans (hF17705.2.1 175 (by decide)))))) (((hF17928.1 174 1 (by decide)).trans ((hF17882.1 174 1 (by decide)).trans ((hF17730.1 174 1 (by decide)).trans (hF17705.1 174 1 (by decide))))))).choose_spec o17936 (by omega) (fun _ => by omega) (fun _ => by omega) (by omega)⟩⟩
              · have c17955_ : x17701.toInt ≠ 0 := en_k_eq_f c17955
                refine At.enter rfl ?_
                refine r_aload_n e17709 ?_
                refine q_getR (Sh.ref hI17945.1 kx_176 rfl) ?_
                refine r_bipush 9 rfl ?_
                refine r_iconst 0 rfl ?_
                refine r_callV 134 rfl [.ref 177, .int 9, .int 0] [] (Nat.le_of_ble_eq_true rfl) rfl (T_X4_add_177 _ hI17945 9 0) ?_
                rintro _ _ ⟨g17972, rfl, hI17973, hF17974, v17975, rfl, hr17976⟩
                refine At.sti ?_
                have hF17977 := Fr.tr hF17949 hF17974 rfl rfl
                refine At.enter rfl ?_
                refine r_pop rfl ?_
                refine Ar.fall 135 rfl ?_
                refine At.enter rfl ?_
                refine r_vret ?_
                have x17978 := rX.e hI17973 (b := 2) ((((hF17974.1 176 2 (by decide)).trans (hF17946.1 176 2 (by decide))).trans hv17940))
                have x17979 := rX.e hI17973 (b := 4) ((((hF17974.1 176 4 (by decide)).trans (hF17946.1 176 4 (by decide))).trans hv17942))
                obtain ⟨v17980, hv17980⟩ : ∃ v, gI g17926 176 6 = v := ⟨_, rfl⟩
                have tv17980 := congrArg Int32.toInt hv17980
                have x17981 := rX.e hI17973 (b := 6) ((((hF17974.1 176 6 (by decide)).trans (hF17946.1 176 6 (by decide))).trans hv17980))
                obtain ⟨v17982, hv17982⟩ : ∃ v, gI g0 176 2 = v := ⟨_, rfl⟩
                have tv17982 := congrArg Int32.toInt hv17982
                have x17983 := rX.e hI0 (b := 2) (hv17982)
                have x17984 := rX.e hI0 (b := 4) (hv17721)
                have x17985 := rX.e hI17704 (b := 2) (hv17891)
                have x17986 := rX.e hI17704 (b := 4) (hv17724)
                have x17987 := rX.e hI17881 (b := 2) ((((hF17882.1 176 2 (by decide)).trans (hF17730.1 176 2 (by decide))).trans hv17891))
                have x17988 := rX.e hI17881 (b := 4) (hv17889)
                obtain ⟨v17989, hv17989⟩ : ∃ v, gI g17703 176 6 = v := ⟨_, rfl⟩
                have tv17989 := congrArg Int32.toInt hv17989
                have x17990 := rX.e hI17881 (b := 6) ((((hF17882.1 176 6 (by decide)).trans (hF17730.1 176 6 (by decide))).trans hv17989))
                have x17991 := rX.e hI17927 (b := 2) (hv17940)
                have x17992 := rX.e hI17927 (b := 4) (hv17942)
                have x17993 := rX.e hI17927 (b := 6) (hv17980)
                exact ⟨_, rfl, hI17973, hF17977, rfl, ⟨(TKX.c o17933 (((hF17974.2.1 175 (by decide)).trans (hF17946.2.1 175 (by decide)))) (((hF17974.1 174 1 (by decide)).trans (hF17946.1 174 1 (by decide)))) (((hF17974.1 176 3 (by decide)).trans (hF17946.1 176 3 (by decide)))) (((hF17974.1 176 4 (by decide)).trans (hF17946.1 176 4 (by decide)))) (((hF17974.1 176 5 (by decide)).trans (hF17946.1 176 5 (by decide))))), ((PRG0.tr ((PRG0.tr ((PRG0.tr (q17717) (PRG0.step q17715 tok17886_ (rX.c (b := 2) (((hF17882.1 176 2 (by decide)).trans (hF17730.1 176 2 (by decide))))) (by omega)))) (o17934))) (PRG0.fail 1 (rX.c (b := 4) (((hF17974.1 176 4 (by decide)).trans (hF17946.1 176 4 (by decide))))) (fun _ => by omega) (fun _ => by omega) (by omega)))).le (by omega), PLO.rndF q17716 tok17886 (by omega) (by omega) (rX.c (b := 2) (((hF17882.1 176 2 (by decide)).trans (hF17730.1 176 2 (by decide))))) (rX.c (b := 6) (((hF17882.1 176 6 (by decide)).trans (hF17730.1 176 6 (by decide))))) (OPD.cast o17939 rfl (by omega)) (TKX.someC o17933 (((hF17928.2.1 175 (by decide)).trans ((hF17882.2.1 175 (by decide)).trans ((hF17730.2.1 175 (by decide)).trans (hF17705.2.1 175 (by decide)))))) (((hF17928.1 174 1 (by decide)).trans ((hF17882.1 174 1 (by decide)).trans ((hF17730.1 174 1 (by decide)).trans (hF17705.1 174 1 (by decide))))))).choose_spec o17936 (by omega) (fun _ => by omega) (fun _ => by omega) (by omega)⟩⟩
            · have c17954_ : v17940.toInt = (-1) := en_i_ne_f c17954
              refine At.enter rfl ?_
              refine r_aload_n rfl ?_
              refine r_aload_n rfl ?_
              refine q_getI (Sh.int hI17945.1 kx_176 rfl) v17942 ((hF17946.1 176 4 (by decide)).trans hv17942) ?_
              refine q_putI (Sh.int hI17945.1 kx_176 rfl) rfl ?_
              have hI17994 := HI.wI0 hI17945 kx_176 rfl (p := 176) (b := 2) (v := v17942) rfl
              have hF17995 := Fr.wI (p := 176) (b := 2) (v := v17942) hF17949 rfl
              refine Ar.fall 16 rfl ?_
              refine At.enter rfl ?_
              refine q_vret ?_
              refine At.enter rfl ?_
              refine q_vret ?_
              refine At.enter rfl ?_
              refine r_goto ?_
              refine At.enter rfl ?_
              refine r_iload_n e17711 ?_
              refine r_ifs 124 rfl (fun c17996 => ?_) (fun c17996 => ?_)
              · have c17996_ : x17701.toInt = 0 := en_k_eq_t c17996
                refine At.enter rfl ?_
                refine r_vret ?_
                have x17997 := rX.e hI17994 (b := 2) ((gI_sI_eq hI17945.1 kx_176 rfl _))
                have x17998 := rX.e hI17994 (b := 4) ((((gI_sI_ne (by decide)).trans (hF17946.1 176 4 (by decide))).trans hv17942))
                obtain ⟨v17999, hv17999⟩ : ∃ v, gI g17926 176 6 = v := ⟨_, rfl⟩
                have tv17999 := congrArg Int32.toInt hv17999
                have x18000 := rX.e hI17994 (b := 6) ((((gI_sI_ne (by decide)).trans (hF17946.1 176 6 (by decide))).trans hv17999))
                obtain ⟨v18001, hv18001⟩ : ∃ v, gI g0 176 2 = v := ⟨_, rfl⟩
                have tv18001 := congrArg Int32.toInt hv18001
                have x18002 := rX.e hI0 (b := 2) (hv18001)
                have x18003 := rX.e hI0 (b := 4) (hv17721)
                have x18004 := rX.e hI17704 (b := 2) (hv17891)
                have x18005 := rX.e hI17704 (b := 4) (hv17724)
                have x18006 := rX.e hI17881 (b := 2) ((((hF17882.1 176 2 (by decide)).trans (hF17730.1 176 2 (by decide))).trans hv17891))
                have x18007 := rX.e hI17881 (b := 4) (hv17889)
                obtain ⟨v18008, hv18008⟩ : ∃ v, gI g17703 176 6 = v := ⟨_, rfl⟩
                have tv18008 := congrArg Int32.toInt hv18008
                have x18009 := rX.e hI17881 (b := 6) ((((hF17882.1 176 6 (by decide)).trans (hF17730.1 176 6 (by decide))).trans hv18008))
                have x18010 := rX.e hI17927 (b := 2) (hv17940)
                have x18011 := rX.e hI17927 (b := 4) (hv17942)
                have x18012 := rX.e hI17927 (b := 6) (hv17999)
                exact ⟨_, rfl, hI17994, hF17995, rfl, ⟨(TKX.c o17933 (((gA_sI).trans (hF17946.2.1 175 (by decide)))) (((gI_sI_ne (by decide)).trans (hF17946.1 174 1 (by decide)))) (((gI_sI_ne (by decide)).trans (hF17946.1 176 3 (by decide)))) (((gI_sI_ne (by decide)).trans (hF17946.1 176 4 (by decide)))) (((gI_sI_ne (by decide)).trans (hF17946.1 176 5 (by decide))))), ((PRG0.tr ((PRG0.tr ((PRG0.tr (q17717) (PRG0.step q17715 tok17886_ (rX.c (b := 2) (((hF17882.1 176 2 (by decide)).trans (hF17730.1 176 2 (by decide))))) (by omega)))) (o17934))) (PRG0.fail 1 (rX.c (b := 4) (((gI_sI_ne (by decide)).trans (hF17946.1 176 4 (by decide))))) (fun _ => by omega) (fun _ => by omega) (by omega)))).le (by omega), PLO.rndF q17716 tok17886 (by omega) (by omega) (rX.c (b := 2) (((hF17882.1 176 2 (by decide)).trans (hF17730.1 176 2 (by decide))))) (rX.c (b := 6) (((hF17882.1 176 6 (by decide)).trans (hF17730.1 176 6 (by decide))))) (OPD.cast o17939 rfl (by omega)) (TKX.someC o17933 (((hF17928.2.1 175 (by decide)).trans ((hF17882.2.1 175 (by decide)).trans ((hF17730.2.1 175 (by decide)).trans (hF17705.2.1 175 (by decide)))))) (((hF17928.1 174 1 (by decide)).trans ((hF17882.1 174 1 (by decide)).trans ((hF17730.1 174 1 (by decide)).trans (hF17705.1 174 1 (by decide))))))).choose_spec o17936 (by omega) (fun _ => by omega) (fun _ => by omega) (by omega)⟩⟩
              · have c17996_ : x17701.toInt ≠ 0 := en_k_eq_f c17996
                refine At.enter rfl ?_
                refine r_aload_n e17709 ?_
                refine q_getR (Sh.ref hI17994.1 kx_176 rfl) ?_
                refine r_bipush 9 rfl ?_
                refine r_iconst 0 rfl ?_
                refine r_callV 134 rfl [.ref 177, .int 9, .int 0] [] (Nat.le_of_ble_eq_true rfl) rfl (T_X4_add_177 _ hI17994 9 0) ?_
                rintro _ _ ⟨g18013, rfl, hI18014, hF18015, v18016, rfl, hr18017⟩
                refine At.sti ?_
                have hF18018 := Fr.tr hF17995 hF18015 rfl rfl
                refine At.enter rfl ?_
                refine r_pop rfl ?_
                refine Ar.fall 135 rfl ?_
                refine At.enter rfl ?_
                refine r_vret ?_
                have x18019 := rX.e hI18014 (b := 2) (((hF18015.1 176 2 (by decide)).trans (gI_sI_eq hI17945.1 kx_176 rfl _)))
                have x18020 := rX.e hI18014 (b := 4) ((((hF18015.1 176 4 (by decide)).trans ((gI_sI_ne (by decide)).trans (hF17946.1 176 4 (by decide)))).trans hv17942))
                obtain ⟨v18021, hv18021⟩ : ∃ v, gI g17926 176 6 = v := ⟨_, rfl⟩
                have tv18021 := congrArg Int32.toInt hv18021
                have x18022 := rX.e hI18014 (b := 6) ((((hF18015.1 176 6 (by decide)).trans ((gI_sI_ne (by decide)).trans (hF17946.1 176 6 (by decide)))).trans hv18021))
                obtain ⟨v18023, hv18023⟩ : ∃ v, gI g0 176 2 = v := ⟨_, rfl⟩
                have tv18023 := congrArg Int32.toInt hv18023
                have x18024 := rX.e hI0 (b := 2) (hv18023)
                have x18025 := rX.e hI0 (b := 4) (hv17721)
                have x18026 := rX.e hI17704 (b := 2) (hv17891)
                have x18027 := rX.e hI17704 (b := 4) (hv17724)
                have x18028 := rX.e hI17881 (b := 2) ((((hF17882.1 176 2 (by decide)).trans (hF17730.1 176 2 (by decide))).trans hv17891))
                have x18029 := rX.e hI17881 (b := 4) (hv17889)
                obtain ⟨v18030, hv18030⟩ : ∃ v, gI g17703 176 6 = v := ⟨_, rfl⟩
                have tv18030 := congrArg Int32.toInt hv18030
                have x18031 := rX.e hI17881 (b := 6) ((((hF17882.1 176 6 (by decide)).trans (hF17730.1 176 6 (by decide))).trans hv18030))
                have x18032 := rX.e hI17927 (b := 2) (hv17940)
                have x18033 := rX.e hI17927 (b := 4) (hv17942)
                have x18034 := rX.e hI17927 (b := 6) (hv18021)
                exact ⟨_, rfl, hI18014, hF18018, rfl, ⟨(TKX.c o17933 (((hF18015.2.1 175 (by decide)).trans ((gA_sI).trans (hF17946.2.1 175 (by decide))))) (((hF18015.1 174 1 (by decide)).trans ((gI_sI_ne (by decide)).trans (hF17946.1 174 1 (by decide))))) (((hF18015.1 176 3 (by decide)).trans ((gI_sI_ne (by decide)).trans (hF17946.1 176 3 (by decide))))) (((hF18015.1 176 4 (by decide)).trans ((gI_sI_ne (by decide)).trans (hF17946.1 176 4 (by decide))))) (((hF18015.1 176 5 (by decide)).trans ((gI_sI_ne (by decide)).trans (hF17946.1 176 5 (by decide)))))), ((PRG0.tr ((PRG0.tr ((PRG0.tr (q17717) (PRG0.step q17715 tok17886_ (rX.c (b := 2) (((hF17882.1 176 2 (by decide)).trans (hF17730.1 176 2 (by decide))))) (by omega)))) (o17934))) (PRG0.fail 1 (rX.c (b := 4) (((hF18015.1 176 4 (by decide)).trans ((gI_sI_ne (by decide)).trans (hF17946.1 176 4 (by decide)))))) (fun _ => by omega) (fun _ => by omega) (by omega)))).le (by omega), PLO.rndF q17716 tok17886 (by omega) (by omega) (rX.c (b := 2) (((hF17882.1 176 2 (by decide)).trans (hF17730.1 176 2 (by decide))))) (rX.c (b := 6) (((hF17882.1 176 6 (by decide)).trans (hF17730.1 176 6 (by decide))))) (OPD.cast o17939 rfl (by omega)) (TKX.someC o17933 (((hF17928.2.1 175 (by decide)).trans ((hF17882.2.1 175 (by decide)).trans ((hF17730.2.1 175 (by decide)).trans (hF17705.2.1 175 (by decide)))))) (((hF17928.1 174 1 (by decide)).trans ((hF17882.1 174 1 (by decide)).trans ((hF17730.1 174 1 (by decide)).trans (hF17705.1 174 1 (by decide))))))).choose_spec o17936 (by omega) (fun _ => by omega) (fun _ => by omega) (by omega)⟩⟩
          · have c17952_ : v17947.toInt ≠ 0 := en_k_eq_f c17952
            have i18035 := BL.yes hb17951 (by omega)
            refine At.enter rfl ?_
            refine r_aload_n rfl ?_
            refine r_callV 12 rfl [.ref 176] [] (Nat.le_of_ble_eq_true rfl) rfl (T_X5_step_176 _ hI17945 (TKX.c o17933 ((hF17946.2.1 175 (by decide))) ((hF17946.1 174 1 (by decide))) ((hF17946.1 176 3 (by decide))) ((hF17946.1 176 4 (by decide))) ((hF17946.1 176 5 (by decide)))).1 (TKX.c o17933 ((hF17946.2.1 175 (by decide))) ((hF17946.1 174 1 (by decide))) ((hF17946.1 176 3 (by decide))) ((hF17946.1 176 4 (by decide))) ((hF17946.1 176 5 (by decide)))).2.1.le.2.1) ?_
            rintro _ _ ⟨g18036, rfl, hI18037, hF18038, rfl, hr18040⟩
            refine At.stn ?_
            have hF18041 := Fr.tr hF17949 hF18038 rfl rfl
            have tok18042_ := hr18040.2
            rw [TX.c ((hF17946.2.1 175 (by decide))), nX.c ((hF17946.1 174 1 (by decide))), rX.c (b := 5) ((hF17946.1 176 5 (by decide)))] at tok18042_
            have tok18042 := TKX.tok o17933 tok18042_
            rw [TX.c (((hF17928.2.1 175 (by decide)).trans ((hF17882.2.1 175 (by decide)).trans ((hF17730.2.1 175 (by decide)).trans (hF17705.2.1 175 (by decide)))))), nX.c (((hF17928.1 174 1 (by decide)).trans ((hF17882.1 174 1 (by decide)).trans ((hF17730.1 174 1 (by decide)).trans (hF17705.1 174 1 (by decide))))))] at tok18042
            have hT18043 := hr18040.1
            have x18044 := rX.e hI17945 (b := 4) (((hF17946.1 176 4 (by decide)).trans hv17942))
            obtain ⟨v18045, hv18045⟩ : ∃ v, gI g18036 176 4 = v := ⟨_, rfl⟩
            have rv18045 := RgF.at hI18037.2.1 (p := 176) (b := 4) rfl
            rw [hv18045] at rv18045
            dsimp only at rv18045
            have tv18045 := congrArg Int32.toInt hv18045
            have x18046 := rX.e hI18037 (b := 4) (hv18045)
            refine At.enter rfl ?_
            refine r_goto ?_
            refine At.enter rfl ?_
            refine q_vret ?_
            refine At.enter rfl ?_
            refine r_goto ?_
            refine At.enter rfl ?_
            refine r_iload_n e17711 ?_
            refine r_ifs 124 rfl (fun c18047 => ?_) (fun c18047 => ?_)
            · have c18047_ : x17701.toInt = 0 := en_k_eq_t c18047
              refine At.enter rfl ?_
              refine r_vret ?_
              have x18048 := rX.e hI18037 (b := 2) ((((hF18038.1 176 2 (by decide)).trans (hF17946.1 176 2 (by decide))).trans hv17940))
              have x18049 := rX.e hI18037 (b := 4) (hv18045)
              obtain ⟨v18050, hv18050⟩ : ∃ v, gI g17926 176 6 = v := ⟨_, rfl⟩
              have tv18050 := congrArg Int32.toInt hv18050
              have x18051 := rX.e hI18037 (b := 6) ((((hF18038.1 176 6 (by decide)).trans (hF17946.1 176 6 (by decide))).trans hv18050))
              obtain ⟨v18052, hv18052⟩ : ∃ v, gI g0 176 2 = v := ⟨_, rfl⟩
              have tv18052 := congrArg Int32.toInt hv18052
              have x18053 := rX.e hI0 (b := 2) (hv18052)
              have x18054 := rX.e hI0 (b := 4) (hv17721)
              have x18055 := rX.e hI17704 (b := 2) (hv17891)
              have x18056 := rX.e hI17704 (b := 4) (hv17724)
              have x18057 := rX.e hI17881 (b := 2) ((((hF17882.1 176 2 (by decide)).trans (hF17730.1 176 2 (by decide))).trans hv17891))
              have x18058 := rX.e hI17881 (b := 4) (hv17889)
              obtain ⟨v18059, hv18059⟩ : ∃ v, gI g17703 176 6 = v := ⟨_, rfl⟩
              have tv18059 := congrArg Int32.toInt hv18059
              have x18060 := rX.e hI17881 (b := 6) ((((hF17882.1 176 6 (by decide)).trans (hF17730.1 176 6 (by decide))).trans hv18059))
              have x18061 := rX.e hI17927 (b := 2) (hv17940)
              have x18062 := rX.e hI17927 (b := 4) (hv17942)
              have x18063 := rX.e hI17927 (b := 6) (hv18050)
              have x18064 := rX.e hI18037 (b := 2) ((((hF18038.1 176 2 (by decide)).trans (hF17946.1 176 2 (by decide))).trans hv17940))
              have x18065 := rX.e hI18037 (b := 4) (hv18045)
              have x18066 := rX.e hI18037 (b := 6) ((((hF18038.1 176 6 (by decide)).trans (hF17946.1 176 6 (by decide))).trans hv18050))
              exact ⟨_, rfl, hI18037, hF18041, rfl, ⟨hT18043, ((PRG0.tr ((PRG0.tr ((PRG0.tr ((PRG0.tr (q17717) (PRG0.step q17715 tok17886_ (rX.c (b := 2) (((hF17882.1 176 2 (by decide)).trans (hF17730.1 176 2 (by decide))))) (by omega)))) (o17934))) (PRG0.step o17933 tok18042_ (rX.c (b := 2) (((hF18038.1 176 2 (by decide)).trans (hF17946.1 176 2 (by decide))))) (by omega)))) (PRG0.eq rfl rfl))).le (by omega), PLO.rnd q17716 tok17886 (by omega) (by omega) (rX.c (b := 2) (((hF17882.1 176 2 (by decide)).trans (hF17730.1 176 2 (by decide))))) (rX.c (b := 6) (((hF17882.1 176 6 (by decide)).trans (hF17730.1 176 6 (by decide))))) (OPD.cast o17939 rfl (by omega)) tok18042 (by omega) (rX.c (b := 2) (((hF18038.1 176 2 (by decide)).trans (hF17946.1 176 2 (by decide))))) (rX.c (b := 6) (((hF18038.1 176 6 (by decide)).trans (hF17946.1 176 6 (by decide))))) rfl rfl rfl⟩⟩
            · have c18047_ : x17701.toInt ≠ 0 := en_k_eq_f c18047
              refine At.enter rfl ?_
              refine r_aload_n e17709 ?_
              refine q_getR (Sh.ref hI18037.1 kx_176 rfl) ?_
              refine r_bipush 9 rfl ?_
              refine r_iconst 0 rfl ?_
              refine r_callV 134 rfl [.ref 177, .int 9, .int 0] [] (Nat.le_of_ble_eq_true rfl) rfl (T_X4_add_177 _ hI18037 9 0) ?_
              rintro _ _ ⟨g18067, rfl, hI18068, hF18069, v18070, rfl, hr18071⟩
              refine At.sti ?_
              have hF18072 := Fr.tr hF18041 hF18069 rfl rfl
              refine At.enter rfl ?_
              refine r_pop rfl ?_
              refine Ar.fall 135 rfl ?_
              refine At.enter rfl ?_
              refine r_vret ?_
              have x18073 := rX.e hI18068 (b := 2) ((((hF18069.1 176 2 (by decide)).trans ((hF18038.1 176 2 (by decide)).trans (hF17946.1 176 2 (by decide)))).trans hv17940))
              have x18074 := rX.e hI18068 (b := 4) (((hF18069.1 176 4 (by decide)).trans hv18045))
              obtain ⟨v18075, hv18075⟩ : ∃ v, gI g17926 176 6 = v := ⟨_, rfl⟩
              have tv18075 := congrArg Int32.toInt hv18075
              have x18076 := rX.e hI18068 (b := 6) ((((hF18069.1 176 6 (by decide)).trans ((hF18038.1 176 6 (by decide)).trans (hF17946.1 176 6 (by decide)))).trans hv18075))
              obtain ⟨v18077, hv18077⟩ : ∃ v, gI g0 176 2 = v := ⟨_, rfl⟩
              have tv18077 := congrArg Int32.toInt hv18077
              have x18078 := rX.e hI0 (b := 2) (hv18077)
              have x18079 := rX.e hI0 (b := 4) (hv17721)
              have x18080 := rX.e hI17704 (b := 2) (hv17891)
              have x18081 := rX.e hI17704 (b := 4) (hv17724)
              have x18082 := rX.e hI17881 (b := 2) ((((hF17882.1 176 2 (by decide)).trans (hF17730.1 176 2 (by decide))).trans hv17891))
              have x18083 := rX.e hI17881 (b := 4) (hv17889)
              obtain ⟨v18084, hv18084⟩ : ∃ v, gI g17703 176 6 = v := ⟨_, rfl⟩
              have tv18084 := congrArg Int32.toInt hv18084
              have x18085 := rX.e hI17881 (b := 6) ((((hF17882.1 176 6 (by decide)).trans (hF17730.1 176 6 (by decide))).trans hv18084))
              have x18086 := rX.e hI17927 (b := 2) (hv17940)
              have x18087 := rX.e hI17927 (b := 4) (hv17942)
              have x18088 := rX.e hI17927 (b := 6) (hv18075)
              have x18089 := rX.e hI18037 (b := 2) ((((hF18038.1 176 2 (by decide)).trans (hF17946.1 176 2 (by decide))).trans hv17940))
              have x18090 := rX.e hI18037 (b := 4) (hv18045)
              have x18091 := rX.e hI18037 (b := 6) ((((hF18038.1 176 6 (by decide)).trans (hF17946.1 176 6 (by decide))).trans hv18075))
              exact ⟨_, rfl, hI18068, hF18072, rfl, ⟨(TKX.c hT18043 ((hF18069.2.1 175 (by decide))) ((hF18069.1 174 1 (by decide))) ((hF18069.1 176 3 (by decide))) ((hF18069.1 176 4 (by decide))) ((hF18069.1 176 5 (by decide)))), ((PRG0.tr ((PRG0.tr ((PRG0.tr ((PRG0.tr (q17717) (PRG0.step q17715 tok17886_ (rX.c (b := 2) (((hF17882.1 176 2 (by decide)).trans (hF17730.1 176 2 (by decide))))) (by omega)))) (o17934))) (PRG0.step o17933 tok18042_ (rX.c (b := 2) (((hF18038.1 176 2 (by decide)).trans (hF17946.1 176 2 (by decide))))) (by omega)))) (PRG0.eq (rX.c (b := 4) ((hF18069.1 176 4 (by decide)))) (rX.c (b := 2) ((hF18069.1 176 2 (by decide))))))).le (by omega), PLO.rnd q17716 tok17886 (by omega) (by omega) (rX.c (b := 2) (((hF17882.1 176 2 (by decide)).trans (hF17730.1 176 2 (by decide))))) (rX.c (b := 6) (((hF17882.1 176 6 (by decide)).trans (hF17730.1 176 6 (by decide))))) (OPD.cast o17939 rfl (by omega)) tok18042 (by omega) (rX.c (b := 2) (((hF18038.1 176 2 (by decide)).trans (hF17946.1 176 2 (by decide))))) (rX.c (b := 6) (((hF18038.1 176 6 (by decide)).trans (hF17946.1 176 6 (by decide))))) (rX.c (b := 2) ((hF18069.1 176 2 (by decide)))) (rX.c (b := 4) ((hF18069.1 176 4 (by decide)))) (rX.c (b := 6) ((hF18069.1 176 6 (by decide))))⟩⟩
      · have c17879_ : a1.toInt ≥ 8 := en_i_lt_f c17879
        refine At.enter rfl ?_
        refine r_aload_n rfl ?_
        refine q_inlV 10 rfl [.ref 176] [] (Nat.le_of_ble_eq_true rfl) rfl ?_
        refine Ev.mk rfl rfl ⟨Nat.le_of_ble_eq_true rfl, Or.inr (q_rc hI17729.1 kx_176 rfl)⟩ ?_
        show At _ none _ _ (0, [(0, .ref 176)], [], (_, _)) _
        refine At.enter rfl ?_
        refine r_aload_n rfl ?_
        obtain ⟨v18092, hv18092⟩ : ∃ v, gI g17703 176 2 = v := ⟨_, rfl⟩
        refine q_getI (Sh.int hI17729.1 kx_176 rfl) v18092 ((hF17730.1 176 2 (by decide)).trans hv18092) ?_
        refine r_iconst (-1) rfl ?_
        refine r_ics 8 rfl (fun c18093 => ?_) (fun c18093 => ?_)
        · have c18093_ : v18092.toInt ≠ (-1) := en_i_ne_t c18093
          refine At.enter rfl ?_
          refine q_vret ?_
          refine At.enter rfl ?_
          refine r_goto ?_
          refine At.enter rfl ?_
          refine q_vret ?_
          refine At.enter rfl ?_
          refine r_aload_n e17709 ?_
          refine q_getI (Sh.int hI17729.1 kx_176 rfl) v18092 ((hF17730.1 176 2 (by decide)).trans hv18092) ?_
          refine r_iconst (-1) rfl ?_
          refine r_ics 62 rfl (fun c18094 => ?_) (fun c18094 => ?_)
          · have c18094_ : v18092.toInt ≠ (-1) := en_i_ne_t c18094
            refine At.enter rfl ?_
            refine r_iload_n e17711 ?_
            refine r_ifs 124 rfl (fun c18095 => ?_) (fun c18095 => ?_)
            · have c18095_ : x17701.toInt = 0 := en_k_eq_t c18095
              refine At.enter rfl ?_
              refine r_vret ?_
              have x18096 := rX.e hI17729 (b := 2) (((hF17730.1 176 2 (by decide)).trans hv18092))
              have x18097 := rX.e hI17729 (b := 4) (((hF17730.1 176 4 (by decide)).trans hv17724))
              obtain ⟨v18098, hv18098⟩ : ∃ v, gI g17703 176 6 = v := ⟨_, rfl⟩
              have tv18098 := congrArg Int32.toInt hv18098
              have x18099 := rX.e hI17729 (b := 6) (((hF17730.1 176 6 (by decide)).trans hv18098))
              obtain ⟨v18100, hv18100⟩ : ∃ v, gI g0 176 2 = v := ⟨_, rfl⟩
              have tv18100 := congrArg Int32.toInt hv18100
              have x18101 := rX.e hI0 (b := 2) (hv18100)
              have x18102 := rX.e hI0 (b := 4) (hv17721)
              have x18103 := rX.e hI17704 (b := 2) (hv18092)
              have x18104 := rX.e hI17704 (b := 4) (hv17724)
              exact ⟨_, rfl, hI17729, hF17733, rfl, ⟨(TKX.c q17715 ((hF17730.2.1 175 (by decide))) ((hF17730.1 174 1 (by decide))) ((hF17730.1 176 3 (by decide))) ((hF17730.1 176 4 (by decide))) ((hF17730.1 176 5 (by decide)))), ((PRG0.tr (q17717) (PRG0.fail 1 (rX.c (b := 4) ((hF17730.1 176 4 (by decide)))) (fun _ => by omega) (fun _ => by omega) (by omega)))).le (by omega), PLO.deep q17716 (TKX.someC q17715 ((hF17705.2.1 175 (by decide))) ((hF17705.1 174 1 (by decide)))).choose_spec (by omega) (by omega) (fun _ => by omega) (fun _ => by omega) (by omega)⟩⟩
            · have c18095_ : x17701.toInt ≠ 0 := en_k_eq_f c18095
              refine At.enter rfl ?_
              refine r_aload_n e17709 ?_
              refine q_getR (Sh.ref hI17729.1 kx_176 rfl) ?_
              refine r_bipush 9 rfl ?_
              refine r_iconst 0 rfl ?_
              refine r_callV 134 rfl [.ref 177, .int 9, .int 0] [] (Nat.le_of_ble_eq_true rfl) rfl (T_X4_add_177 _ hI17729 9 0) ?_
              rintro _ _ ⟨g18105, rfl, hI18106, hF18107, v18108, rfl, hr18109⟩
              refine At.sti ?_
              have hF18110 := Fr.tr hF17733 hF18107 rfl rfl
              refine At.enter rfl ?_
              refine r_pop rfl ?_
              refine Ar.fall 135 rfl ?_
              refine At.enter rfl ?_
              refine r_vret ?_
              have x18111 := rX.e hI18106 (b := 2) ((((hF18107.1 176 2 (by decide)).trans (hF17730.1 176 2 (by decide))).trans hv18092))
              have x18112 := rX.e hI18106 (b := 4) ((((hF18107.1 176 4 (by decide)).trans (hF17730.1 176 4 (by decide))).trans hv17724))
              obtain ⟨v18113, hv18113⟩ : ∃ v, gI g17703 176 6 = v := ⟨_, rfl⟩
              have tv18113 := congrArg Int32.toInt hv18113
              have x18114 := rX.e hI18106 (b := 6) ((((hF18107.1 176 6 (by decide)).trans (hF17730.1 176 6 (by decide))).trans hv18113))
              obtain ⟨v18115, hv18115⟩ : ∃ v, gI g0 176 2 = v := ⟨_, rfl⟩
              have tv18115 := congrArg Int32.toInt hv18115
              have x18116 := rX.e hI0 (b := 2) (hv18115)
              have x18117 := rX.e hI0 (b := 4) (hv17721)
              have x18118 := rX.e hI17704 (b := 2) (hv18092)
              have x18119 := rX.e hI17704 (b := 4) (hv17724)
              exact ⟨_, rfl, hI18106, hF18110, rfl, ⟨(TKX.c q17715 (((hF18107.2.1 175 (by decide)).trans (hF17730.2.1 175 (by decide)))) (((hF18107.1 174 1 (by decide)).trans (hF17730.1 174 1 (by decide)))) (((hF18107.1 176 3 (by decide)).trans (hF17730.1 176 3 (by decide)))) (((hF18107.1 176 4 (by decide)).trans (hF17730.1 176 4 (by decide)))) (((hF18107.1 176 5 (by decide)).trans (hF17730.1 176 5 (by decide))))), ((PRG0.tr (q17717) (PRG0.fail 1 (rX.c (b := 4) (((hF18107.1 176 4 (by decide)).trans (hF17730.1 176 4 (by decide))))) (fun _ => by omega) (fun _ => by omega) (by omega)))).le (by omega), PLO.deep q17716 (TKX.someC q17715 ((hF17705.2.1 175 (by decide))) ((hF17705.1 174 1 (by decide)))).choose_spec (by omega) (by omega) (fun _ => by omega) (fun _ => by omega) (by omega)⟩⟩
          · have c18094_ : v18092.toInt = (-1) := en_i_ne_f c18094
            refine At.enter rfl ?_
            refine r_aload_n e17709 ?_
            refine r_iconst 0 rfl ?_
            refine r_iload_n e17710 ?_
            refine r_iconst 1 rfl ?_
            refine q_iadd (a1.toInt + 1) rfl (by omega) (fun v18120 hv18120 => ?_)
            have zv18121 : (0 : Int32).toInt = 0 := rfl
            refine r_callV 70 rfl [.ref 176, .int 0, .int v18120] [] (Nat.le_of_ble_eq_true rfl) rfl (IHJ _ (by omega) hI17729 0 (by decide) v18120 (by omega) (by omega) (TKX.c q17715 ((hF17730.2.1 175 (by decide))) ((hF17730.1 174 1 (by decide))) ((hF17730.1 176 3 (by decide))) ((hF17730.1 176 4 (by decide))) ((hF17730.1 176 5 (by decide))))) ?_
            rintro _ _ ⟨g18122, rfl, hI18123, hF18124, rfl, hr18126⟩
            refine At.stn ?_
            have hF18127 := Fr.tr hF17733 hF18124 rfl rfl
            have zv18128 : (0 : Int32).toInt = 0 := rfl
            have x18133 := rX.e hI17729 (b := 2) (((hF17730.1 176 2 (by decide)).trans hv18092))
            have x18134 := rX.e hI17729 (b := 4) (((hF17730.1 176 4 (by decide)).trans hv17724))
            obtain ⟨o18129, o18130, o18131, o18132⟩ := hr18126
            have o18135 := OPD.tc o18131 (((hF17730.2.1 175 (by decide)).trans (hF17705.2.1 175 (by decide)))) (((hF17730.1 174 1 (by decide)).trans (hF17705.1 174 1 (by decide))))
            have o18136 := PRG0.fr o18130 (rX.c (b := 2) ((hF17730.1 176 2 (by decide)))) (rX.c (b := 4) ((hF17730.1 176 4 (by decide))))
            have o18137 := OPD.fr o18135 (rX.c (b := 2) ((hF17730.1 176 2 (by decide)))) (rX.c (b := 4) ((hF17730.1 176 4 (by decide)))) (rX.c (b := 6) ((hF17730.1 176 6 (by decide))))
            obtain ⟨v18138, hv18138⟩ : ∃ v, gI g18122 176 2 = v := ⟨_, rfl⟩
            have tv18138 := congrArg Int32.toInt hv18138
            have x18139 := rX.e hI18123 (b := 2) (hv18138)
            obtain ⟨v18140, hv18140⟩ : ∃ v, gI g18122 176 4 = v := ⟨_, rfl⟩
            have rv18140 := RgF.at hI18123.2.1 (p := 176) (b := 4) rfl
            rw [hv18140] at rv18140
            dsimp only at rv18140
            have tv18140 := congrArg Int32.toInt hv18140
            have x18141 := rX.e hI18123 (b := 4) (hv18140)
            refine At.enter rfl ?_
            refine r_aload_n e17709 ?_
            refine r_bipush 41 rfl ?_
            refine q_inlV 76 rfl [.ref 176, .int 41] [] (Nat.le_of_ble_eq_true rfl) rfl ?_
            refine Ev.mk rfl rfl ⟨Nat.le_of_ble_eq_true rfl, Or.inr (q_rc hI18123.1 kx_176 rfl)⟩ ?_
            show At _ none _ _ (0, [(0, .ref 176), (1, .int 41)], [], (_, _)) _
            refine At.enter rfl ?_
            refine r_aload_n rfl ?_
            refine r_iload_n rfl ?_
            refine r_callV 5 rfl [.ref 176, .int 41] [] (Nat.le_of_ble_eq_true rfl) rfl (T_X5_isSingle_176 _ hI18123 41 (by decide)) ?_
            rintro _ _ ⟨g18142, rfl, hI18143, hF18144, v18145, rfl, hr18146⟩
            refine At.sti ?_
            have hF18147 := Fr.tr hF18127 hF18144 rfl rfl
            have zv18148 : (41 : Int32).toInt = 41 := rfl
            have hb18149 : BL (CDX g18122 = 9) v18145.toInt := ISX.code (c := 9) hr18146.2 o18129 (isSC_d (by omega)) (by decide)
            refine At.enter rfl ?_
            refine r_ifs 8 rfl (fun c18150 => ?_) (fun c18150 => ?_)
            · have c18150_ : v18145.toInt = 0 := en_k_eq_t c18150
              have i18151 := BL.no hb18149 (by omega)
              refine At.enter rfl ?_
              refine r_aload_n rfl ?_
              refine q_inlV 19 rfl [.ref 176] [] (Nat.le_of_ble_eq_true rfl) rfl ?_
              refine Ev.mk rfl rfl ⟨Nat.le_of_ble_eq_true rfl, Or.inr (q_rc hI18143.1 kx_176 rfl)⟩ ?_
              show At _ none _ _ (0, [(0, .ref 176)], [], (_, _)) _
              refine At.enter rfl ?_
              refine r_aload_n rfl ?_
              refine q_getI (Sh.int hI18143.1 kx_176 rfl) v18138 ((hF18144.1 176 2 (by decide)).trans hv18138) ?_
              refine r_iconst (-1) rfl ?_
              refine r_ics 8 rfl (fun c18152 => ?_) (fun c18152 => ?_)
              · have c18152_ : v18138.toInt ≠ (-1) := en_i_ne_t c18152
                refine At.enter rfl ?_
                refine q_vret ?_
                refine At.enter rfl ?_
                refine q_vret ?_
                refine At.enter rfl ?_
                refine r_goto ?_
                refine At.enter rfl ?_
                refine r_iload_n e17711 ?_
                refine r_ifs 124 rfl (fun c18153 => ?_) (fun c18153 => ?_)
                · have c18153_ : x17701.toInt = 0 := en_k_eq_t c18153
                  refine At.enter rfl ?_
                  refine r_vret ?_
                  have x18154 := rX.e hI18143 (b := 2) (((hF18144.1 176 2 (by decide)).trans hv18138))
                  have x18155 := rX.e hI18143 (b := 4) (((hF18144.1 176 4 (by decide)).trans hv18140))
                  obtain ⟨v18156, hv18156⟩ : ∃ v, gI g18122 176 6 = v := ⟨_, rfl⟩
                  have tv18156 := congrArg Int32.toInt hv18156
                  have x18157 := rX.e hI18143 (b := 6) (((hF18144.1 176 6 (by decide)).trans hv18156))
                  obtain ⟨v18158, hv18158⟩ : ∃ v, gI g0 176 2 = v := ⟨_, rfl⟩
                  have tv18158 := congrArg Int32.toInt hv18158
                  have x18159 := rX.e hI0 (b := 2) (hv18158)
                  have x18160 := rX.e hI0 (b := 4) (hv17721)
                  have x18161 := rX.e hI17704 (b := 2) (hv18092)
                  have x18162 := rX.e hI17704 (b := 4) (hv17724)
                  have x18163 := rX.e hI18123 (b := 2) (hv18138)
                  have x18164 := rX.e hI18123 (b := 4) (hv18140)
                  have x18165 := rX.e hI18123 (b := 6) (hv18156)
                  exact ⟨_, rfl, hI18143, hF18147, rfl, (False.elim (by omega))⟩
                · have c18153_ : x17701.toInt ≠ 0 := en_k_eq_f c18153
                  refine At.enter rfl ?_
                  refine r_aload_n e17709 ?_
                  refine q_getR (Sh.ref hI18143.1 kx_176 rfl) ?_
                  refine r_bipush 9 rfl ?_
                  refine r_iconst 0 rfl ?_
                  refine r_callV 134 rfl [.ref 177, .int 9, .int 0] [] (Nat.le_of_ble_eq_true rfl) rfl (T_X4_add_177 _ hI18143 9 0) ?_
                  rintro _ _ ⟨g18166, rfl, hI18167, hF18168, v18169, rfl, hr18170⟩
                  refine At.sti ?_
                  have hF18171 := Fr.tr hF18147 hF18168 rfl rfl
                  refine At.enter rfl ?_
                  refine r_pop rfl ?_
                  refine Ar.fall 135 rfl ?_
                  refine At.enter rfl ?_
                  refine r_vret ?_
                  have x18172 := rX.e hI18167 (b := 2) ((((hF18168.1 176 2 (by decide)).trans (hF18144.1 176 2 (by decide))).trans hv18138))
                  have x18173 := rX.e hI18167 (b := 4) ((((hF18168.1 176 4 (by decide)).trans (hF18144.1 176 4 (by decide))).trans hv18140))
                  obtain ⟨v18174, hv18174⟩ : ∃ v, gI g18122 176 6 = v := ⟨_, rfl⟩
                  have tv18174 := congrArg Int32.toInt hv18174
                  have x18175 := rX.e hI18167 (b := 6) ((((hF18168.1 176 6 (by decide)).trans (hF18144.1 176 6 (by decide))).trans hv18174))
                  obtain ⟨v18176, hv18176⟩ : ∃ v, gI g0 176 2 = v := ⟨_, rfl⟩
                  have tv18176 := congrArg Int32.toInt hv18176
                  have x18177 := rX.e hI0 (b := 2) (hv18176)
                  have x18178 := rX.e hI0 (b := 4) (hv17721)
                  have x18179 := rX.e hI17704 (b := 2) (hv18092)
                  have x18180 := rX.e hI17704 (b := 4) (hv17724)
                  have x18181 := rX.e hI18123 (b := 2) (hv18138)
                  have x18182 := rX.e hI18123 (b := 4) (hv18140)
                  have x18183 := rX.e hI18123 (b := 6) (hv18174)
                  exact ⟨_, rfl, hI18167, hF18171, rfl, (False.elim (by omega))⟩
              · have c18152_ : v18138.toInt = (-1) := en_i_ne_f c18152
                refine At.enter rfl ?_
                refine r_aload_n rfl ?_
                refine r_aload_n rfl ?_
                refine q_getI (Sh.int hI18143.1 kx_176 rfl) v18140 ((hF18144.1 176 4 (by decide)).trans hv18140) ?_
                refine q_putI (Sh.int hI18143.1 kx_176 rfl) rfl ?_
                have hI18184 := HI.wI0 hI18143 kx_176 rfl (p := 176) (b := 2) (v := v18140) rfl
                have hF18185 := Fr.wI (p := 176) (b := 2) (v := v18140) hF18147 rfl
                refine Ar.fall 16 rfl ?_
                refine At.enter rfl ?_
                refine q_vret ?_
                refine At.enter rfl ?_
                refine q_vret ?_
                refine At.enter rfl ?_
                refine r_goto ?_
                refine At.enter rfl ?_
                refine r_iload_n e17711 ?_
                refine r_ifs 124 rfl (fun c18186 => ?_) (fun c18186 => ?_)
                · have c18186_ : x17701.toInt = 0 := en_k_eq_t c18186
                  refine At.enter rfl ?_
                  refine r_vret ?_
                  have x18187 := rX.e hI18184 (b := 2) ((gI_sI_eq hI18143.1 kx_176 rfl _))
                  have x18188 := rX.e hI18184 (b := 4) ((((gI_sI_ne (by decide)).trans (hF18144.1 176 4 (by decide))).trans hv18140))
                  obtain ⟨v18189, hv18189⟩ : ∃ v, gI g18122 176 6 = v := ⟨_, rfl⟩
                  have tv18189 := congrArg Int32.toInt hv18189
                  have x18190 := rX.e hI18184 (b := 6) ((((gI_sI_ne (by decide)).trans (hF18144.1 176 6 (by decide))).trans hv18189))
                  obtain ⟨v18191, hv18191⟩ : ∃ v, gI g0 176 2 = v := ⟨_, rfl⟩
                  have tv18191 := congrArg Int32.toInt hv18191
                  have x18192 := rX.e hI0 (b := 2) (hv18191)
                  have x18193 := rX.e hI0 (b := 4) (hv17721)
                  have x18194 := rX.e hI17704 (b := 2) (hv18092)
                  have x18195 := rX.e hI17704 (b := 4) (hv17724)
                  have x18196 := rX.e hI18123 (b := 2) (hv18138)
                  have x18197 := rX.e hI18123 (b := 4) (hv18140)
                  have x18198 := rX.e hI18123 (b := 6) (hv18189)
                  exact ⟨_, rfl, hI18184, hF18185, rfl, (False.elim (by omega))⟩
                · have c18186_ : x17701.toInt ≠ 0 := en_k_eq_f c18186
                  refine At.enter rfl ?_
                  refine r_aload_n e17709 ?_
                  refine q_getR (Sh.ref hI18184.1 kx_176 rfl) ?_
                  refine r_bipush 9 rfl ?_
                  refine r_iconst 0 rfl ?_
                  refine r_callV 134 rfl [.ref 177, .int 9, .int 0] [] (Nat.le_of_ble_eq_true rfl) rfl (T_X4_add_177 _ hI18184 9 0) ?_
                  rintro _ _ ⟨g18199, rfl, hI18200, hF18201, v18202, rfl, hr18203⟩
                  refine At.sti ?_
                  have hF18204 := Fr.tr hF18185 hF18201 rfl rfl
                  refine At.enter rfl ?_
                  refine r_pop rfl ?_
                  refine Ar.fall 135 rfl ?_
                  refine At.enter rfl ?_
                  refine r_vret ?_
                  have x18205 := rX.e hI18200 (b := 2) (((hF18201.1 176 2 (by decide)).trans (gI_sI_eq hI18143.1 kx_176 rfl _)))
                  have x18206 := rX.e hI18200 (b := 4) ((((hF18201.1 176 4 (by decide)).trans ((gI_sI_ne (by decide)).trans (hF18144.1 176 4 (by decide)))).trans hv18140))
                  obtain ⟨v18207, hv18207⟩ : ∃ v, gI g18122 176 6 = v := ⟨_, rfl⟩
                  have tv18207 := congrArg Int32.toInt hv18207
                  have x18208 := rX.e hI18200 (b := 6) ((((hF18201.1 176 6 (by decide)).trans ((gI_sI_ne (by decide)).trans (hF18144.1 176 6 (by decide)))).trans hv18207))
                  obtain ⟨v18209, hv18209⟩ : ∃ v, gI g0 176 2 = v := ⟨_, rfl⟩
                  have tv18209 := congrArg Int32.toInt hv18209
                  have x18210 := rX.e hI0 (b := 2) (hv18209)
                  have x18211 := rX.e hI0 (b := 4) (hv17721)
                  have x18212 := rX.e hI17704 (b := 2) (hv18092)
                  have x18213 := rX.e hI17704 (b := 4) (hv17724)
                  have x18214 := rX.e hI18123 (b := 2) (hv18138)
                  have x18215 := rX.e hI18123 (b := 4) (hv18140)
                  have x18216 := rX.e hI18123 (b := 6) (hv18207)
                  exact ⟨_, rfl, hI18200, hF18204, rfl, (False.elim (by omega))⟩
            · have c18150_ : v18145.toInt ≠ 0 := en_k_eq_f c18150
              have i18217 := BL.yes hb18149 (by omega)
              refine At.enter rfl ?_
              refine r_aload_n rfl ?_
              refine r_callV 12 rfl [.ref 176] [] (Nat.le_of_ble_eq_true rfl) rfl (T_X5_step_176 _ hI18143 (TKX.c o18129 ((hF18144.2.1 175 (by decide))) ((hF18144.1 174 1 (by decide))) ((hF18144.1 176 3 (by decide))) ((hF18144.1 176 4 (by decide))) ((hF18144.1 176 5 (by decide)))).1 (TKX.c o18129 ((hF18144.2.1 175 (by decide))) ((hF18144.1 174 1 (by decide))) ((hF18144.1 176 3 (by decide))) ((hF18144.1 176 4 (by decide))) ((hF18144.1 176 5 (by decide)))).2.1.le.2.1) ?_
              rintro _ _ ⟨g18218, rfl, hI18219, hF18220, rfl, hr18222⟩
              refine At.stn ?_
              have hF18223 := Fr.tr hF18147 hF18220 rfl rfl
              have tok18224_ := hr18222.2
              rw [TX.c ((hF18144.2.1 175 (by decide))), nX.c ((hF18144.1 174 1 (by decide))), rX.c (b := 5) ((hF18144.1 176 5 (by decide)))] at tok18224_
              have tok18224 := TKX.tok o18129 tok18224_
              rw [TX.c (((hF18124.2.1 175 (by decide)).trans ((hF17730.2.1 175 (by decide)).trans (hF17705.2.1 175 (by decide))))), nX.c (((hF18124.1 174 1 (by decide)).trans ((hF17730.1 174 1 (by decide)).trans (hF17705.1 174 1 (by decide)))))] at tok18224
              have hT18225 := hr18222.1
              have x18226 := rX.e hI18143 (b := 4) (((hF18144.1 176 4 (by decide)).trans hv18140))
              obtain ⟨v18227, hv18227⟩ : ∃ v, gI g18218 176 4 = v := ⟨_, rfl⟩
              have rv18227 := RgF.at hI18219.2.1 (p := 176) (b := 4) rfl
              rw [hv18227] at rv18227
              dsimp only at rv18227
              have tv18227 := congrArg Int32.toInt hv18227
              have x18228 := rX.e hI18219 (b := 4) (hv18227)
              refine At.enter rfl ?_
              refine r_goto ?_
              refine At.enter rfl ?_
              refine q_vret ?_
              refine At.enter rfl ?_
              refine r_goto ?_
              refine At.enter rfl ?_
              refine r_iload_n e17711 ?_
              refine r_ifs 124 rfl (fun c18229 => ?_) (fun c18229 => ?_)
              · have c18229_ : x17701.toInt = 0 := en_k_eq_t c18229
                refine At.enter rfl ?_
                refine r_vret ?_
                have x18230 := rX.e hI18219 (b := 2) ((((hF18220.1 176 2 (by decide)).trans (hF18144.1 176 2 (by decide))).trans hv18138))
                have x18231 := rX.e hI18219 (b := 4) (hv18227)
                obtain ⟨v18232, hv18232⟩ : ∃ v, gI g18122 176 6 = v := ⟨_, rfl⟩
                have tv18232 := congrArg Int32.toInt hv18232
                have x18233 := rX.e hI18219 (b := 6) ((((hF18220.1 176 6 (by decide)).trans (hF18144.1 176 6 (by decide))).trans hv18232))
                obtain ⟨v18234, hv18234⟩ : ∃ v, gI g0 176 2 = v := ⟨_, rfl⟩
                have tv18234 := congrArg Int32.toInt hv18234
                have x18235 := rX.e hI0 (b := 2) (hv18234)
                have x18236 := rX.e hI0 (b := 4) (hv17721)
                have x18237 := rX.e hI17704 (b := 2) (hv18092)
                have x18238 := rX.e hI17704 (b := 4) (hv17724)
                have x18239 := rX.e hI18123 (b := 2) (hv18138)
                have x18240 := rX.e hI18123 (b := 4) (hv18140)
                have x18241 := rX.e hI18123 (b := 6) (hv18232)
                have x18242 := rX.e hI18219 (b := 2) ((((hF18220.1 176 2 (by decide)).trans (hF18144.1 176 2 (by decide))).trans hv18138))
                have x18243 := rX.e hI18219 (b := 4) (hv18227)
                have x18244 := rX.e hI18219 (b := 6) ((((hF18220.1 176 6 (by decide)).trans (hF18144.1 176 6 (by decide))).trans hv18232))
                exact ⟨_, rfl, hI18219, hF18223, rfl, (False.elim (by omega))⟩
              · have c18229_ : x17701.toInt ≠ 0 := en_k_eq_f c18229
                refine At.enter rfl ?_
                refine r_aload_n e17709 ?_
                refine q_getR (Sh.ref hI18219.1 kx_176 rfl) ?_
                refine r_bipush 9 rfl ?_
                refine r_iconst 0 rfl ?_
                refine r_callV 134 rfl [.ref 177, .int 9, .int 0] [] (Nat.le_of_ble_eq_true rfl) rfl (T_X4_add_177 _ hI18219 9 0) ?_
                rintro _ _ ⟨g18245, rfl, hI18246, hF18247, v18248, rfl, hr18249⟩
                refine At.sti ?_
                have hF18250 := Fr.tr hF18223 hF18247 rfl rfl
                refine At.enter rfl ?_
                refine r_pop rfl ?_
                refine Ar.fall 135 rfl ?_
                refine At.enter rfl ?_
                refine r_vret ?_
                have x18251 := rX.e hI18246 (b := 2) ((((hF18247.1 176 2 (by decide)).trans ((hF18220.1 176 2 (by decide)).trans (hF18144.1 176 2 (by decide)))).trans hv18138))
                have x18252 := rX.e hI18246 (b := 4) (((hF18247.1 176 4 (by decide)).trans hv18227))
                obtain ⟨v18253, hv18253⟩ : ∃ v, gI g18122 176 6 = v := ⟨_, rfl⟩
                have tv18253 := congrArg Int32.toInt hv18253
                have x18254 := rX.e hI18246 (b := 6) ((((hF18247.1 176 6 (by decide)).trans ((hF18220.1 176 6 (by decide)).trans (hF18144.1 176 6 (by decide)))).trans hv18253))
                obtain ⟨v18255, hv18255⟩ : ∃ v, gI g0 176 2 = v := ⟨_, rfl⟩
                have tv18255 := congrArg Int32.toInt hv18255
                have x18256 := rX.e hI0 (b := 2) (hv18255)
                have x18257 := rX.e hI0 (b := 4) (hv17721)
                have x18258 := rX.e hI17704 (b := 2) (hv18092)
                have x18259 := rX.e hI17704 (b := 4) (hv17724)
                have x18260 := rX.e hI18123 (b := 2) (hv18138)
                have x18261 := rX.e hI18123 (b := 4) (hv18140)
                have x18262 := rX.e hI18123 (b := 6) (hv18253)
                have x18263 := rX.e hI18219 (b := 2) ((((hF18220.1 176 2 (by decide)).trans (hF18144.1 176 2 (by decide))).trans hv18138))
                have x18264 := rX.e hI18219 (b := 4) (hv18227)
                have x18265 := rX.e hI18219 (b := 6) ((((hF18220.1 176 6 (by decide)).trans (hF18144.1 176 6 (by decide))).trans hv18253))
                exact ⟨_, rfl, hI18246, hF18250, rfl, (False.elim (by omega))⟩
        · have c18093_ : v18092.toInt = (-1) := en_i_ne_f c18093
          refine At.enter rfl ?_
          refine r_aload_n rfl ?_
          refine r_aload_n rfl ?_
          refine q_getI (Sh.int hI17729.1 kx_176 rfl) v17724 ((hF17730.1 176 4 (by decide)).trans hv17724) ?_
          refine q_putI (Sh.int hI17729.1 kx_176 rfl) rfl ?_
          have hI18266 := HI.wI0 hI17729 kx_176 rfl (p := 176) (b := 2) (v := v17724) rfl
          have hF18267 := Fr.wI (p := 176) (b := 2) (v := v17724) hF17733 rfl
          refine Ar.fall 16 rfl ?_
          refine At.enter rfl ?_
          refine q_vret ?_
          refine At.enter rfl ?_
          refine r_goto ?_
          refine At.enter rfl ?_
          refine q_vret ?_
          refine At.enter rfl ?_
          refine r_aload_n e17709 ?_
          refine q_getI (Sh.int hI18266.1 kx_176 rfl) v17724 (gI_sI_eq hI17729.1 kx_176 rfl _) ?_
          refine r_iconst (-1) rfl ?_
          refine r_ics 62 rfl (fun c18268 => ?_) (fun c18268 => ?_)
          · have c18268_ : v17724.toInt ≠ (-1) := en_i_ne_t c18268
            refine At.enter rfl ?_
            refine r_iload_n e17711 ?_
            refine r_ifs 124 rfl (fun c18269 => ?_) (fun c18269 => ?_)
            · have c18269_ : x17701.toInt = 0 := en_k_eq_t c18269
              refine At.enter rfl ?_
              refine r_vret ?_
              have x18270 := rX.e hI18266 (b := 2) ((gI_sI_eq hI17729.1 kx_176 rfl _))
              have x18271 := rX.e hI18266 (b := 4) ((((gI_sI_ne (by decide)).trans (hF17730.1 176 4 (by decide))).trans hv17724))
              obtain ⟨v18272, hv18272⟩ : ∃ v, gI g17703 176 6 = v := ⟨_, rfl⟩
              have tv18272 := congrArg Int32.toInt hv18272
              have x18273 := rX.e hI18266 (b := 6) ((((gI_sI_ne (by decide)).trans (hF17730.1 176 6 (by decide))).trans hv18272))
              obtain ⟨v18274, hv18274⟩ : ∃ v, gI g0 176 2 = v := ⟨_, rfl⟩
              have tv18274 := congrArg Int32.toInt hv18274
              have x18275 := rX.e hI0 (b := 2) (hv18274)
              have x18276 := rX.e hI0 (b := 4) (hv17721)
              have x18277 := rX.e hI17704 (b := 2) (hv18092)
              have x18278 := rX.e hI17704 (b := 4) (hv17724)
              exact ⟨_, rfl, hI18266, hF18267, rfl, ⟨(TKX.c q17715 (((gA_sI).trans (hF17730.2.1 175 (by decide)))) (((gI_sI_ne (by decide)).trans (hF17730.1 174 1 (by decide)))) (((gI_sI_ne (by decide)).trans (hF17730.1 176 3 (by decide)))) (((gI_sI_ne (by decide)).trans (hF17730.1 176 4 (by decide)))) (((gI_sI_ne (by decide)).trans (hF17730.1 176 5 (by decide))))), ((PRG0.tr (q17717) (PRG0.fail 1 (rX.c (b := 4) (((gI_sI_ne (by decide)).trans (hF17730.1 176 4 (by decide))))) (fun _ => by omega) (fun _ => by omega) (by omega)))).le (by omega), PLO.deep q17716 (TKX.someC q17715 ((hF17705.2.1 175 (by decide))) ((hF17705.1 174 1 (by decide)))).choose_spec (by omega) (by omega) (fun _ => by omega) (fun _ => by omega) (by omega)⟩⟩
            · have c18269_ : x17701.toInt ≠ 0 := en_k_eq_f c18269
              refine At.enter rfl ?_
              refine r_aload_n e17709 ?_
              refine q_getR (Sh.ref hI18266.1 kx_176 rfl) ?_
              refine r_bipush 9 rfl ?_
              refine r_iconst 0 rfl ?_
              refine r_callV 134 rfl [.ref 177, .int 9, .int 0] [] (Nat.le_of_ble_eq_true rfl) rfl (T_X4_add_177 _ hI18266 9 0) ?_
              rintro _ _ ⟨g18279, rfl, hI18280, hF18281, v18282, rfl, hr18283⟩
              refine At.sti ?_
              have hF18284 := Fr.tr hF18267 hF18281 rfl rfl
              refine At.enter rfl ?_
              refine r_pop rfl ?_
              refine Ar.fall 135 rfl ?_
              refine At.enter rfl ?_
              refine r_vret ?_
              have x18285 := rX.e hI18280 (b := 2) (((hF18281.1 176 2 (by decide)).trans (gI_sI_eq hI17729.1 kx_176 rfl _)))
              have x18286 := rX.e hI18280 (b := 4) ((((hF18281.1 176 4 (by decide)).trans ((gI_sI_ne (by decide)).trans (hF17730.1 176 4 (by decide)))).trans hv17724))
              obtain ⟨v18287, hv18287⟩ : ∃ v, gI g17703 176 6 = v := ⟨_, rfl⟩
              have tv18287 := congrArg Int32.toInt hv18287
              have x18288 := rX.e hI18280 (b := 6) ((((hF18281.1 176 6 (by decide)).trans ((gI_sI_ne (by decide)).trans (hF17730.1 176 6 (by decide)))).trans hv18287))
              obtain ⟨v18289, hv18289⟩ : ∃ v, gI g0 176 2 = v := ⟨_, rfl⟩
              have tv18289 := congrArg Int32.toInt hv18289
              have x18290 := rX.e hI0 (b := 2) (hv18289)
              have x18291 := rX.e hI0 (b := 4) (hv17721)
              have x18292 := rX.e hI17704 (b := 2) (hv18092)
              have x18293 := rX.e hI17704 (b := 4) (hv17724)
              exact ⟨_, rfl, hI18280, hF18284, rfl, ⟨(TKX.c q17715 (((hF18281.2.1 175 (by decide)).trans ((gA_sI).trans (hF17730.2.1 175 (by decide))))) (((hF18281.1 174 1 (by decide)).trans ((gI_sI_ne (by decide)).trans (hF17730.1 174 1 (by decide))))) (((hF18281.1 176 3 (by decide)).trans ((gI_sI_ne (by decide)).trans (hF17730.1 176 3 (by decide))))) (((hF18281.1 176 4 (by decide)).trans ((gI_sI_ne (by decide)).trans (hF17730.1 176 4 (by decide))))) (((hF18281.1 176 5 (by decide)).trans ((gI_sI_ne (by decide)).trans (hF17730.1 176 5 (by decide)))))), ((PRG0.tr (q17717) (PRG0.fail 1 (rX.c (b := 4) (((hF18281.1 176 4 (by decide)).trans ((gI_sI_ne (by decide)).trans (hF17730.1 176 4 (by decide)))))) (fun _ => by omega) (fun _ => by omega) (by omega)))).le (by omega), PLO.deep q17716 (TKX.someC q17715 ((hF17705.2.1 175 (by decide))) ((hF17705.1 174 1 (by decide)))).choose_spec (by omega) (by omega) (fun _ => by omega) (fun _ => by omega) (by omega)⟩⟩
          · have c18268_ : v17724.toInt = (-1) := en_i_ne_f c18268
            exfalso; omega
  · have c17727_ : x17702.toInt < 400 := en_i_ge_f c17727
    refine At.enter rfl ?_
    refine r_aload_n e17709 ?_
    refine r_ldcS (by decide) 4 rfl ?_
    refine r_callV 17 rfl [.ref 176, .float 4] [] (Nat.le_of_ble_eq_true rfl) rfl (T_X5_isWord_176 _ hI17704 4 (by decide) q17715) ?_
    rintro _ _ ⟨g18294, rfl, hI18295, hF18296, v18297, rfl, hr18298⟩
    refine At.sti ?_
    have hF18299 := Fr.tr hF17705 hF18296 rfl rfl
    have hb18300 : BL (CDX g17703 = 1) v18297.toInt := ISW.code (c := 1) hr18298.2 q17715 (isWC_d (by omega)) (by decide +kernel)
    refine At.enter rfl ?_
    refine r_ifs 20 rfl (fun c18301 => ?_) (fun c18301 => ?_)
    · have c18301_ : v18297.toInt = 0 := en_k_eq_t c18301
      have i18302 := BL.no hb18300 (by omega)
      refine At.enter rfl ?_
      refine r_aload_n e17709 ?_
      refine r_bipush 40 rfl ?_
      refine r_callV 46 rfl [.ref 176, .int 40] [] (Nat.le_of_ble_eq_true rfl) rfl (T_X5_isSingle_176 _ hI18295 40 (by decide)) ?_
      rintro _ _ ⟨g18303, rfl, hI18304, hF18305, v18306, rfl, hr18307⟩
      refine At.sti ?_
      have hF18308 := Fr.tr hF18299 hF18305 rfl rfl
      have zv18309 : (40 : Int32).toInt = 40 := rfl
      have hb18310 : BL (CDX g17703 = 2) v18306.toInt := by have z := ISX.code (c := 2) hr18307.2 (TKX.c q17715 ((hF18296.2.1 175 (by decide))) ((hF18296.1 174 1 (by decide))) ((hF18296.1 176 3 (by decide))) ((hF18296.1 176 4 (by decide))) ((hF18296.1 176 5 (by decide)))) (isSC_d (by omega)) (by decide); rw [CDX.c ((hF18296.2.1 175 (by decide))) ((hF18296.1 176 3 (by decide))) ((hF18296.1 176 4 (by decide))) ((hF18296.1 176 5 (by decide)))] at z; exact z
      refine At.enter rfl ?_
      refine r_ifs 49 rfl (fun c18311 => ?_) (fun c18311 => ?_)
      · have c18311_ : v18306.toInt = 0 := en_k_eq_t c18311
        have i18312 := BL.no hb18310 (by omega)
        refine At.enter rfl ?_
        refine r_aload_n e17709 ?_
        refine r_iconst 2 rfl ?_
        refine r_iload_n e17710 ?_
        have zv18313 : (2 : Int32).toInt = 2 := rfl
        refine r_callV 85 rfl [.ref 176, .int 2, .int a1] [] (Nat.le_of_ble_eq_true rfl) rfl (IHJ _ (by omega) hI18304 2 (by decide) a1 (by omega) (by omega) (TKX.c q17715 (((hF18305.2.1 175 (by decide)).trans (hF18296.2.1 175 (by decide)))) (((hF18305.1 174 1 (by decide)).trans (hF18296.1 174 1 (by decide)))) (((hF18305.1 176 3 (by decide)).trans (hF18296.1 176 3 (by decide)))) (((hF18305.1 176 4 (by decide)).trans (hF18296.1 176 4 (by decide)))) (((hF18305.1 176 5 (by decide)).trans (hF18296.1 176 5 (by decide)))))) ?_
        rintro _ _ ⟨g18314, rfl, hI18315, hF18316, rfl, hr18318⟩
        refine At.stn ?_
        have hF18319 := Fr.tr hF18308 hF18316 rfl rfl
        have zv18320 : (2 : Int32).toInt = 2 := rfl
        obtain ⟨v18325, hv18325⟩ : ∃ v, gI g17703 176 2 = v := ⟨_, rfl⟩
        have tv18325 := congrArg Int32.toInt hv18325
        have x18326 := rX.e hI18304 (b := 2) ((((hF18305.1 176 2 (by decide)).trans (hF18296.1 176 2 (by decide))).trans hv18325))
        have x18327 := rX.e hI18304 (b := 4) ((((hF18305.1 176 4 (by decide)).trans (hF18296.1 176 4 (by decide))).trans hv17724))
        obtain ⟨o18321, o18322, o18323, o18324⟩ := hr18318
        have o18328 := OPD.tc o18323 (((hF18305.2.1 175 (by decide)).trans ((hF18296.2.1 175 (by decide)).trans (hF17705.2.1 175 (by decide))))) (((hF18305.1 174 1 (by decide)).trans ((hF18296.1 174 1 (by decide)).trans (hF17705.1 174 1 (by decide)))))
        have o18329 := PRG0.fr o18322 (rX.c (b := 2) (((hF18305.1 176 2 (by decide)).trans (hF18296.1 176 2 (by decide))))) (rX.c (b := 4) (((hF18305.1 176 4 (by decide)).trans (hF18296.1 176 4 (by decide)))))
        have o18330 := OPD.fr o18328 (rX.c (b := 2) (((hF18305.1 176 2 (by decide)).trans (hF18296.1 176 2 (by decide))))) (rX.c (b := 4) (((hF18305.1 176 4 (by decide)).trans (hF18296.1 176 4 (by decide))))) (rX.c (b := 6) (((hF18305.1 176 6 (by decide)).trans (hF18296.1 176 6 (by decide)))))
        obtain ⟨v18331, hv18331⟩ : ∃ v, gI g18314 176 2 = v := ⟨_, rfl⟩
        have tv18331 := congrArg Int32.toInt hv18331
        have x18332 := rX.e hI18315 (b := 2) (hv18331)
        obtain ⟨v18333, hv18333⟩ : ∃ v, gI g18314 176 4 = v := ⟨_, rfl⟩
        have rv18333 := RgF.at hI18315.2.1 (p := 176) (b := 4) rfl
        rw [hv18333] at rv18333
        dsimp only at rv18333
        have tv18333 := congrArg Int32.toInt hv18333
        have x18334 := rX.e hI18315 (b := 4) (hv18333)
        refine At.enter rfl ?_
        refine r_aload_n e17709 ?_
        refine r_callV 89 rfl [.ref 176] [] (Nat.le_of_ble_eq_true rfl) rfl (T_X5_comparisonHere_176 _ hI18315 o18321) ?_
        rintro _ _ ⟨g18335, rfl, hI18336, hF18337, v18338, rfl, hr18339⟩
        refine At.sti ?_
        have hF18340 := Fr.tr hF18319 hF18337 rfl rfl
        have hb18341 : BLN (24 ≤ CDX g18314 ∧ CDX g18314 ≤ 26) v18338.toInt := hr18339.2
        refine At.enter rfl ?_
        refine r_istore_n _ rfl ?_
        refine r_iload_n (w_e1 _ _ _) ?_
        refine r_iconst (-1) rfl ?_
        refine r_ics 95 rfl (fun c18342 => ?_) (fun c18342 => ?_)
        · have c18342_ : v18338.toInt ≠ (-1) := en_i_ne_t c18342
          have i18343 := BLN.yes hb18341 (by omega)
          refine At.enter rfl ?_
          refine r_aload_n (w_p1 (by decide) (Or.inr rfl) e17709) ?_
          refine r_callV 104 rfl [.ref 176] [] (Nat.le_of_ble_eq_true rfl) rfl (T_X5_step_176 _ hI18336 (TKX.c o18321 ((hF18337.2.1 175 (by decide))) ((hF18337.1 174 1 (by decide))) ((hF18337.1 176 3 (by decide))) ((hF18337.1 176 4 (by decide))) ((hF18337.1 176 5 (by decide)))).1 (TKX.c o18321 ((hF18337.2.1 175 (by decide))) ((hF18337.1 174 1 (by decide))) ((hF18337.1 176 3 (by decide))) ((hF18337.1 176 4 (by decide))) ((hF18337.1 176 5 (by decide)))).2.1.le.2.1) ?_
          rintro _ _ ⟨g18344, rfl, hI18345, hF18346, rfl, hr18348⟩
          refine At.stn ?_
          have hF18349 := Fr.tr hF18340 hF18346 rfl rfl
          have tok18350_ := hr18348.2
          rw [TX.c ((hF18337.2.1 175 (by decide))), nX.c ((hF18337.1 174 1 (by decide))), rX.c (b := 5) ((hF18337.1 176 5 (by decide)))] at tok18350_
          have tok18350 := TKX.tok o18321 tok18350_
          rw [TX.c (((hF18316.2.1 175 (by decide)).trans ((hF18305.2.1 175 (by decide)).trans ((hF18296.2.1 175 (by decide)).trans (hF17705.2.1 175 (by decide)))))), nX.c (((hF18316.1 174 1 (by decide)).trans ((hF18305.1 174 1 (by decide)).trans ((hF18296.1 174 1 (by decide)).trans (hF17705.1 174 1 (by decide))))))] at tok18350
          have hT18351 := hr18348.1
          have x18352 := rX.e hI18336 (b := 4) (((hF18337.1 176 4 (by decide)).trans hv18333))
          obtain ⟨v18353, hv18353⟩ : ∃ v, gI g18344 176 4 = v := ⟨_, rfl⟩
          have rv18353 := RgF.at hI18345.2.1 (p := 176) (b := 4) rfl
          rw [hv18353] at rv18353
          dsimp only at rv18353
          have tv18353 := congrArg Int32.toInt hv18353
          have x18354 := rX.e hI18345 (b := 4) (hv18353)
          refine At.enter rfl ?_
          refine r_aload_n (w_p1 (by decide) (Or.inr rfl) e17709) ?_
          refine r_iconst 2 rfl ?_
          refine r_iload_n (w_p1 (by decide) (Or.inr rfl) e17710) ?_
          have zv18355 : (2 : Int32).toInt = 2 := rfl
          refine r_callV 110 rfl [.ref 176, .int 2, .int a1] [] (Nat.le_of_ble_eq_true rfl) rfl (IHJ _ (by omega) hI18345 2 (by decide) a1 (by omega) (by omega) hT18351) ?_
          rintro _ _ ⟨g18356, rfl, hI18357, hF18358, rfl, hr18360⟩
          refine At.stn ?_
          have hF18361 := Fr.tr hF18349 hF18358 rfl rfl
          have zv18362 : (2 : Int32).toInt = 2 := rfl
          have x18367 := rX.e hI18345 (b := 2) ((((hF18346.1 176 2 (by decide)).trans (hF18337.1 176 2 (by decide))).trans hv18331))
          have x18368 := rX.e hI18345 (b := 4) (hv18353)
          obtain ⟨o18363, o18364, o18365, o18366⟩ := hr18360
          have o18369 := OPD.tc o18365 (((hF18346.2.1 175 (by decide)).trans ((hF18337.2.1 175 (by decide)).trans ((hF18316.2.1 175 (by decide)).trans ((hF18305.2.1 175 (by decide)).trans ((hF18296.2.1 175 (by decide)).trans (hF17705.2.1 175 (by decide)))))))) (((hF18346.1 174 1 (by decide)).trans ((hF18337.1 174 1 (by decide)).trans ((hF18316.1 174 1 (by decide)).trans ((hF18305.1 174 1 (by decide)).trans ((hF18296.1 174 1 (by decide)).trans (hF17705.1 174 1 (by decide))))))))
          obtain ⟨v18370, hv18370⟩ : ∃ v, gI g18356 176 2 = v := ⟨_, rfl⟩
          have tv18370 := congrArg Int32.toInt hv18370
          have x18371 := rX.e hI18357 (b := 2) (hv18370)
          obtain ⟨v18372, hv18372⟩ : ∃ v, gI g18356 176 4 = v := ⟨_, rfl⟩
          have rv18372 := RgF.at hI18357.2.1 (p := 176) (b := 4) rfl
          rw [hv18372] at rv18372
          dsimp only at rv18372
          have tv18372 := congrArg Int32.toInt hv18372
          have x18373 := rX.e hI18357 (b := 4) (hv18372)
          refine At.enter rfl ?_
          refine r_aload_n (w_p1 (by decide) (Or.inr rfl) e17709) ?_
          refine q_getR (Sh.ref hI18357.1 kx_176 rfl) ?_
          refine r_iload_n (w_e1 _ _ _) ?_
          refine r_iconst 0 rfl ?_
          refine r_callV 119 rfl [.ref 177, .int v18338, .int 0] [] (Nat.le_of_ble_eq_true rfl) rfl (T_X4_add_177 _ hI18357 v18338 0) ?_
          rintro _ _ ⟨g18374, rfl, hI18375, hF18376, v18377, rfl, hr18378⟩
          refine At.sti ?_
          have hF18379 := Fr.tr hF18361 hF18376 rfl rfl
          refine At.enter rfl ?_
          refine r_pop rfl ?_
          refine Ar.fall 120 rfl ?_
          refine At.enter rfl ?_
          refine r_iload_n (w_p1 (by decide) (Or.inr rfl) e17711) ?_
          refine r_ifs 124 rfl (fun c18380 => ?_) (fun c18380 => ?_)
          · have c18380_ : x17701.toInt = 0 := en_k_eq_t c18380
            refine At.enter rfl ?_
            refine r_vret ?_
            have x18381 := rX.e hI18375 (b := 2) (((hF18376.1 176 2 (by decide)).trans hv18370))
            have x18382 := rX.e hI18375 (b := 4) (((hF18376.1 176 4 (by decide)).trans hv18372))
            obtain ⟨v18383, hv18383⟩ : ∃ v, gI g18356 176 6 = v := ⟨_, rfl⟩
            have tv18383 := congrArg Int32.toInt hv18383
            have x18384 := rX.e hI18375 (b := 6) (((hF18376.1 176 6 (by decide)).trans hv18383))
            obtain ⟨v18385, hv18385⟩ : ∃ v, gI g0 176 2 = v := ⟨_, rfl⟩
            have tv18385 := congrArg Int32.toInt hv18385
            have x18386 := rX.e hI0 (b := 2) (hv18385)
            have x18387 := rX.e hI0 (b := 4) (hv17721)
            have x18388 := rX.e hI17704 (b := 2) (hv18325)
            have x18389 := rX.e hI17704 (b := 4) (hv17724)
            have x18390 := rX.e hI18315 (b := 2) (hv18331)
            have x18391 := rX.e hI18315 (b := 4) (hv18333)
            obtain ⟨v18392, hv18392⟩ : ∃ v, gI g18314 176 6 = v := ⟨_, rfl⟩
            have tv18392 := congrArg Int32.toInt hv18392
            have x18393 := rX.e hI18315 (b := 6) (hv18392)
            have x18394 := rX.e hI18345 (b := 2) ((((hF18346.1 176 2 (by decide)).trans (hF18337.1 176 2 (by decide))).trans hv18331))
            have x18395 := rX.e hI18345 (b := 4) (hv18353)
            have x18396 := rX.e hI18345 (b := 6) ((((hF18346.1 176 6 (by decide)).trans (hF18337.1 176 6 (by decide))).trans hv18392))
            have x18397 := rX.e hI18357 (b := 2) (hv18370)
            have x18398 := rX.e hI18357 (b := 4) (hv18372)
            have x18399 := rX.e hI18357 (b := 6) (hv18383)
            exact ⟨_, rfl, hI18375, hF18379, rfl, ⟨(TKX.c o18363 ((hF18376.2.1 175 (by decide))) ((hF18376.1 174 1 (by decide))) ((hF18376.1 176 3 (by decide))) ((hF18376.1 176 4 (by decide))) ((hF18376.1 176 5 (by decide)))), ((PRG0.tr ((PRG0.tr ((PRG0.tr ((PRG0.tr (q17717) (o18329))) (PRG0.step o18321 tok18350_ (rX.c (b := 2) (((hF18346.1 176 2 (by decide)).trans (hF18337.1 176 2 (by decide))))) (by omega)))) (o18364))) (PRG0.eq (rX.c (b := 4) ((hF18376.1 176 4 (by decide)))) (rX.c (b := 2) ((hF18376.1 176 2 (by decide))))))).le (by omega), PLO.cmp q17716 (TKX.someC q17715 ((hF17705.2.1 175 (by decide))) ((hF17705.1 174 1 (by decide)))).choose_spec (by omega) o18330 tok18350 (by omega) (rX.c (b := 2) (((hF18346.1 176 2 (by decide)).trans (hF18337.1 176 2 (by decide))))) (rX.c (b := 6) (((hF18346.1 176 6 (by decide)).trans (hF18337.1 176 6 (by decide))))) o18369 (TKX.someC o18363 (((hF18358.2.1 175 (by decide)).trans ((hF18346.2.1 175 (by decide)).trans ((hF18337.2.1 175 (by decide)).trans ((hF18316.2.1 175 (by decide)).trans ((hF18305.2.1 175 (by decide)).trans ((hF18296.2.1 175 (by decide)).trans (hF17705.2.1 175 (by decide))))))))) (((hF18358.1 174 1 (by decide)).trans ((hF18346.1 174 1 (by decide)).trans ((hF18337.1 174 1 (by decide)).trans ((hF18316.1 174 1 (by decide)).trans ((hF18305.1 174 1 (by decide)).trans ((hF18296.1 174 1 (by decide)).trans (hF17705.1 174 1 (by decide)))))))))).choose_spec o18366 (rX.c (b := 2) ((hF18376.1 176 2 (by decide)))) (rX.c (b := 4) ((hF18376.1 176 4 (by decide)))) (rX.c (b := 6) ((hF18376.1 176 6 (by decide))))⟩⟩
          · have c18380_ : x17701.toInt ≠ 0 := en_k_eq_f c18380
            refine At.enter rfl ?_
            refine r_aload_n (w_p1 (by decide) (Or.inr rfl) e17709) ?_
            refine q_getR (Sh.ref hI18375.1 kx_176 rfl) ?_
            refine r_bipush 9 rfl ?_
            refine r_iconst 0 rfl ?_
            refine r_callV 134 rfl [.ref 177, .int 9, .int 0] [] (Nat.le_of_ble_eq_true rfl) rfl (T_X4_add_177 _ hI18375 9 0) ?_
            rintro _ _ ⟨g18400, rfl, hI18401, hF18402, v18403, rfl, hr18404⟩
            refine At.sti ?_
            have hF18405 := Fr.tr hF18379 hF18402 rfl rfl
            refine At.enter rfl ?_
            refine r_pop rfl ?_
            refine Ar.fall 135 rfl ?_
            refine At.enter rfl ?_
            refine r_vret ?_
            have x18406 := rX.e hI18401 (b := 2) ((((hF18402.1 176 2 (by decide)).trans (hF18376.1 176 2 (by decide))).trans hv18370))
            have x18407 := rX.e hI18401 (b := 4) ((((hF18402.1 176 4 (by decide)).trans (hF18376.1 176 4 (by decide))).trans hv18372))
            obtain ⟨v18408, hv18408⟩ : ∃ v, gI g18356 176 6 = v := ⟨_, rfl⟩
            have tv18408 := congrArg Int32.toInt hv18408
            have x18409 := rX.e hI18401 (b := 6) ((((hF18402.1 176 6 (by decide)).trans (hF18376.1 176 6 (by decide))).trans hv18408))
            obtain ⟨v18410, hv18410⟩ : ∃ v, gI g0 176 2 = v := ⟨_, rfl⟩
            have tv18410 := congrArg Int32.toInt hv18410
            have x18411 := rX.e hI0 (b := 2) (hv18410)
            have x18412 := rX.e hI0 (b := 4) (hv17721)
            have x18413 := rX.e hI17704 (b := 2) (hv18325)
            have x18414 := rX.e hI17704 (b := 4) (hv17724)
            have x18415 := rX.e hI18315 (b := 2) (hv18331)
            have x18416 := rX.e hI18315 (b := 4) (hv18333)
            obtain ⟨v18417, hv18417⟩ : ∃ v, gI g18314 176 6 = v := ⟨_, rfl⟩
            have tv18417 := congrArg Int32.toInt hv18417
            have x18418 := rX.e hI18315 (b := 6) (hv18417)
            have x18419 := rX.e hI18345 (b := 2) ((((hF18346.1 176 2 (by decide)).trans (hF18337.1 176 2 (by decide))).trans hv18331))
            have x18420 := rX.e hI18345 (b := 4) (hv18353)
            have x18421 := rX.e hI18345 (b := 6) ((((hF18346.1 176 6 (by decide)).trans (hF18337.1 176 6 (by decide))).trans hv18417))
            have x18422 := rX.e hI18357 (b := 2) (hv18370)
            have x18423 := rX.e hI18357 (b := 4) (hv18372)
            have x18424 := rX.e hI18357 (b := 6) (hv18408)
            exact ⟨_, rfl, hI18401, hF18405, rfl, ⟨(TKX.c o18363 (((hF18402.2.1 175 (by decide)).trans (hF18376.2.1 175 (by decide)))) (((hF18402.1 174 1 (by decide)).trans (hF18376.1 174 1 (by decide)))) (((hF18402.1 176 3 (by decide)).trans (hF18376.1 176 3 (by decide)))) (((hF18402.1 176 4 (by decide)).trans (hF18376.1 176 4 (by decide)))) (((hF18402.1 176 5 (by decide)).trans (hF18376.1 176 5 (by decide))))), ((PRG0.tr ((PRG0.tr ((PRG0.tr ((PRG0.tr (q17717) (o18329))) (PRG0.step o18321 tok18350_ (rX.c (b := 2) (((hF18346.1 176 2 (by decide)).trans (hF18337.1 176 2 (by decide))))) (by omega)))) (o18364))) (PRG0.eq (rX.c (b := 4) (((hF18402.1 176 4 (by decide)).trans (hF18376.1 176 4 (by decide))))) (rX.c (b := 2) (((hF18402.1 176 2 (by decide)).trans (hF18376.1 176 2 (by decide)))))))).le (by omega), PLO.cmp q17716 (TKX.someC q17715 ((hF17705.2.1 175 (by decide))) ((hF17705.1 174 1 (by decide)))).choose_spec (by omega) o18330 tok18350 (by omega) (rX.c (b := 2) (((hF18346.1 176 2 (by decide)).trans (hF18337.1 176 2 (by decide))))) (rX.c (b := 6) (((hF18346.1 176 6 (by decide)).trans (hF18337.1 176 6 (by decide))))) o18369 (TKX.someC o18363 (((hF18358.2.1 175 (by decide)).trans ((hF18346.2.1 175 (by decide)).trans ((hF18337.2.1 175 (by decide)).trans ((hF18316.2.1 175 (by decide)).trans ((hF18305.2.1 175 (by decide)).trans ((hF18296.2.1 175 (by decide)).trans (hF17705.2.1 175 (by decide))))))))) (((hF18358.1 174 1 (by decide)).trans ((hF18346.1 174 1 (by decide)).trans ((hF18337.1 174 1 (by decide)).trans ((hF18316.1 174 1 (by decide)).trans ((hF18305.1 174 1 (by decide)).trans ((hF18296.1 174 1 (by decide)).trans (hF17705.1 174 1 (by decide)))))))))).choose_spec o18366 (rX.c (b := 2) (((hF18402.1 176 2 (by decide)).trans (hF18376.1 176 2 (by decide))))) (rX.c (b := 4) (((hF18402.1 176 4 (by decide)).trans (hF18376.1 176 4 (by decide))))) (rX.c (b := 6) (((hF18402.1 176 6 (by decide)).trans (hF18376.1 176 6 (by decide)))))⟩⟩
        · have c18342_ : v18338.toInt = (-1) := en_i_ne_f c18342
          have i18425 := BLN.no hb18341 (by omega)
          refine At.enter rfl ?_
          refine r_aload_n (w_p1 (by decide) (Or.inr rfl) e17709) ?_
          refine q_inlV 99 rfl [.ref 176] [] (Nat.le_of_ble_eq_true rfl) rfl ?_
          refine Ev.mk rfl rfl ⟨Nat.le_of_ble_eq_true rfl, Or.inr (q_rc hI18336.1 kx_176 rfl)⟩ ?_
          show At _ none _ _ (0, [(0, .ref 176)], [], (_, _)) _
          refine At.enter rfl ?_
          refine r_aload_n rfl ?_
          refine q_getI (Sh.int hI18336.1 kx_176 rfl) v18331 ((hF18337.1 176 2 (by decide)).trans hv18331) ?_
          refine r_iconst (-1) rfl ?_
          refine r_ics 8 rfl (fun c18426 => ?_) (fun c18426 => ?_)
          · have c18426_ : v18331.toInt ≠ (-1) := en_i_ne_t c18426
            refine At.enter rfl ?_
            refine q_vret ?_
            refine At.enter rfl ?_
            refine r_vret ?_
            have x18427 := rX.e hI18336 (b := 2) (((hF18337.1 176 2 (by decide)).trans hv18331))
            have x18428 := rX.e hI18336 (b := 4) (((hF18337.1 176 4 (by decide)).trans hv18333))
            obtain ⟨v18429, hv18429⟩ : ∃ v, gI g18314 176 6 = v := ⟨_, rfl⟩
            have tv18429 := congrArg Int32.toInt hv18429
            have x18430 := rX.e hI18336 (b := 6) (((hF18337.1 176 6 (by decide)).trans hv18429))
            obtain ⟨v18431, hv18431⟩ : ∃ v, gI g0 176 2 = v := ⟨_, rfl⟩
            have tv18431 := congrArg Int32.toInt hv18431
            have x18432 := rX.e hI0 (b := 2) (hv18431)
            have x18433 := rX.e hI0 (b := 4) (hv17721)
            have x18434 := rX.e hI17704 (b := 2) (hv18325)
            have x18435 := rX.e hI17704 (b := 4) (hv17724)
            have x18436 := rX.e hI18315 (b := 2) (hv18331)
            have x18437 := rX.e hI18315 (b := 4) (hv18333)
            have x18438 := rX.e hI18315 (b := 6) (hv18429)
            exact ⟨_, rfl, hI18336, hF18340, rfl, ⟨(TKX.c o18321 ((hF18337.2.1 175 (by decide))) ((hF18337.1 174 1 (by decide))) ((hF18337.1 176 3 (by decide))) ((hF18337.1 176 4 (by decide))) ((hF18337.1 176 5 (by decide)))), ((PRG0.tr ((PRG0.tr (q17717) (o18329))) (PRG0.fail 1 (rX.c (b := 4) ((hF18337.1 176 4 (by decide)))) (fun _ => by omega) (fun _ => by omega) (by omega)))).le (by omega), PLO.cmpF q17716 (TKX.someC q17715 ((hF17705.2.1 175 (by decide))) ((hF17705.1 174 1 (by decide)))).choose_spec (by omega) o18330 (TKX.someC o18321 (((hF18316.2.1 175 (by decide)).trans ((hF18305.2.1 175 (by decide)).trans ((hF18296.2.1 175 (by decide)).trans (hF17705.2.1 175 (by decide)))))) (((hF18316.1 174 1 (by decide)).trans ((hF18305.1 174 1 (by decide)).trans ((hF18296.1 174 1 (by decide)).trans (hF17705.1 174 1 (by decide))))))).choose_spec o18324 (by omega) (fun _ => by omega) (fun _ => by omega) (by omega)⟩⟩
          · have c18426_ : v18331.toInt = (-1) := en_i_ne_f c18426
            refine At.enter rfl ?_
            refine r_aload_n rfl ?_
            refine r_aload_n rfl ?_
            refine q_getI (Sh.int hI18336.1 kx_176 rfl) v18333 ((hF18337.1 176 4 (by decide)).trans hv18333) ?_
            refine q_putI (Sh.int hI18336.1 kx_176 rfl) rfl ?_
            have hI18439 := HI.wI0 hI18336 kx_176 rfl (p := 176) (b := 2) (v := v18333) rfl
            have hF18440 := Fr.wI (p := 176) (b := 2) (v := v18333) hF18340 rfl
            refine Ar.fall 16 rfl ?_
            refine At.enter rfl ?_
            refine q_vret ?_
            refine At.enter rfl ?_
            refine r_vret ?_
            have x18441 := rX.e hI18439 (b := 2) ((gI_sI_eq hI18336.1 kx_176 rfl _))
            have x18442 := rX.e hI18439 (b := 4) ((((gI_sI_ne (by decide)).trans (hF18337.1 176 4 (by decide))).trans hv18333))
            obtain ⟨v18443, hv18443⟩ : ∃ v, gI g18314 176 6 = v := ⟨_, rfl⟩
            have tv18443 := congrArg Int32.toInt hv18443
            have x18444 := rX.e hI18439 (b := 6) ((((gI_sI_ne (by decide)).trans (hF18337.1 176 6 (by decide))).trans hv18443))
            obtain ⟨v18445, hv18445⟩ : ∃ v, gI g0 176 2 = v := ⟨_, rfl⟩
            have tv18445 := congrArg Int32.toInt hv18445
            have x18446 := rX.e hI0 (b := 2) (hv18445)
            have x18447 := rX.e hI0 (b := 4) (hv17721)
            have x18448 := rX.e hI17704 (b := 2) (hv18325)
            have x18449 := rX.e hI17704 (b := 4) (hv17724)
            have x18450 := rX.e hI18315 (b := 2) (hv18331)
            have x18451 := rX.e hI18315 (b := 4) (hv18333)
            have x18452 := rX.e hI18315 (b := 6) (hv18443)
            exact ⟨_, rfl, hI18439, hF18440, rfl, ⟨(TKX.c o18321 (((gA_sI).trans (hF18337.2.1 175 (by decide)))) (((gI_sI_ne (by decide)).trans (hF18337.1 174 1 (by decide)))) (((gI_sI_ne (by decide)).trans (hF18337.1 176 3 (by decide)))) (((gI_sI_ne (by decide)).trans (hF18337.1 176 4 (by decide)))) (((gI_sI_ne (by decide)).trans (hF18337.1 176 5 (by decide))))), ((PRG0.tr ((PRG0.tr (q17717) (o18329))) (PRG0.fail 1 (rX.c (b := 4) (((gI_sI_ne (by decide)).trans (hF18337.1 176 4 (by decide))))) (fun _ => by omega) (fun _ => by omega) (by omega)))).le (by omega), PLO.cmpF q17716 (TKX.someC q17715 ((hF17705.2.1 175 (by decide))) ((hF17705.1 174 1 (by decide)))).choose_spec (by omega) o18330 (TKX.someC o18321 (((hF18316.2.1 175 (by decide)).trans ((hF18305.2.1 175 (by decide)).trans ((hF18296.2.1 175 (by decide)).trans (hF17705.2.1 175 (by decide)))))) (((hF18316.1 174 1 (by decide)).trans ((hF18305.1 174 1 (by decide)).trans ((hF18296.1 174 1 (by decide)).trans (hF17705.1 174 1 (by decide))))))).choose_spec o18324 (by omega) (fun _ => by omega) (fun _ => by omega) (by omega)⟩⟩
      · have c18311_ : v18306.toInt ≠ 0 := en_k_eq_f c18311
        have i18453 := BL.yes hb18310 (by omega)
        refine At.enter rfl ?_
        refine r_aload_n e17709 ?_
        refine r_iload_n e17710 ?_
        refine q_inlV 54 rfl [.ref 176, .int a1] [] (Nat.le_of_ble_eq_true rfl) rfl ?_
        refine Ev.mk rfl rfl ⟨Nat.le_of_ble_eq_true rfl, Or.inr (q_rc hI18304.1 kx_176 rfl)⟩ ?_
        show At _ none _ _ (0, [(0, .ref 176), (1, .int a1)], [], (_, _)) _
        refine At.enter rfl ?_
        refine r_iload_n rfl ?_
        refine r_bipush 8 rfl ?_
        refine r_ics 6 rfl (fun c18454 => ?_) (fun c18454 => ?_)
        · have c18454_ : a1.toInt < 8 := en_i_lt_t c18454
          refine At.enter rfl ?_
          refine r_aload_n rfl ?_
          refine r_callV 17 rfl [.ref 176] [] (Nat.le_of_ble_eq_true rfl) rfl (T_X5_step_176 _ hI18304 (TKX.c q17715 (((hF18305.2.1 175 (by decide)).trans (hF18296.2.1 175 (by decide)))) (((hF18305.1 174 1 (by decide)).trans (hF18296.1 174 1 (by decide)))) (((hF18305.1 176 3 (by decide)).trans (hF18296.1 176 3 (by decide)))) (((hF18305.1 176 4 (by decide)).trans (hF18296.1 176 4 (by decide)))) (((hF18305.1 176 5 (by decide)).trans (hF18296.1 176 5 (by decide))))).1 (TKX.c q17715 (((hF18305.2.1 175 (by decide)).trans (hF18296.2.1 175 (by decide)))) (((hF18305.1 174 1 (by decide)).trans (hF18296.1 174 1 (by decide)))) (((hF18305.1 176 3 (by decide)).trans (hF18296.1 176 3 (by decide)))) (((hF18305.1 176 4 (by decide)).trans (hF18296.1 176 4 (by decide)))) (((hF18305.1 176 5 (by decide)).trans (hF18296.1 176 5 (by decide))))).2.1.le.2.1) ?_
          rintro _ _ ⟨g18455, rfl, hI18456, hF18457, rfl, hr18459⟩
          refine At.stn ?_
          have hF18460 := Fr.tr hF18308 hF18457 rfl rfl
          have tok18461_ := hr18459.2
          rw [TX.c (((hF18305.2.1 175 (by decide)).trans (hF18296.2.1 175 (by decide)))), nX.c (((hF18305.1 174 1 (by decide)).trans (hF18296.1 174 1 (by decide)))), rX.c (b := 5) (((hF18305.1 176 5 (by decide)).trans (hF18296.1 176 5 (by decide))))] at tok18461_
          have tok18461 := TKX.tok q17715 tok18461_
          rw [TX.c ((hF17705.2.1 175 (by decide))), nX.c ((hF17705.1 174 1 (by decide)))] at tok18461
          have hT18462 := hr18459.1
          have x18463 := rX.e hI18304 (b := 4) ((((hF18305.1 176 4 (by decide)).trans (hF18296.1 176 4 (by decide))).trans hv17724))
          obtain ⟨v18464, hv18464⟩ : ∃ v, gI g18455 176 4 = v := ⟨_, rfl⟩
          have rv18464 := RgF.at hI18456.2.1 (p := 176) (b := 4) rfl
          rw [hv18464] at rv18464
          dsimp only at rv18464
          have tv18464 := congrArg Int32.toInt hv18464
          have x18465 := rX.e hI18456 (b := 4) (hv18464)
          refine At.enter rfl ?_
          refine q_vret ?_
          refine At.enter rfl ?_
          refine r_aload_n e17709 ?_
          obtain ⟨v18466, hv18466⟩ : ∃ v, gI g17703 176 2 = v := ⟨_, rfl⟩
          refine q_getI (Sh.int hI18456.1 kx_176 rfl) v18466 (((hF18457.1 176 2 (by decide)).trans ((hF18305.1 176 2 (by decide)).trans (hF18296.1 176 2 (by decide)))).trans hv18466) ?_
          refine r_iconst (-1) rfl ?_
          refine r_ics 62 rfl (fun c18467 => ?_) (fun c18467 => ?_)
          · have c18467_ : v18466.toInt ≠ (-1) := en_i_ne_t c18467
            refine At.enter rfl ?_
            refine r_iload_n e17711 ?_
            refine r_ifs 124 rfl (fun c18468 => ?_) (fun c18468 => ?_)
            · have c18468_ : x17701.toInt = 0 := en_k_eq_t c18468
              refine At.enter rfl ?_
              refine r_vret ?_
              have x18469 := rX.e hI18456 (b := 2) ((((hF18457.1 176 2 (by decide)).trans ((hF18305.1 176 2 (by decide)).trans (hF18296.1 176 2 (by decide)))).trans hv18466))
              have x18470 := rX.e hI18456 (b := 4) (hv18464)
              obtain ⟨v18471, hv18471⟩ : ∃ v, gI g17703 176 6 = v := ⟨_, rfl⟩
              have tv18471 := congrArg Int32.toInt hv18471
              have x18472 := rX.e hI18456 (b := 6) ((((hF18457.1 176 6 (by decide)).trans ((hF18305.1 176 6 (by decide)).trans (hF18296.1 176 6 (by decide)))).trans hv18471))
              obtain ⟨v18473, hv18473⟩ : ∃ v, gI g0 176 2 = v := ⟨_, rfl⟩
              have tv18473 := congrArg Int32.toInt hv18473
              have x18474 := rX.e hI0 (b := 2) (hv18473)
              have x18475 := rX.e hI0 (b := 4) (hv17721)
              have x18476 := rX.e hI17704 (b := 2) (hv18466)
              have x18477 := rX.e hI17704 (b := 4) (hv17724)
              have x18478 := rX.e hI18456 (b := 2) ((((hF18457.1 176 2 (by decide)).trans ((hF18305.1 176 2 (by decide)).trans (hF18296.1 176 2 (by decide)))).trans hv18466))
              have x18479 := rX.e hI18456 (b := 4) (hv18464)
              have x18480 := rX.e hI18456 (b := 6) ((((hF18457.1 176 6 (by decide)).trans ((hF18305.1 176 6 (by decide)).trans (hF18296.1 176 6 (by decide)))).trans hv18471))
              exact ⟨_, rfl, hI18456, hF18460, rfl, ⟨hT18462, ((PRG0.tr ((PRG0.tr (q17717) (PRG0.step q17715 tok18461_ (rX.c (b := 2) (((hF18457.1 176 2 (by decide)).trans ((hF18305.1 176 2 (by decide)).trans (hF18296.1 176 2 (by decide)))))) (by omega)))) (PRG0.eq rfl rfl))).le (by omega), PLO.bad (g1 := g17703) q17716 (by omega) (rX.c (b := 2) (((hF18457.1 176 2 (by decide)).trans ((hF18305.1 176 2 (by decide)).trans (hF18296.1 176 2 (by decide))))))⟩⟩
            · have c18468_ : x17701.toInt ≠ 0 := en_k_eq_f c18468
              refine At.enter rfl ?_
              refine r_aload_n e17709 ?_
              refine q_getR (Sh.ref hI18456.1 kx_176 rfl) ?_
              refine r_bipush 9 rfl ?_
              refine r_iconst 0 rfl ?_
              refine r_callV 134 rfl [.ref 177, .int 9, .int 0] [] (Nat.le_of_ble_eq_true rfl) rfl (T_X4_add_177 _ hI18456 9 0) ?_
              rintro _ _ ⟨g18481, rfl, hI18482, hF18483, v18484, rfl, hr18485⟩
              refine At.sti ?_
              have hF18486 := Fr.tr hF18460 hF18483 rfl rfl
              refine At.enter rfl ?_
              refine r_pop rfl ?_
              refine Ar.fall 135 rfl ?_
              refine At.enter rfl ?_
              refine r_vret ?_
              have x18487 := rX.e hI18482 (b := 2) ((((hF18483.1 176 2 (by decide)).trans ((hF18457.1 176 2 (by decide)).trans ((hF18305.1 176 2 (by decide)).trans (hF18296.1 176 2 (by decide))))).trans hv18466))
              have x18488 := rX.e hI18482 (b := 4) (((hF18483.1 176 4 (by decide)).trans hv18464))
              obtain ⟨v18489, hv18489⟩ : ∃ v, gI g17703 176 6 = v := ⟨_, rfl⟩
              have tv18489 := congrArg Int32.toInt hv18489
              have x18490 := rX.e hI18482 (b := 6) ((((hF18483.1 176 6 (by decide)).trans ((hF18457.1 176 6 (by decide)).trans ((hF18305.1 176 6 (by decide)).trans (hF18296.1 176 6 (by decide))))).trans hv18489))
              obtain ⟨v18491, hv18491⟩ : ∃ v, gI g0 176 2 = v := ⟨_, rfl⟩
              have tv18491 := congrArg Int32.toInt hv18491
              have x18492 := rX.e hI0 (b := 2) (hv18491)
              have x18493 := rX.e hI0 (b := 4) (hv17721)
              have x18494 := rX.e hI17704 (b := 2) (hv18466)
              have x18495 := rX.e hI17704 (b := 4) (hv17724)
              have x18496 := rX.e hI18456 (b := 2) ((((hF18457.1 176 2 (by decide)).trans ((hF18305.1 176 2 (by decide)).trans (hF18296.1 176 2 (by decide)))).trans hv18466))
              have x18497 := rX.e hI18456 (b := 4) (hv18464)
              have x18498 := rX.e hI18456 (b := 6) ((((hF18457.1 176 6 (by decide)).trans ((hF18305.1 176 6 (by decide)).trans (hF18296.1 176 6 (by decide)))).trans hv18489))
              exact ⟨_, rfl, hI18482, hF18486, rfl, ⟨(TKX.c hT18462 ((hF18483.2.1 175 (by decide))) ((hF18483.1 174 1 (by decide))) ((hF18483.1 176 3 (by decide))) ((hF18483.1 176 4 (by decide))) ((hF18483.1 176 5 (by decide)))), ((PRG0.tr ((PRG0.tr (q17717) (PRG0.step q17715 tok18461_ (rX.c (b := 2) (((hF18457.1 176 2 (by decide)).trans ((hF18305.1 176 2 (by decide)).trans (hF18296.1 176 2 (by decide)))))) (by omega)))) (PRG0.eq (rX.c (b := 4) ((hF18483.1 176 4 (by decide)))) (rX.c (b := 2) ((hF18483.1 176 2 (by decide))))))).le (by omega), PLO.bad (g1 := g17703) q17716 (by omega) (rX.c (b := 2) (((hF18483.1 176 2 (by decide)).trans ((hF18457.1 176 2 (by decide)).trans ((hF18305.1 176 2 (by decide)).trans (hF18296.1 176 2 (by decide)))))))⟩⟩
          · have c18467_ : v18466.toInt = (-1) := en_i_ne_f c18467
            refine At.enter rfl ?_
            refine r_aload_n e17709 ?_
            refine r_iconst 0 rfl ?_
            refine r_iload_n e17710 ?_
            refine r_iconst 1 rfl ?_
            refine q_iadd (a1.toInt + 1) rfl (by omega) (fun v18499 hv18499 => ?_)
            have zv18500 : (0 : Int32).toInt = 0 := rfl
            refine r_callV 70 rfl [.ref 176, .int 0, .int v18499] [] (Nat.le_of_ble_eq_true rfl) rfl (IHJ _ (by omega) hI18456 0 (by decide) v18499 (by omega) (by omega) hT18462) ?_
            rintro _ _ ⟨g18501, rfl, hI18502, hF18503, rfl, hr18505⟩
            refine At.stn ?_
            have hF18506 := Fr.tr hF18460 hF18503 rfl rfl
            have zv18507 : (0 : Int32).toInt = 0 := rfl
            have x18512 := rX.e hI18456 (b := 2) ((((hF18457.1 176 2 (by decide)).trans ((hF18305.1 176 2 (by decide)).trans (hF18296.1 176 2 (by decide)))).trans hv18466))
            have x18513 := rX.e hI18456 (b := 4) (hv18464)
            obtain ⟨o18508, o18509, o18510, o18511⟩ := hr18505
            have o18514 := OPD.tc o18510 (((hF18457.2.1 175 (by decide)).trans ((hF18305.2.1 175 (by decide)).trans ((hF18296.2.1 175 (by decide)).trans (hF17705.2.1 175 (by decide)))))) (((hF18457.1 174 1 (by decide)).trans ((hF18305.1 174 1 (by decide)).trans ((hF18296.1 174 1 (by decide)).trans (hF17705.1 174 1 (by decide))))))
            obtain ⟨v18515, hv18515⟩ : ∃ v, gI g18501 176 2 = v := ⟨_, rfl⟩
            have tv18515 := congrArg Int32.toInt hv18515
            have x18516 := rX.e hI18502 (b := 2) (hv18515)
            obtain ⟨v18517, hv18517⟩ : ∃ v, gI g18501 176 4 = v := ⟨_, rfl⟩
            have rv18517 := RgF.at hI18502.2.1 (p := 176) (b := 4) rfl
            rw [hv18517] at rv18517
            dsimp only at rv18517
            have tv18517 := congrArg Int32.toInt hv18517
            have x18518 := rX.e hI18502 (b := 4) (hv18517)
            refine At.enter rfl ?_
            refine r_aload_n e17709 ?_
            refine r_bipush 41 rfl ?_
            refine q_inlV 76 rfl [.ref 176, .int 41] [] (Nat.le_of_ble_eq_true rfl) rfl ?_
            refine Ev.mk rfl rfl ⟨Nat.le_of_ble_eq_true rfl, Or.inr (q_rc hI18502.1 kx_176 rfl)⟩ ?_
            show At _ none _ _ (0, [(0, .ref 176), (1, .int 41)], [], (_, _)) _
            refine At.enter rfl ?_
            refine r_aload_n rfl ?_
            refine r_iload_n rfl ?_
            refine r_callV 5 rfl [.ref 176, .int 41] [] (Nat.le_of_ble_eq_true rfl) rfl (T_X5_isSingle_176 _ hI18502 41 (by decide)) ?_
            rintro _ _ ⟨g18519, rfl, hI18520, hF18521, v18522, rfl, hr18523⟩
            refine At.sti ?_
            have hF18524 := Fr.tr hF18506 hF18521 rfl rfl
            have zv18525 : (41 : Int32).toInt = 41 := rfl
            have hb18526 : BL (CDX g18501 = 9) v18522.toInt := ISX.code (c := 9) hr18523.2 o18508 (isSC_d (by omega)) (by decide)
            refine At.enter rfl ?_
            refine r_ifs 8 rfl (fun c18527 => ?_) (fun c18527 => ?_)
            · have c18527_ : v18522.toInt = 0 := en_k_eq_t c18527
              have i18528 := BL.no hb18526 (by omega)
              refine At.enter rfl ?_
              refine r_aload_n rfl ?_
              refine q_inlV 19 rfl [.ref 176] [] (Nat.le_of_ble_eq_true rfl) rfl ?_
              refine Ev.mk rfl rfl ⟨Nat.le_of_ble_eq_true rfl, Or.inr (q_rc hI18520.1 kx_176 rfl)⟩ ?_
              show At _ none _ _ (0, [(0, .ref 176)], [], (_, _)) _
              refine At.enter rfl ?_
              refine r_aload_n rfl ?_
              refine q_getI (Sh.int hI18520.1 kx_176 rfl) v18515 ((hF18521.1 176 2 (by decide)).trans hv18515) ?_
              refine r_iconst (-1) rfl ?_
              refine r_ics 8 rfl (fun c18529 => ?_) (fun c18529 => ?_)
              · have c18529_ : v18515.toInt ≠ (-1) := en_i_ne_t c18529
                refine At.enter rfl ?_
                refine q_vret ?_
                refine At.enter rfl ?_
                refine q_vret ?_
                refine At.enter rfl ?_
                refine r_goto ?_
                refine At.enter rfl ?_
                refine r_iload_n e17711 ?_
                refine r_ifs 124 rfl (fun c18530 => ?_) (fun c18530 => ?_)
                · have c18530_ : x17701.toInt = 0 := en_k_eq_t c18530
                  refine At.enter rfl ?_
                  refine r_vret ?_
                  have x18531 := rX.e hI18520 (b := 2) (((hF18521.1 176 2 (by decide)).trans hv18515))
                  have x18532 := rX.e hI18520 (b := 4) (((hF18521.1 176 4 (by decide)).trans hv18517))
                  obtain ⟨v18533, hv18533⟩ : ∃ v, gI g18501 176 6 = v := ⟨_, rfl⟩
                  have tv18533 := congrArg Int32.toInt hv18533
                  have x18534 := rX.e hI18520 (b := 6) (((hF18521.1 176 6 (by decide)).trans hv18533))
                  obtain ⟨v18535, hv18535⟩ : ∃ v, gI g0 176 2 = v := ⟨_, rfl⟩
                  have tv18535 := congrArg Int32.toInt hv18535
                  have x18536 := rX.e hI0 (b := 2) (hv18535)
                  have x18537 := rX.e hI0 (b := 4) (hv17721)
                  have x18538 := rX.e hI17704 (b := 2) (hv18466)
                  have x18539 := rX.e hI17704 (b := 4) (hv17724)
                  have x18540 := rX.e hI18456 (b := 2) ((((hF18457.1 176 2 (by decide)).trans ((hF18305.1 176 2 (by decide)).trans (hF18296.1 176 2 (by decide)))).trans hv18466))
                  have x18541 := rX.e hI18456 (b := 4) (hv18464)
                  obtain ⟨v18542, hv18542⟩ : ∃ v, gI g17703 176 6 = v := ⟨_, rfl⟩
                  have tv18542 := congrArg Int32.toInt hv18542
                  have x18543 := rX.e hI18456 (b := 6) ((((hF18457.1 176 6 (by decide)).trans ((hF18305.1 176 6 (by decide)).trans (hF18296.1 176 6 (by decide)))).trans hv18542))
                  have x18544 := rX.e hI18502 (b := 2) (hv18515)
                  have x18545 := rX.e hI18502 (b := 4) (hv18517)
                  have x18546 := rX.e hI18502 (b := 6) (hv18533)
                  exact ⟨_, rfl, hI18520, hF18524, rfl, ⟨(TKX.c o18508 ((hF18521.2.1 175 (by decide))) ((hF18521.1 174 1 (by decide))) ((hF18521.1 176 3 (by decide))) ((hF18521.1 176 4 (by decide))) ((hF18521.1 176 5 (by decide)))), ((PRG0.tr ((PRG0.tr ((PRG0.tr (q17717) (PRG0.step q17715 tok18461_ (rX.c (b := 2) (((hF18457.1 176 2 (by decide)).trans ((hF18305.1 176 2 (by decide)).trans (hF18296.1 176 2 (by decide)))))) (by omega)))) (o18509))) (PRG0.fail 1 (rX.c (b := 4) ((hF18521.1 176 4 (by decide)))) (fun _ => by omega) (fun _ => by omega) (by omega)))).le (by omega), PLO.rndF q17716 tok18461 (by omega) (by omega) (rX.c (b := 2) (((hF18457.1 176 2 (by decide)).trans ((hF18305.1 176 2 (by decide)).trans (hF18296.1 176 2 (by decide)))))) (rX.c (b := 6) (((hF18457.1 176 6 (by decide)).trans ((hF18305.1 176 6 (by decide)).trans (hF18296.1 176 6 (by decide)))))) (OPD.cast o18514 rfl (by omega)) (TKX.someC o18508 (((hF18503.2.1 175 (by decide)).trans ((hF18457.2.1 175 (by decide)).trans ((hF18305.2.1 175 (by decide)).trans ((hF18296.2.1 175 (by decide)).trans (hF17705.2.1 175 (by decide))))))) (((hF18503.1 174 1 (by decide)).trans ((hF18457.1 174 1 (by decide)).trans ((hF18305.1 174 1 (by decide)).trans ((hF18296.1 174 1 (by decide)).trans (hF17705.1 174 1 (by decide)))))))).choose_spec o18511 (by omega) (fun _ => by omega) (fun _ => by omega) (by omega)⟩⟩
                · have c18530_ : x17701.toInt ≠ 0 := en_k_eq_f c18530
                  refine At.enter rfl ?_
                  refine r_aload_n e17709 ?_
                  refine q_getR (Sh.ref hI18520.1 kx_176 rfl) ?_
                  refine r_bipush 9 rfl ?_
                  refine r_iconst 0 rfl ?_
                  refine r_callV 134 rfl [.ref 177, .int 9, .int 0] [] (Nat.le_of_ble_eq_true rfl) rfl (T_X4_add_177 _ hI18520 9 0) ?_
                  rintro _ _ ⟨g18547, rfl, hI18548, hF18549, v18550, rfl, hr18551⟩
                  refine At.sti ?_
                  have hF18552 := Fr.tr hF18524 hF18549 rfl rfl
                  refine At.enter rfl ?_
                  refine r_pop rfl ?_
                  refine Ar.fall 135 rfl ?_
                  refine At.enter rfl ?_
                  refine r_vret ?_
                  have x18553 := rX.e hI18548 (b := 2) ((((hF18549.1 176 2 (by decide)).trans (hF18521.1 176 2 (by decide))).trans hv18515))
                  have x18554 := rX.e hI18548 (b := 4) ((((hF18549.1 176 4 (by decide)).trans (hF18521.1 176 4 (by decide))).trans hv18517))
                  obtain ⟨v18555, hv18555⟩ : ∃ v, gI g18501 176 6 = v := ⟨_, rfl⟩
                  have tv18555 := congrArg Int32.toInt hv18555
                  have x18556 := rX.e hI18548 (b := 6) ((((hF18549.1 176 6 (by decide)).trans (hF18521.1 176 6 (by decide))).trans hv18555))
                  obtain ⟨v18557, hv18557⟩ : ∃ v, gI g0 176 2 = v := ⟨_, rfl⟩
                  have tv18557 := congrArg Int32.toInt hv18557
                  have x18558 := rX.e hI0 (b := 2) (hv18557)
                  have x18559 := rX.e hI0 (b := 4) (hv17721)
                  have x18560 := rX.e hI17704 (b := 2) (hv18466)
                  have x18561 := rX.e hI17704 (b := 4) (hv17724)
                  have x18562 := rX.e hI18456 (b := 2) ((((hF18457.1 176 2 (by decide)).trans ((hF18305.1 176 2 (by decide)).trans (hF18296.1 176 2 (by decide)))).trans hv18466))
                  have x18563 := rX.e hI18456 (b := 4) (hv18464)
                  obtain ⟨v18564, hv18564⟩ : ∃ v, gI g17703 176 6 = v := ⟨_, rfl⟩
                  have tv18564 := congrArg Int32.toInt hv18564
                  have x18565 := rX.e hI18456 (b := 6) ((((hF18457.1 176 6 (by decide)).trans ((hF18305.1 176 6 (by decide)).trans (hF18296.1 176 6 (by decide)))).trans hv18564))
                  have x18566 := rX.e hI18502 (b := 2) (hv18515)
                  have x18567 := rX.e hI18502 (b := 4) (hv18517)
                  have x18568 := rX.e hI18502 (b := 6) (hv18555)
                  exact ⟨_, rfl, hI18548, hF18552, rfl, ⟨(TKX.c o18508 (((hF18549.2.1 175 (by decide)).trans (hF18521.2.1 175 (by decide)))) (((hF18549.1 174 1 (by decide)).trans (hF18521.1 174 1 (by decide)))) (((hF18549.1 176 3 (by decide)).trans (hF18521.1 176 3 (by decide)))) (((hF18549.1 176 4 (by decide)).trans (hF18521.1 176 4 (by decide)))) (((hF18549.1 176 5 (by decide)).trans (hF18521.1 176 5 (by decide))))), ((PRG0.tr ((PRG0.tr ((PRG0.tr (q17717) (PRG0.step q17715 tok18461_ (rX.c (b := 2) (((hF18457.1 176 2 (by decide)).trans ((hF18305.1 176 2 (by decide)).trans (hF18296.1 176 2 (by decide)))))) (by omega)))) (o18509))) (PRG0.fail 1 (rX.c (b := 4) (((hF18549.1 176 4 (by decide)).trans (hF18521.1 176 4 (by decide))))) (fun _ => by omega) (fun _ => by omega) (by omega)))).le (by omega), PLO.rndF q17716 tok18461 (by omega) (by omega) (rX.c (b := 2) (((hF18457.1 176 2 (by decide)).trans ((hF18305.1 176 2 (by decide)).trans (hF18296.1 176 2 (by decide)))))) (rX.c (b := 6) (((hF18457.1 176 6 (by decide)).trans ((hF18305.1 176 6 (by decide)).trans (hF18296.1 176 6 (by decide)))))) (OPD.cast o18514 rfl (by omega)) (TKX.someC o18508 (((hF18503.2.1 175 (by decide)).trans ((hF18457.2.1 175 (by decide)).trans ((hF18305.2.1 175 (by decide)).trans ((hF18296.2.1 175 (by decide)).trans (hF17705.2.1 175 (by decide))))))) (((hF18503.1 174 1 (by decide)).trans ((hF18457.1 174 1 (by decide)).trans ((hF18305.1 174 1 (by decide)).trans ((hF18296.1 174 1 (by decide)).trans (hF17705.1 174 1 (by decide)))))))).choose_spec o18511 (by omega) (fun _ => by omega) (fun _ => by omega) (by omega)⟩⟩
              · have c18529_ : v18515.toInt = (-1) := en_i_ne_f c18529
                refine At.enter rfl ?_
                refine r_aload_n rfl ?_
                refine r_aload_n rfl ?_
                refine q_getI (Sh.int hI18520.1 kx_176 rfl) v18517 ((hF18521.1 176 4 (by decide)).trans hv18517) ?_
                refine q_putI (Sh.int hI18520.1 kx_176 rfl) rfl ?_
                have hI18569 := HI.wI0 hI18520 kx_176 rfl (p := 176) (b := 2) (v := v18517) rfl
                have hF18570 := Fr.wI (p := 176) (b := 2) (v := v18517) hF18524 rfl
                refine Ar.fall 16 rfl ?_
                refine At.enter rfl ?_
                refine q_vret ?_
                refine At.enter rfl ?_
                refine q_vret ?_
                refine At.enter rfl ?_
                refine r_goto ?_
                refine At.enter rfl ?_
                refine r_iload_n e17711 ?_
                refine r_ifs 124 rfl (fun c18571 => ?_) (fun c18571 => ?_)
                · have c18571_ : x17701.toInt = 0 := en_k_eq_t c18571
                  refine At.enter rfl ?_
                  refine r_vret ?_
                  have x18572 := rX.e hI18569 (b := 2) ((gI_sI_eq hI18520.1 kx_176 rfl _))
                  have x18573 := rX.e hI18569 (b := 4) ((((gI_sI_ne (by decide)).trans (hF18521.1 176 4 (by decide))).trans hv18517))
                  obtain ⟨v18574, hv18574⟩ : ∃ v, gI g18501 176 6 = v := ⟨_, rfl⟩
                  have tv18574 := congrArg Int32.toInt hv18574
                  have x18575 := rX.e hI18569 (b := 6) ((((gI_sI_ne (by decide)).trans (hF18521.1 176 6 (by decide))).trans hv18574))
                  obtain ⟨v18576, hv18576⟩ : ∃ v, gI g0 176 2 = v := ⟨_, rfl⟩
                  have tv18576 := congrArg Int32.toInt hv18576
                  have x18577 := rX.e hI0 (b := 2) (hv18576)
                  have x18578 := rX.e hI0 (b := 4) (hv17721)
                  have x18579 := rX.e hI17704 (b := 2) (hv18466)
                  have x18580 := rX.e hI17704 (b := 4) (hv17724)
                  have x18581 := rX.e hI18456 (b := 2) ((((hF18457.1 176 2 (by decide)).trans ((hF18305.1 176 2 (by decide)).trans (hF18296.1 176 2 (by decide)))).trans hv18466))
                  have x18582 := rX.e hI18456 (b := 4) (hv18464)
                  obtain ⟨v18583, hv18583⟩ : ∃ v, gI g17703 176 6 = v := ⟨_, rfl⟩
                  have tv18583 := congrArg Int32.toInt hv18583
                  have x18584 := rX.e hI18456 (b := 6) ((((hF18457.1 176 6 (by decide)).trans ((hF18305.1 176 6 (by decide)).trans (hF18296.1 176 6 (by decide)))).trans hv18583))
                  have x18585 := rX.e hI18502 (b := 2) (hv18515)
                  have x18586 := rX.e hI18502 (b := 4) (hv18517)
                  have x18587 := rX.e hI18502 (b := 6) (hv18574)
                  exact ⟨_, rfl, hI18569, hF18570, rfl, ⟨(TKX.c o18508 (((gA_sI).trans (hF18521.2.1 175 (by decide)))) (((gI_sI_ne (by decide)).trans (hF18521.1 174 1 (by decide)))) (((gI_sI_ne (by decide)).trans (hF18521.1 176 3 (by decide)))) (((gI_sI_ne (by decide)).trans (hF18521.1 176 4 (by decide)))) (((gI_sI_ne (by decide)).trans (hF18521.1 176 5 (by decide))))), ((PRG0.tr ((PRG0.tr ((PRG0.tr (q17717) (PRG0.step q17715 tok18461_ (rX.c (b := 2) (((hF18457.1 176 2 (by decide)).trans ((hF18305.1 176 2 (by decide)).trans (hF18296.1 176 2 (by decide)))))) (by omega)))) (o18509))) (PRG0.fail 1 (rX.c (b := 4) (((gI_sI_ne (by decide)).trans (hF18521.1 176 4 (by decide))))) (fun _ => by omega) (fun _ => by omega) (by omega)))).le (by omega), PLO.rndF q17716 tok18461 (by omega) (by omega) (rX.c (b := 2) (((hF18457.1 176 2 (by decide)).trans ((hF18305.1 176 2 (by decide)).trans (hF18296.1 176 2 (by decide)))))) (rX.c (b := 6) (((hF18457.1 176 6 (by decide)).trans ((hF18305.1 176 6 (by decide)).trans (hF18296.1 176 6 (by decide)))))) (OPD.cast o18514 rfl (by omega)) (TKX.someC o18508 (((hF18503.2.1 175 (by decide)).trans ((hF18457.2.1 175 (by decide)).trans ((hF18305.2.1 175 (by decide)).trans ((hF18296.2.1 175 (by decide)).trans (hF17705.2.1 175 (by decide))))))) (((hF18503.1 174 1 (by decide)).trans ((hF18457.1 174 1 (by decide)).trans ((hF18305.1 174 1 (by decide)).trans ((hF18296.1 174 1 (by decide)).trans (hF17705.1 174 1 (by decide)))))))).choose_spec o18511 (by omega) (fun _ => by omega) (fun _ => by omega) (by omega)⟩⟩
                · have c18571_ : x17701.toInt ≠ 0 := en_k_eq_f c18571
                  refine At.enter rfl ?_
                  refine r_aload_n e17709 ?_
                  refine q_getR (Sh.ref hI18569.1 kx_176 rfl) ?_
                  refine r_bipush 9 rfl ?_
                  refine r_iconst 0 rfl ?_
                  refine r_callV 134 rfl [.ref 177, .int 9, .int 0] [] (Nat.le_of_ble_eq_true rfl) rfl (T_X4_add_177 _ hI18569 9 0) ?_
                  rintro _ _ ⟨g18588, rfl, hI18589, hF18590, v18591, rfl, hr18592⟩
                  refine At.sti ?_
                  have hF18593 := Fr.tr hF18570 hF18590 rfl rfl
                  refine At.enter rfl ?_
                  refine r_pop rfl ?_
                  refine Ar.fall 135 rfl ?_
                  refine At.enter rfl ?_
                  refine r_vret ?_
                  have x18594 := rX.e hI18589 (b := 2) (((hF18590.1 176 2 (by decide)).trans (gI_sI_eq hI18520.1 kx_176 rfl _)))
                  have x18595 := rX.e hI18589 (b := 4) ((((hF18590.1 176 4 (by decide)).trans ((gI_sI_ne (by decide)).trans (hF18521.1 176 4 (by decide)))).trans hv18517))
                  obtain ⟨v18596, hv18596⟩ : ∃ v, gI g18501 176 6 = v := ⟨_, rfl⟩
                  have tv18596 := congrArg Int32.toInt hv18596
                  have x18597 := rX.e hI18589 (b := 6) ((((hF18590.1 176 6 (by decide)).trans ((gI_sI_ne (by decide)).trans (hF18521.1 176 6 (by decide)))).trans hv18596))
                  obtain ⟨v18598, hv18598⟩ : ∃ v, gI g0 176 2 = v := ⟨_, rfl⟩
                  have tv18598 := congrArg Int32.toInt hv18598
                  have x18599 := rX.e hI0 (b := 2) (hv18598)
                  have x18600 := rX.e hI0 (b := 4) (hv17721)
                  have x18601 := rX.e hI17704 (b := 2) (hv18466)
                  have x18602 := rX.e hI17704 (b := 4) (hv17724)
                  have x18603 := rX.e hI18456 (b := 2) ((((hF18457.1 176 2 (by decide)).trans ((hF18305.1 176 2 (by decide)).trans (hF18296.1 176 2 (by decide)))).trans hv18466))
                  have x18604 := rX.e hI18456 (b := 4) (hv18464)
                  obtain ⟨v18605, hv18605⟩ : ∃ v, gI g17703 176 6 = v := ⟨_, rfl⟩
                  have tv18605 := congrArg Int32.toInt hv18605
                  have x18606 := rX.e hI18456 (b := 6) ((((hF18457.1 176 6 (by decide)).trans ((hF18305.1 176 6 (by decide)).trans (hF18296.1 176 6 (by decide)))).trans hv18605))
                  have x18607 := rX.e hI18502 (b := 2) (hv18515)
                  have x18608 := rX.e hI18502 (b := 4) (hv18517)
                  have x18609 := rX.e hI18502 (b := 6) (hv18596)
                  exact ⟨_, rfl, hI18589, hF18593, rfl, ⟨(TKX.c o18508 (((hF18590.2.1 175 (by decide)).trans ((gA_sI).trans (hF18521.2.1 175 (by decide))))) (((hF18590.1 174 1 (by decide)).trans ((gI_sI_ne (by decide)).trans (hF18521.1 174 1 (by decide))))) (((hF18590.1 176 3 (by decide)).trans ((gI_sI_ne (by decide)).trans (hF18521.1 176 3 (by decide))))) (((hF18590.1 176 4 (by decide)).trans ((gI_sI_ne (by decide)).trans (hF18521.1 176 4 (by decide))))) (((hF18590.1 176 5 (by decide)).trans ((gI_sI_ne (by decide)).trans (hF18521.1 176 5 (by decide)))))), ((PRG0.tr ((PRG0.tr ((PRG0.tr (q17717) (PRG0.step q17715 tok18461_ (rX.c (b := 2) (((hF18457.1 176 2 (by decide)).trans ((hF18305.1 176 2 (by decide)).trans (hF18296.1 176 2 (by decide)))))) (by omega)))) (o18509))) (PRG0.fail 1 (rX.c (b := 4) (((hF18590.1 176 4 (by decide)).trans ((gI_sI_ne (by decide)).trans (hF18521.1 176 4 (by decide)))))) (fun _ => by omega) (fun _ => by omega) (by omega)))).le (by omega), PLO.rndF q17716 tok18461 (by omega) (by omega) (rX.c (b := 2) (((hF18457.1 176 2 (by decide)).trans ((hF18305.1 176 2 (by decide)).trans (hF18296.1 176 2 (by decide)))))) (rX.c (b := 6) (((hF18457.1 176 6 (by decide)).trans ((hF18305.1 176 6 (by decide)).trans (hF18296.1 176 6 (by decide)))))) (OPD.cast o18514 rfl (by omega)) (TKX.someC o18508 (((hF18503.2.1 175 (by decide)).trans ((hF18457.2.1 175 (by decide)).trans ((hF18305.2.1 175 (by decide)).trans ((hF18296.2.1 175 (by decide)).trans (hF17705.2.1 175 (by decide))))))) (((hF18503.1 174 1 (by decide)).trans ((hF18457.1 174 1 (by decide)).trans ((hF18305.1 174 1 (by decide)).trans ((hF18296.1 174 1 (by decide)).trans (hF17705.1 174 1 (by decide)))))))).choose_spec o18511 (by omega) (fun _ => by omega) (fun _ => by omega) (by omega)⟩⟩
            · have c18527_ : v18522.toInt ≠ 0 := en_k_eq_f c18527
              have i18610 := BL.yes hb18526 (by omega)
              refine At.enter rfl ?_
              refine r_aload_n rfl ?_
              refine r_callV 12 rfl [.ref 176] [] (Nat.le_of_ble_eq_true rfl) rfl (T_X5_step_176 _ hI18520 (TKX.c o18508 ((hF18521.2.1 175 (by decide))) ((hF18521.1 174 1 (by decide))) ((hF18521.1 176 3 (by decide))) ((hF18521.1 176 4 (by decide))) ((hF18521.1 176 5 (by decide)))).1 (TKX.c o18508 ((hF18521.2.1 175 (by decide))) ((hF18521.1 174 1 (by decide))) ((hF18521.1 176 3 (by decide))) ((hF18521.1 176 4 (by decide))) ((hF18521.1 176 5 (by decide)))).2.1.le.2.1) ?_
              rintro _ _ ⟨g18611, rfl, hI18612, hF18613, rfl, hr18615⟩
              refine At.stn ?_
              have hF18616 := Fr.tr hF18524 hF18613 rfl rfl
              have tok18617_ := hr18615.2
              rw [TX.c ((hF18521.2.1 175 (by decide))), nX.c ((hF18521.1 174 1 (by decide))), rX.c (b := 5) ((hF18521.1 176 5 (by decide)))] at tok18617_
              have tok18617 := TKX.tok o18508 tok18617_
              rw [TX.c (((hF18503.2.1 175 (by decide)).trans ((hF18457.2.1 175 (by decide)).trans ((hF18305.2.1 175 (by decide)).trans ((hF18296.2.1 175 (by decide)).trans (hF17705.2.1 175 (by decide))))))), nX.c (((hF18503.1 174 1 (by decide)).trans ((hF18457.1 174 1 (by decide)).trans ((hF18305.1 174 1 (by decide)).trans ((hF18296.1 174 1 (by decide)).trans (hF17705.1 174 1 (by decide)))))))] at tok18617
              have hT18618 := hr18615.1
              have x18619 := rX.e hI18520 (b := 4) (((hF18521.1 176 4 (by decide)).trans hv18517))
              obtain ⟨v18620, hv18620⟩ : ∃ v, gI g18611 176 4 = v := ⟨_, rfl⟩
              have rv18620 := RgF.at hI18612.2.1 (p := 176) (b := 4) rfl
              rw [hv18620] at rv18620
              dsimp only at rv18620
              have tv18620 := congrArg Int32.toInt hv18620
              have x18621 := rX.e hI18612 (b := 4) (hv18620)
              refine At.enter rfl ?_
              refine r_goto ?_
              refine At.enter rfl ?_
              refine q_vret ?_
              refine At.enter rfl ?_
              refine r_goto ?_
              refine At.enter rfl ?_
              refine r_iload_n e17711 ?_
              refine r_ifs 124 rfl (fun c18622 => ?_) (fun c18622 => ?_)
              · have c18622_ : x17701.toInt = 0 := en_k_eq_t c18622
                refine At.enter rfl ?_
                refine r_vret ?_
                have x18623 := rX.e hI18612 (b := 2) ((((hF18613.1 176 2 (by decide)).trans (hF18521.1 176 2 (by decide))).trans hv18515))
                have x18624 := rX.e hI18612 (b := 4) (hv18620)
                obtain ⟨v18625, hv18625⟩ : ∃ v, gI g18501 176 6 = v := ⟨_, rfl⟩
                have tv18625 := congrArg Int32.toInt hv18625
                have x18626 := rX.e hI18612 (b := 6) ((((hF18613.1 176 6 (by decide)).trans (hF18521.1 176 6 (by decide))).trans hv18625))
                obtain ⟨v18627, hv18627⟩ : ∃ v, gI g0 176 2 = v := ⟨_, rfl⟩
                have tv18627 := congrArg Int32.toInt hv18627
                have x18628 := rX.e hI0 (b := 2) (hv18627)
                have x18629 := rX.e hI0 (b := 4) (hv17721)
                have x18630 := rX.e hI17704 (b := 2) (hv18466)
                have x18631 := rX.e hI17704 (b := 4) (hv17724)
                have x18632 := rX.e hI18456 (b := 2) ((((hF18457.1 176 2 (by decide)).trans ((hF18305.1 176 2 (by decide)).trans (hF18296.1 176 2 (by decide)))).trans hv18466))
                have x18633 := rX.e hI18456 (b := 4) (hv18464)
                obtain ⟨v18634, hv18634⟩ : ∃ v, gI g17703 176 6 = v := ⟨_, rfl⟩
                have tv18634 := congrArg Int32.toInt hv18634
                have x18635 := rX.e hI18456 (b := 6) ((((hF18457.1 176 6 (by decide)).trans ((hF18305.1 176 6 (by decide)).trans (hF18296.1 176 6 (by decide)))).trans hv18634))
                have x18636 := rX.e hI18502 (b := 2) (hv18515)
                have x18637 := rX.e hI18502 (b := 4) (hv18517)
                have x18638 := rX.e hI18502 (b := 6) (hv18625)
                have x18639 := rX.e hI18612 (b := 2) ((((hF18613.1 176 2 (by decide)).trans (hF18521.1 176 2 (by decide))).trans hv18515))
                have x18640 := rX.e hI18612 (b := 4) (hv18620)
                have x18641 := rX.e hI18612 (b := 6) ((((hF18613.1 176 6 (by decide)).trans (hF18521.1 176 6 (by decide))).trans hv18625))
                exact ⟨_, rfl, hI18612, hF18616, rfl, ⟨hT18618, ((PRG0.tr ((PRG0.tr ((PRG0.tr ((PRG0.tr (q17717) (PRG0.step q17715 tok18461_ (rX.c (b := 2) (((hF18457.1 176 2 (by decide)).trans ((hF18305.1 176 2 (by decide)).trans (hF18296.1 176 2 (by decide)))))) (by omega)))) (o18509))) (PRG0.step o18508 tok18617_ (rX.c (b := 2) (((hF18613.1 176 2 (by decide)).trans (hF18521.1 176 2 (by decide))))) (by omega)))) (PRG0.eq rfl rfl))).le (by omega), PLO.rnd q17716 tok18461 (by omega) (by omega) (rX.c (b := 2) (((hF18457.1 176 2 (by decide)).trans ((hF18305.1 176 2 (by decide)).trans (hF18296.1 176 2 (by decide)))))) (rX.c (b := 6) (((hF18457.1 176 6 (by decide)).trans ((hF18305.1 176 6 (by decide)).trans (hF18296.1 176 6 (by decide)))))) (OPD.cast o18514 rfl (by omega)) tok18617 (by omega) (rX.c (b := 2) (((hF18613.1 176 2 (by decide)).trans (hF18521.1 176 2 (by decide))))) (rX.c (b := 6) (((hF18613.1 176 6 (by decide)).trans (hF18521.1 176 6 (by decide))))) rfl rfl rfl⟩⟩
              · have c18622_ : x17701.toInt ≠ 0 := en_k_eq_f c18622
                refine At.enter rfl ?_
                refine r_aload_n e17709 ?_
                refine q_getR (Sh.ref hI18612.1 kx_176 rfl) ?_
                refine r_bipush 9 rfl ?_
                refine r_iconst 0 rfl ?_
                refine r_callV 134 rfl [.ref 177, .int 9, .int 0] [] (Nat.le_of_ble_eq_true rfl) rfl (T_X4_add_177 _ hI18612 9 0) ?_
                rintro _ _ ⟨g18642, rfl, hI18643, hF18644, v18645, rfl, hr18646⟩
                refine At.sti ?_
                have hF18647 := Fr.tr hF18616 hF18644 rfl rfl
                refine At.enter rfl ?_
                refine r_pop rfl ?_
                refine Ar.fall 135 rfl ?_
                refine At.enter rfl ?_
                refine r_vret ?_
                have x18648 := rX.e hI18643 (b := 2) ((((hF18644.1 176 2 (by decide)).trans ((hF18613.1 176 2 (by decide)).trans (hF18521.1 176 2 (by decide)))).trans hv18515))
                have x18649 := rX.e hI18643 (b := 4) (((hF18644.1 176 4 (by decide)).trans hv18620))
                obtain ⟨v18650, hv18650⟩ : ∃ v, gI g18501 176 6 = v := ⟨_, rfl⟩
                have tv18650 := congrArg Int32.toInt hv18650
                have x18651 := rX.e hI18643 (b := 6) ((((hF18644.1 176 6 (by decide)).trans ((hF18613.1 176 6 (by decide)).trans (hF18521.1 176 6 (by decide)))).trans hv18650))
                obtain ⟨v18652, hv18652⟩ : ∃ v, gI g0 176 2 = v := ⟨_, rfl⟩
                have tv18652 := congrArg Int32.toInt hv18652
                have x18653 := rX.e hI0 (b := 2) (hv18652)
                have x18654 := rX.e hI0 (b := 4) (hv17721)
                have x18655 := rX.e hI17704 (b := 2) (hv18466)
                have x18656 := rX.e hI17704 (b := 4) (hv17724)
                have x18657 := rX.e hI18456 (b := 2) ((((hF18457.1 176 2 (by decide)).trans ((hF18305.1 176 2 (by decide)).trans (hF18296.1 176 2 (by decide)))).trans hv18466))
                have x18658 := rX.e hI18456 (b := 4) (hv18464)
                obtain ⟨v18659, hv18659⟩ : ∃ v, gI g17703 176 6 = v := ⟨_, rfl⟩
                have tv18659 := congrArg Int32.toInt hv18659
                have x18660 := rX.e hI18456 (b := 6) ((((hF18457.1 176 6 (by decide)).trans ((hF18305.1 176 6 (by decide)).trans (hF18296.1 176 6 (by decide)))).trans hv18659))
                have x18661 := rX.e hI18502 (b := 2) (hv18515)
                have x18662 := rX.e hI18502 (b := 4) (hv18517)
                have x18663 := rX.e hI18502 (b := 6) (hv18650)
                have x18664 := rX.e hI18612 (b := 2) ((((hF18613.1 176 2 (by decide)).trans (hF18521.1 176 2 (by decide))).trans hv18515))
                have x18665 := rX.e hI18612 (b := 4) (hv18620)
                have x18666 := rX.e hI18612 (b := 6) ((((hF18613.1 176 6 (by decide)).trans (hF18521.1 176 6 (by decide))).trans hv18650))
                exact ⟨_, rfl, hI18643, hF18647, rfl, ⟨(TKX.c hT18618 ((hF18644.2.1 175 (by decide))) ((hF18644.1 174 1 (by decide))) ((hF18644.1 176 3 (by decide))) ((hF18644.1 176 4 (by decide))) ((hF18644.1 176 5 (by decide)))), ((PRG0.tr ((PRG0.tr ((PRG0.tr ((PRG0.tr (q17717) (PRG0.step q17715 tok18461_ (rX.c (b := 2) (((hF18457.1 176 2 (by decide)).trans ((hF18305.1 176 2 (by decide)).trans (hF18296.1 176 2 (by decide)))))) (by omega)))) (o18509))) (PRG0.step o18508 tok18617_ (rX.c (b := 2) (((hF18613.1 176 2 (by decide)).trans (hF18521.1 176 2 (by decide))))) (by omega)))) (PRG0.eq (rX.c (b := 4) ((hF18644.1 176 4 (by decide)))) (rX.c (b := 2) ((hF18644.1 176 2 (by decide))))))).le (by omega), PLO.rnd q17716 tok18461 (by omega) (by omega) (rX.c (b := 2) (((hF18457.1 176 2 (by decide)).trans ((hF18305.1 176 2 (by decide)).trans (hF18296.1 176 2 (by decide)))))) (rX.c (b := 6) (((hF18457.1 176 6 (by decide)).trans ((hF18305.1 176 6 (by decide)).trans (hF18296.1 176 6 (by decide)))))) (OPD.cast o18514 rfl (by omega)) tok18617 (by omega) (rX.c (b := 2) (((hF18613.1 176 2 (by decide)).trans (hF18521.1 176 2 (by decide))))) (rX.c (b := 6) (((hF18613.1 176 6 (by decide)).trans (hF18521.1 176 6 (by decide))))) (rX.c (b := 2) ((hF18644.1 176 2 (by decide)))) (rX.c (b := 4) ((hF18644.1 176 4 (by decide)))) (rX.c (b := 6) ((hF18644.1 176 6 (by decide))))⟩⟩
        · have c18454_ : a1.toInt ≥ 8 := en_i_lt_f c18454
          refine At.enter rfl ?_
          refine r_aload_n rfl ?_
          refine q_inlV 10 rfl [.ref 176] [] (Nat.le_of_ble_eq_true rfl) rfl ?_
          refine Ev.mk rfl rfl ⟨Nat.le_of_ble_eq_true rfl, Or.inr (q_rc hI18304.1 kx_176 rfl)⟩ ?_
          show At _ none _ _ (0, [(0, .ref 176)], [], (_, _)) _
          refine At.enter rfl ?_
          refine r_aload_n rfl ?_
          obtain ⟨v18667, hv18667⟩ : ∃ v, gI g17703 176 2 = v := ⟨_, rfl⟩
          refine q_getI (Sh.int hI18304.1 kx_176 rfl) v18667 (((hF18305.1 176 2 (by decide)).trans (hF18296.1 176 2 (by decide))).trans hv18667) ?_
          refine r_iconst (-1) rfl ?_
          refine r_ics 8 rfl (fun c18668 => ?_) (fun c18668 => ?_)
          · have c18668_ : v18667.toInt ≠ (-1) := en_i_ne_t c18668
            refine At.enter rfl ?_
            refine q_vret ?_
            refine At.enter rfl ?_
            refine r_goto ?_
            refine At.enter rfl ?_
            refine q_vret ?_
            refine At.enter rfl ?_
            refine r_aload_n e17709 ?_
            refine q_getI (Sh.int hI18304.1 kx_176 rfl) v18667 (((hF18305.1 176 2 (by decide)).trans (hF18296.1 176 2 (by decide))).trans hv18667) ?_
            refine r_iconst (-1) rfl ?_
            refine r_ics 62 rfl (fun c18669 => ?_) (fun c18669 => ?_)
            · have c18669_ : v18667.toInt ≠ (-1) := en_i_ne_t c18669
              refine At.enter rfl ?_
              refine r_iload_n e17711 ?_
              refine r_ifs 124 rfl (fun c18670 => ?_) (fun c18670 => ?_)
              · have c18670_ : x17701.toInt = 0 := en_k_eq_t c18670
                refine At.enter rfl ?_
                refine r_vret ?_
                have x18671 := rX.e hI18304 (b := 2) ((((hF18305.1 176 2 (by decide)).trans (hF18296.1 176 2 (by decide))).trans hv18667))
                have x18672 := rX.e hI18304 (b := 4) ((((hF18305.1 176 4 (by decide)).trans (hF18296.1 176 4 (by decide))).trans hv17724))
                obtain ⟨v18673, hv18673⟩ : ∃ v, gI g17703 176 6 = v := ⟨_, rfl⟩
                have tv18673 := congrArg Int32.toInt hv18673
                have x18674 := rX.e hI18304 (b := 6) ((((hF18305.1 176 6 (by decide)).trans (hF18296.1 176 6 (by decide))).trans hv18673))
                obtain ⟨v18675, hv18675⟩ : ∃ v, gI g0 176 2 = v := ⟨_, rfl⟩
                have tv18675 := congrArg Int32.toInt hv18675
                have x18676 := rX.e hI0 (b := 2) (hv18675)
                have x18677 := rX.e hI0 (b := 4) (hv17721)
                have x18678 := rX.e hI17704 (b := 2) (hv18667)
                have x18679 := rX.e hI17704 (b := 4) (hv17724)
                exact ⟨_, rfl, hI18304, hF18308, rfl, ⟨(TKX.c q17715 (((hF18305.2.1 175 (by decide)).trans (hF18296.2.1 175 (by decide)))) (((hF18305.1 174 1 (by decide)).trans (hF18296.1 174 1 (by decide)))) (((hF18305.1 176 3 (by decide)).trans (hF18296.1 176 3 (by decide)))) (((hF18305.1 176 4 (by decide)).trans (hF18296.1 176 4 (by decide)))) (((hF18305.1 176 5 (by decide)).trans (hF18296.1 176 5 (by decide))))), ((PRG0.tr (q17717) (PRG0.fail 1 (rX.c (b := 4) (((hF18305.1 176 4 (by decide)).trans (hF18296.1 176 4 (by decide))))) (fun _ => by omega) (fun _ => by omega) (by omega)))).le (by omega), PLO.deep q17716 (TKX.someC q17715 ((hF17705.2.1 175 (by decide))) ((hF17705.1 174 1 (by decide)))).choose_spec (by omega) (by omega) (fun _ => by omega) (fun _ => by omega) (by omega)⟩⟩
              · have c18670_ : x17701.toInt ≠ 0 := en_k_eq_f c18670
                refine At.enter rfl ?_
                refine r_aload_n e17709 ?_
                refine q_getR (Sh.ref hI18304.1 kx_176 rfl) ?_
                refine r_bipush 9 rfl ?_
                refine r_iconst 0 rfl ?_
                refine r_callV 134 rfl [.ref 177, .int 9, .int 0] [] (Nat.le_of_ble_eq_true rfl) rfl (T_X4_add_177 _ hI18304 9 0) ?_
                rintro _ _ ⟨g18680, rfl, hI18681, hF18682, v18683, rfl, hr18684⟩
                refine At.sti ?_
                have hF18685 := Fr.tr hF18308 hF18682 rfl rfl
                refine At.enter rfl ?_
                refine r_pop rfl ?_
                refine Ar.fall 135 rfl ?_
                refine At.enter rfl ?_
                refine r_vret ?_
                have x18686 := rX.e hI18681 (b := 2) ((((hF18682.1 176 2 (by decide)).trans ((hF18305.1 176 2 (by decide)).trans (hF18296.1 176 2 (by decide)))).trans hv18667))
                have x18687 := rX.e hI18681 (b := 4) ((((hF18682.1 176 4 (by decide)).trans ((hF18305.1 176 4 (by decide)).trans (hF18296.1 176 4 (by decide)))).trans hv17724))
                obtain ⟨v18688, hv18688⟩ : ∃ v, gI g17703 176 6 = v := ⟨_, rfl⟩
                have tv18688 := congrArg Int32.toInt hv18688
                have x18689 := rX.e hI18681 (b := 6) ((((hF18682.1 176 6 (by decide)).trans ((hF18305.1 176 6 (by decide)).trans (hF18296.1 176 6 (by decide)))).trans hv18688))
                obtain ⟨v18690, hv18690⟩ : ∃ v, gI g0 176 2 = v := ⟨_, rfl⟩
                have tv18690 := congrArg Int32.toInt hv18690
                have x18691 := rX.e hI0 (b := 2) (hv18690)
                have x18692 := rX.e hI0 (b := 4) (hv17721)
                have x18693 := rX.e hI17704 (b := 2) (hv18667)
                have x18694 := rX.e hI17704 (b := 4) (hv17724)
                exact ⟨_, rfl, hI18681, hF18685, rfl, ⟨(TKX.c q17715 (((hF18682.2.1 175 (by decide)).trans ((hF18305.2.1 175 (by decide)).trans (hF18296.2.1 175 (by decide))))) (((hF18682.1 174 1 (by decide)).trans ((hF18305.1 174 1 (by decide)).trans (hF18296.1 174 1 (by decide))))) (((hF18682.1 176 3 (by decide)).trans ((hF18305.1 176 3 (by decide)).trans (hF18296.1 176 3 (by decide))))) (((hF18682.1 176 4 (by decide)).trans ((hF18305.1 176 4 (by decide)).trans (hF18296.1 176 4 (by decide))))) (((hF18682.1 176 5 (by decide)).trans ((hF18305.1 176 5 (by decide)).trans (hF18296.1 176 5 (by decide)))))), ((PRG0.tr (q17717) (PRG0.fail 1 (rX.c (b := 4) (((hF18682.1 176 4 (by decide)).trans ((hF18305.1 176 4 (by decide)).trans (hF18296.1 176 4 (by decide)))))) (fun _ => by omega) (fun _ => by omega) (by omega)))).le (by omega), PLO.deep q17716 (TKX.someC q17715 ((hF17705.2.1 175 (by decide))) ((hF17705.1 174 1 (by decide)))).choose_spec (by omega) (by omega) (fun _ => by omega) (fun _ => by omega) (by omega)⟩⟩
            · have c18669_ : v18667.toInt = (-1) := en_i_ne_f c18669
              refine At.enter rfl ?_
              refine r_aload_n e17709 ?_
              refine r_iconst 0 rfl ?_
              refine r_iload_n e17710 ?_
              refine r_iconst 1 rfl ?_
              refine q_iadd (a1.toInt + 1) rfl (by omega) (fun v18695 hv18695 => ?_)
              have zv18696 : (0 : Int32).toInt = 0 := rfl
              refine r_callV 70 rfl [.ref 176, .int 0, .int v18695] [] (Nat.le_of_ble_eq_true rfl) rfl (IHJ _ (by omega) hI18304 0 (by decide) v18695 (by omega) (by omega) (TKX.c q17715 (((hF18305.2.1 175 (by decide)).trans (hF18296.2.1 175 (by decide)))) (((hF18305.1 174 1 (by decide)).trans (hF18296.1 174 1 (by decide)))) (((hF18305.1 176 3 (by decide)).trans (hF18296.1 176 3 (by decide)))) (((hF18305.1 176 4 (by decide)).trans (hF18296.1 176 4 (by decide)))) (((hF18305.1 176 5 (by decide)).trans (hF18296.1 176 5 (by decide)))))) ?_
              rintro _ _ ⟨g18697, rfl, hI18698, hF18699, rfl, hr18701⟩
              refine At.stn ?_
              have hF18702 := Fr.tr hF18308 hF18699 rfl rfl
              have zv18703 : (0 : Int32).toInt = 0 := rfl
              have x18708 := rX.e hI18304 (b := 2) ((((hF18305.1 176 2 (by decide)).trans (hF18296.1 176 2 (by decide))).trans hv18667))
              have x18709 := rX.e hI18304 (b := 4) ((((hF18305.1 176 4 (by decide)).trans (hF18296.1 176 4 (by decide))).trans hv17724))
              obtain ⟨o18704, o18705, o18706, o18707⟩ := hr18701
              have o18710 := OPD.tc o18706 (((hF18305.2.1 175 (by decide)).trans ((hF18296.2.1 175 (by decide)).trans (hF17705.2.1 175 (by decide))))) (((hF18305.1 174 1 (by decide)).trans ((hF18296.1 174 1 (by decide)).trans (hF17705.1 174 1 (by decide)))))
              have o18711 := PRG0.fr o18705 (rX.c (b := 2) (((hF18305.1 176 2 (by decide)).trans (hF18296.1 176 2 (by decide))))) (rX.c (b := 4) (((hF18305.1 176 4 (by decide)).trans (hF18296.1 176 4 (by decide)))))
              have o18712 := OPD.fr o18710 (rX.c (b := 2) (((hF18305.1 176 2 (by decide)).trans (hF18296.1 176 2 (by decide))))) (rX.c (b := 4) (((hF18305.1 176 4 (by decide)).trans (hF18296.1 176 4 (by decide))))) (rX.c (b := 6) (((hF18305.1 176 6 (by decide)).trans (hF18296.1 176 6 (by decide)))))
              obtain ⟨v18713, hv18713⟩ : ∃ v, gI g18697 176 2 = v := ⟨_, rfl⟩
              have tv18713 := congrArg Int32.toInt hv18713
              have x18714 := rX.e hI18698 (b := 2) (hv18713)
              obtain ⟨v18715, hv18715⟩ : ∃ v, gI g18697 176 4 = v := ⟨_, rfl⟩
              have rv18715 := RgF.at hI18698.2.1 (p := 176) (b := 4) rfl
              rw [hv18715] at rv18715
              dsimp only at rv18715
              have tv18715 := congrArg Int32.toInt hv18715
              have x18716 := rX.e hI18698 (b := 4) (hv18715)
              refine At.enter rfl ?_
              refine r_aload_n e17709 ?_
              refine r_bipush 41 rfl ?_
              refine q_inlV 76 rfl [.ref 176, .int 41] [] (Nat.le_of_ble_eq_true rfl) rfl ?_
              refine Ev.mk rfl rfl ⟨Nat.le_of_ble_eq_true rfl, Or.inr (q_rc hI18698.1 kx_176 rfl)⟩ ?_
              show At _ none _ _ (0, [(0, .ref 176), (1, .int 41)], [], (_, _)) _
              refine At.enter rfl ?_
              refine r_aload_n rfl ?_
              refine r_iload_n rfl ?_
              refine r_callV 5 rfl [.ref 176, .int 41] [] (Nat.le_of_ble_eq_true rfl) rfl (T_X5_isSingle_176 _ hI18698 41 (by decide)) ?_
              rintro _ _ ⟨g18717, rfl, hI18718, hF18719, v18720, rfl, hr18721⟩
              refine At.sti ?_
              have hF18722 := Fr.tr hF18702 hF18719 rfl rfl
              have zv18723 : (41 : Int32).toInt = 41 := rfl
              have hb18724 : BL (CDX g18697 = 9) v18720.toInt := ISX.code (c := 9) hr18721.2 o18704 (isSC_d (by omega)) (by decide)
              refine At.enter rfl ?_
              refine r_ifs 8 rfl (fun c18725 => ?_) (fun c18725 => ?_)
              · have c18725_ : v18720.toInt = 0 := en_k_eq_t c18725
                have i18726 := BL.no hb18724 (by omega)
                refine At.enter rfl ?_
                refine r_aload_n rfl ?_
                refine q_inlV 19 rfl [.ref 176] [] (Nat.le_of_ble_eq_true rfl) rfl ?_
                refine Ev.mk rfl rfl ⟨Nat.le_of_ble_eq_true rfl, Or.inr (q_rc hI18718.1 kx_176 rfl)⟩ ?_
                show At _ none _ _ (0, [(0, .ref 176)], [], (_, _)) _
                refine At.enter rfl ?_
                refine r_aload_n rfl ?_
                refine q_getI (Sh.int hI18718.1 kx_176 rfl) v18713 ((hF18719.1 176 2 (by decide)).trans hv18713) ?_
                refine r_iconst (-1) rfl ?_
                refine r_ics 8 rfl (fun c18727 => ?_) (fun c18727 => ?_)
                · have c18727_ : v18713.toInt ≠ (-1) := en_i_ne_t c18727
                  refine At.enter rfl ?_
                  refine q_vret ?_
                  refine At.enter rfl ?_
                  refine q_vret ?_
                  refine At.enter rfl ?_
                  refine r_goto ?_
                  refine At.enter rfl ?_
                  refine r_iload_n e17711 ?_
                  refine r_ifs 124 rfl (fun c18728 => ?_) (fun c18728 => ?_)
                  · have c18728_ : x17701.toInt = 0 := en_k_eq_t c18728
                    refine At.enter rfl ?_
                    refine r_vret ?_
                    have x18729 := rX.e hI18718 (b := 2) (((hF18719.1 176 2 (by decide)).trans hv18713))
                    have x18730 := rX.e hI18718 (b := 4) (((hF18719.1 176 4 (by decide)).trans hv18715))
                    obtain ⟨v18731, hv18731⟩ : ∃ v, gI g18697 176 6 = v := ⟨_, rfl⟩
                    have tv18731 := congrArg Int32.toInt hv18731
                    have x18732 := rX.e hI18718 (b := 6) (((hF18719.1 176 6 (by decide)).trans hv18731))
                    obtain ⟨v18733, hv18733⟩ : ∃ v, gI g0 176 2 = v := ⟨_, rfl⟩
                    have tv18733 := congrArg Int32.toInt hv18733
                    have x18734 := rX.e hI0 (b := 2) (hv18733)
                    have x18735 := rX.e hI0 (b := 4) (hv17721)
                    have x18736 := rX.e hI17704 (b := 2) (hv18667)
                    have x18737 := rX.e hI17704 (b := 4) (hv17724)
                    have x18738 := rX.e hI18698 (b := 2) (hv18713)
                    have x18739 := rX.e hI18698 (b := 4) (hv18715)
                    have x18740 := rX.e hI18698 (b := 6) (hv18731)
                    exact ⟨_, rfl, hI18718, hF18722, rfl, (False.elim (by omega))⟩
                  · have c18728_ : x17701.toInt ≠ 0 := en_k_eq_f c18728
                    refine At.enter rfl ?_
                    refine r_aload_n e17709 ?_
                    refine q_getR (Sh.ref hI18718.1 kx_176 rfl) ?_
                    refine r_bipush 9 rfl ?_
                    refine r_iconst 0 rfl ?_
                    refine r_callV 134 rfl [.ref 177, .int 9, .int 0] [] (Nat.le_of_ble_eq_true rfl) rfl (T_X4_add_177 _ hI18718 9 0) ?_
                    rintro _ _ ⟨g18741, rfl, hI18742, hF18743, v18744, rfl, hr18745⟩
                    refine At.sti ?_
                    have hF18746 := Fr.tr hF18722 hF18743 rfl rfl
                    refine At.enter rfl ?_
                    refine r_pop rfl ?_
                    refine Ar.fall 135 rfl ?_
                    refine At.enter rfl ?_
                    refine r_vret ?_
                    have x18747 := rX.e hI18742 (b := 2) ((((hF18743.1 176 2 (by decide)).trans (hF18719.1 176 2 (by decide))).trans hv18713))
                    have x18748 := rX.e hI18742 (b := 4) ((((hF18743.1 176 4 (by decide)).trans (hF18719.1 176 4 (by decide))).trans hv18715))
                    obtain ⟨v18749, hv18749⟩ : ∃ v, gI g18697 176 6 = v := ⟨_, rfl⟩
                    have tv18749 := congrArg Int32.toInt hv18749
                    have x18750 := rX.e hI18742 (b := 6) ((((hF18743.1 176 6 (by decide)).trans (hF18719.1 176 6 (by decide))).trans hv18749))
                    obtain ⟨v18751, hv18751⟩ : ∃ v, gI g0 176 2 = v := ⟨_, rfl⟩
                    have tv18751 := congrArg Int32.toInt hv18751
                    have x18752 := rX.e hI0 (b := 2) (hv18751)
                    have x18753 := rX.e hI0 (b := 4) (hv17721)
                    have x18754 := rX.e hI17704 (b := 2) (hv18667)
                    have x18755 := rX.e hI17704 (b := 4) (hv17724)
                    have x18756 := rX.e hI18698 (b := 2) (hv18713)
                    have x18757 := rX.e hI18698 (b := 4) (hv18715)
                    have x18758 := rX.e hI18698 (b := 6) (hv18749)
                    exact ⟨_, rfl, hI18742, hF18746, rfl, (False.elim (by omega))⟩
                · have c18727_ : v18713.toInt = (-1) := en_i_ne_f c18727
                  refine At.enter rfl ?_
                  refine r_aload_n rfl ?_
                  refine r_aload_n rfl ?_
                  refine q_getI (Sh.int hI18718.1 kx_176 rfl) v18715 ((hF18719.1 176 4 (by decide)).trans hv18715) ?_
                  refine q_putI (Sh.int hI18718.1 kx_176 rfl) rfl ?_
                  have hI18759 := HI.wI0 hI18718 kx_176 rfl (p := 176) (b := 2) (v := v18715) rfl
                  have hF18760 := Fr.wI (p := 176) (b := 2) (v := v18715) hF18722 rfl
                  refine Ar.fall 16 rfl ?_
                  refine At.enter rfl ?_
                  refine q_vret ?_
                  refine At.enter rfl ?_
                  refine q_vret ?_
                  refine At.enter rfl ?_
                  refine r_goto ?_
                  refine At.enter rfl ?_
                  refine r_iload_n e17711 ?_
                  refine r_ifs 124 rfl (fun c18761 => ?_) (fun c18761 => ?_)
                  · have c18761_ : x17701.toInt = 0 := en_k_eq_t c18761
                    refine At.enter rfl ?_
                    refine r_vret ?_
                    have x18762 := rX.e hI18759 (b := 2) ((gI_sI_eq hI18718.1 kx_176 rfl _))
                    have x18763 := rX.e hI18759 (b := 4) ((((gI_sI_ne (by decide)).trans (hF18719.1 176 4 (by decide))).trans hv18715))
                    obtain ⟨v18764, hv18764⟩ : ∃ v, gI g18697 176 6 = v := ⟨_, rfl⟩
                    have tv18764 := congrArg Int32.toInt hv18764
                    have x18765 := rX.e hI18759 (b := 6) ((((gI_sI_ne (by decide)).trans (hF18719.1 176 6 (by decide))).trans hv18764))
                    obtain ⟨v18766, hv18766⟩ : ∃ v, gI g0 176 2 = v := ⟨_, rfl⟩
                    have tv18766 := congrArg Int32.toInt hv18766
                    have x18767 := rX.e hI0 (b := 2) (hv18766)
                    have x18768 := rX.e hI0 (b := 4) (hv17721)
                    have x18769 := rX.e hI17704 (b := 2) (hv18667)
                    have x18770 := rX.e hI17704 (b := 4) (hv17724)
                    have x18771 := rX.e hI18698 (b := 2) (hv18713)
                    have x18772 := rX.e hI18698 (b := 4) (hv18715)
                    have x18773 := rX.e hI18698 (b := 6) (hv18764)
                    exact ⟨_, rfl, hI18759, hF18760, rfl, (False.elim (by omega))⟩
                  · have c18761_ : x17701.toInt ≠ 0 := en_k_eq_f c18761
                    refine At.enter rfl ?_
                    refine r_aload_n e17709 ?_
                    refine q_getR (Sh.ref hI18759.1 kx_176 rfl) ?_
                    refine r_bipush 9 rfl ?_
                    refine r_iconst 0 rfl ?_
                    refine r_callV 134 rfl [.ref 177, .int 9, .int 0] [] (Nat.le_of_ble_eq_true rfl) rfl (T_X4_add_177 _ hI18759 9 0) ?_
                    rintro _ _ ⟨g18774, rfl, hI18775, hF18776, v18777, rfl, hr18778⟩
                    refine At.sti ?_
                    have hF18779 := Fr.tr hF18760 hF18776 rfl rfl
                    refine At.enter rfl ?_
                    refine r_pop rfl ?_
                    refine Ar.fall 135 rfl ?_
                    refine At.enter rfl ?_
                    refine r_vret ?_
                    have x18780 := rX.e hI18775 (b := 2) (((hF18776.1 176 2 (by decide)).trans (gI_sI_eq hI18718.1 kx_176 rfl _)))
                    have x18781 := rX.e hI18775 (b := 4) ((((hF18776.1 176 4 (by decide)).trans ((gI_sI_ne (by decide)).trans (hF18719.1 176 4 (by decide)))).trans hv18715))
                    obtain ⟨v18782, hv18782⟩ : ∃ v, gI g18697 176 6 = v := ⟨_, rfl⟩
                    have tv18782 := congrArg Int32.toInt hv18782
                    have x18783 := rX.e hI18775 (b := 6) ((((hF18776.1 176 6 (by decide)).trans ((gI_sI_ne (by decide)).trans (hF18719.1 176 6 (by decide)))).trans hv18782))
                    obtain ⟨v18784, hv18784⟩ : ∃ v, gI g0 176 2 = v := ⟨_, rfl⟩
                    have tv18784 := congrArg Int32.toInt hv18784
                    have x18785 := rX.e hI0 (b := 2) (hv18784)
                    have x18786 := rX.e hI0 (b := 4) (hv17721)
                    have x18787 := rX.e hI17704 (b := 2) (hv18667)
                    have x18788 := rX.e hI17704 (b := 4) (hv17724)
                    have x18789 := rX.e hI18698 (b := 2) (hv18713)
                    have x18790 := rX.e hI18698 (b := 4) (hv18715)
                    have x18791 := rX.e hI18698 (b := 6) (hv18782)
                    exact ⟨_, rfl, hI18775, hF18779, rfl, (False.elim (by omega))⟩
              · have c18725_ : v18720.toInt ≠ 0 := en_k_eq_f c18725
                have i18792 := BL.yes hb18724 (by omega)
                refine At.enter rfl ?_
                refine r_aload_n rfl ?_
                refine r_callV 12 rfl [.ref 176] [] (Nat.le_of_ble_eq_true rfl) rfl (T_X5_step_176 _ hI18718 (TKX.c o18704 ((hF18719.2.1 175 (by decide))) ((hF18719.1 174 1 (by decide))) ((hF18719.1 176 3 (by decide))) ((hF18719.1 176 4 (by decide))) ((hF18719.1 176 5 (by decide)))).1 (TKX.c o18704 ((hF18719.2.1 175 (by decide))) ((hF18719.1 174 1 (by decide))) ((hF18719.1 176 3 (by decide))) ((hF18719.1 176 4 (by decide))) ((hF18719.1 176 5 (by decide)))).2.1.le.2.1) ?_
                rintro _ _ ⟨g18793, rfl, hI18794, hF18795, rfl, hr18797⟩
                refine At.stn ?_
                have hF18798 := Fr.tr hF18722 hF18795 rfl rfl
                have tok18799_ := hr18797.2
                rw [TX.c ((hF18719.2.1 175 (by decide))), nX.c ((hF18719.1 174 1 (by decide))), rX.c (b := 5) ((hF18719.1 176 5 (by decide)))] at tok18799_
                have tok18799 := TKX.tok o18704 tok18799_
                rw [TX.c (((hF18699.2.1 175 (by decide)).trans ((hF18305.2.1 175 (by decide)).trans ((hF18296.2.1 175 (by decide)).trans (hF17705.2.1 175 (by decide)))))), nX.c (((hF18699.1 174 1 (by decide)).trans ((hF18305.1 174 1 (by decide)).trans ((hF18296.1 174 1 (by decide)).trans (hF17705.1 174 1 (by decide))))))] at tok18799
                have hT18800 := hr18797.1
                have x18801 := rX.e hI18718 (b := 4) (((hF18719.1 176 4 (by decide)).trans hv18715))
                obtain ⟨v18802, hv18802⟩ : ∃ v, gI g18793 176 4 = v := ⟨_, rfl⟩
                have rv18802 := RgF.at hI18794.2.1 (p := 176) (b := 4) rfl
                rw [hv18802] at rv18802
                dsimp only at rv18802
                have tv18802 := congrArg Int32.toInt hv18802
                have x18803 := rX.e hI18794 (b := 4) (hv18802)
                refine At.enter rfl ?_
                refine r_goto ?_
                refine At.enter rfl ?_
                refine q_vret ?_
                refine At.enter rfl ?_
                refine r_goto ?_
                refine At.enter rfl ?_
                refine r_iload_n e17711 ?_
                refine r_ifs 124 rfl (fun c18804 => ?_) (fun c18804 => ?_)
                · have c18804_ : x17701.toInt = 0 := en_k_eq_t c18804
                  refine At.enter rfl ?_
                  refine r_vret ?_
                  have x18805 := rX.e hI18794 (b := 2) ((((hF18795.1 176 2 (by decide)).trans (hF18719.1 176 2 (by decide))).trans hv18713))
                  have x18806 := rX.e hI18794 (b := 4) (hv18802)
                  obtain ⟨v18807, hv18807⟩ : ∃ v, gI g18697 176 6 = v := ⟨_, rfl⟩
                  have tv18807 := congrArg Int32.toInt hv18807
                  have x18808 := rX.e hI18794 (b := 6) ((((hF18795.1 176 6 (by decide)).trans (hF18719.1 176 6 (by decide))).trans hv18807))
                  obtain ⟨v18809, hv18809⟩ : ∃ v, gI g0 176 2 = v := ⟨_, rfl⟩
                  have tv18809 := congrArg Int32.toInt hv18809
                  have x18810 := rX.e hI0 (b := 2) (hv18809)
                  have x18811 := rX.e hI0 (b := 4) (hv17721)
                  have x18812 := rX.e hI17704 (b := 2) (hv18667)
                  have x18813 := rX.e hI17704 (b := 4) (hv17724)
                  have x18814 := rX.e hI18698 (b := 2) (hv18713)
                  have x18815 := rX.e hI18698 (b := 4) (hv18715)
                  have x18816 := rX.e hI18698 (b := 6) (hv18807)
                  have x18817 := rX.e hI18794 (b := 2) ((((hF18795.1 176 2 (by decide)).trans (hF18719.1 176 2 (by decide))).trans hv18713))
                  have x18818 := rX.e hI18794 (b := 4) (hv18802)
                  have x18819 := rX.e hI18794 (b := 6) ((((hF18795.1 176 6 (by decide)).trans (hF18719.1 176 6 (by decide))).trans hv18807))
                  exact ⟨_, rfl, hI18794, hF18798, rfl, (False.elim (by omega))⟩
                · have c18804_ : x17701.toInt ≠ 0 := en_k_eq_f c18804
                  refine At.enter rfl ?_
                  refine r_aload_n e17709 ?_
                  refine q_getR (Sh.ref hI18794.1 kx_176 rfl) ?_
                  refine r_bipush 9 rfl ?_
                  refine r_iconst 0 rfl ?_
                  refine r_callV 134 rfl [.ref 177, .int 9, .int 0] [] (Nat.le_of_ble_eq_true rfl) rfl (T_X4_add_177 _ hI18794 9 0) ?_
                  rintro _ _ ⟨g18820, rfl, hI18821, hF18822, v18823, rfl, hr18824⟩
                  refine At.sti ?_
                  have hF18825 := Fr.tr hF18798 hF18822 rfl rfl
                  refine At.enter rfl ?_
                  refine r_pop rfl ?_
                  refine Ar.fall 135 rfl ?_
                  refine At.enter rfl ?_
                  refine r_vret ?_
                  have x18826 := rX.e hI18821 (b := 2) ((((hF18822.1 176 2 (by decide)).trans ((hF18795.1 176 2 (by decide)).trans (hF18719.1 176 2 (by decide)))).trans hv18713))
                  have x18827 := rX.e hI18821 (b := 4) (((hF18822.1 176 4 (by decide)).trans hv18802))
                  obtain ⟨v18828, hv18828⟩ : ∃ v, gI g18697 176 6 = v := ⟨_, rfl⟩
                  have tv18828 := congrArg Int32.toInt hv18828
                  have x18829 := rX.e hI18821 (b := 6) ((((hF18822.1 176 6 (by decide)).trans ((hF18795.1 176 6 (by decide)).trans (hF18719.1 176 6 (by decide)))).trans hv18828))
                  obtain ⟨v18830, hv18830⟩ : ∃ v, gI g0 176 2 = v := ⟨_, rfl⟩
                  have tv18830 := congrArg Int32.toInt hv18830
                  have x18831 := rX.e hI0 (b := 2) (hv18830)
                  have x18832 := rX.e hI0 (b := 4) (hv17721)
                  have x18833 := rX.e hI17704 (b := 2) (hv18667)
                  have x18834 := rX.e hI17704 (b := 4) (hv17724)
                  have x18835 := rX.e hI18698 (b := 2) (hv18713)
                  have x18836 := rX.e hI18698 (b := 4) (hv18715)
                  have x18837 := rX.e hI18698 (b := 6) (hv18828)
                  have x18838 := rX.e hI18794 (b := 2) ((((hF18795.1 176 2 (by decide)).trans (hF18719.1 176 2 (by decide))).trans hv18713))
                  have x18839 := rX.e hI18794 (b := 4) (hv18802)
                  have x18840 := rX.e hI18794 (b := 6) ((((hF18795.1 176 6 (by decide)).trans (hF18719.1 176 6 (by decide))).trans hv18828))
                  exact ⟨_, rfl, hI18821, hF18825, rfl, (False.elim (by omega))⟩
          · have c18668_ : v18667.toInt = (-1) := en_i_ne_f c18668
            refine At.enter rfl ?_
            refine r_aload_n rfl ?_
            refine r_aload_n rfl ?_
            refine q_getI (Sh.int hI18304.1 kx_176 rfl) v17724 (((hF18305.1 176 4 (by decide)).trans (hF18296.1 176 4 (by decide))).trans hv17724) ?_
            refine q_putI (Sh.int hI18304.1 kx_176 rfl) rfl ?_
            have hI18841 := HI.wI0 hI18304 kx_176 rfl (p := 176) (b := 2) (v := v17724) rfl
            have hF18842 := Fr.wI (p := 176) (b := 2) (v := v17724) hF18308 rfl
            refine Ar.fall 16 rfl ?_
            refine At.enter rfl ?_
            refine q_vret ?_
            refine At.enter rfl ?_
            refine r_goto ?_
            refine At.enter rfl ?_
            refine q_vret ?_
            refine At.enter rfl ?_
            refine r_aload_n e17709 ?_
            refine q_getI (Sh.int hI18841.1 kx_176 rfl) v17724 (gI_sI_eq hI18304.1 kx_176 rfl _) ?_
            refine r_iconst (-1) rfl ?_
            refine r_ics 62 rfl (fun c18843 => ?_) (fun c18843 => ?_)
            · have c18843_ : v17724.toInt ≠ (-1) := en_i_ne_t c18843
              refine At.enter rfl ?_
              refine r_iload_n e17711 ?_
              refine r_ifs 124 rfl (fun c18844 => ?_) (fun c18844 => ?_)
              · have c18844_ : x17701.toInt = 0 := en_k_eq_t c18844
                refine At.enter rfl ?_
                refine r_vret ?_
                have x18845 := rX.e hI18841 (b := 2) ((gI_sI_eq hI18304.1 kx_176 rfl _))
                have x18846 := rX.e hI18841 (b := 4) ((((gI_sI_ne (by decide)).trans ((hF18305.1 176 4 (by decide)).trans (hF18296.1 176 4 (by decide)))).trans hv17724))
                obtain ⟨v18847, hv18847⟩ : ∃ v, gI g17703 176 6 = v := ⟨_, rfl⟩
                have tv18847 := congrArg Int32.toInt hv18847
                have x18848 := rX.e hI18841 (b := 6) ((((gI_sI_ne (by decide)).trans ((hF18305.1 176 6 (by decide)).trans (hF18296.1 176 6 (by decide)))).trans hv18847))
                obtain ⟨v18849, hv18849⟩ : ∃ v, gI g0 176 2 = v := ⟨_, rfl⟩
                have tv18849 := congrArg Int32.toInt hv18849
                have x18850 := rX.e hI0 (b := 2) (hv18849)
                have x18851 := rX.e hI0 (b := 4) (hv17721)
                have x18852 := rX.e hI17704 (b := 2) (hv18667)
                have x18853 := rX.e hI17704 (b := 4) (hv17724)
                exact ⟨_, rfl, hI18841, hF18842, rfl, ⟨(TKX.c q17715 (((gA_sI).trans ((hF18305.2.1 175 (by decide)).trans (hF18296.2.1 175 (by decide))))) (((gI_sI_ne (by decide)).trans ((hF18305.1 174 1 (by decide)).trans (hF18296.1 174 1 (by decide))))) (((gI_sI_ne (by decide)).trans ((hF18305.1 176 3 (by decide)).trans (hF18296.1 176 3 (by decide))))) (((gI_sI_ne (by decide)).trans ((hF18305.1 176 4 (by decide)).trans (hF18296.1 176 4 (by decide))))) (((gI_sI_ne (by decide)).trans ((hF18305.1 176 5 (by decide)).trans (hF18296.1 176 5 (by decide)))))), ((PRG0.tr (q17717) (PRG0.fail 1 (rX.c (b := 4) (((gI_sI_ne (by decide)).trans ((hF18305.1 176 4 (by decide)).trans (hF18296.1 176 4 (by decide)))))) (fun _ => by omega) (fun _ => by omega) (by omega)))).le (by omega), PLO.deep q17716 (TKX.someC q17715 ((hF17705.2.1 175 (by decide))) ((hF17705.1 174 1 (by decide)))).choose_spec (by omega) (by omega) (fun _ => by omega) (fun _ => by omega) (by omega)⟩⟩
              · have c18844_ : x17701.toInt ≠ 0 := en_k_eq_f c18844
                refine At.enter rfl ?_
                refine r_aload_n e17709 ?_
                refine q_getR (Sh.ref hI18841.1 kx_176 rfl) ?_
                refine r_bipush 9 rfl ?_
                refine r_iconst 0 rfl ?_
                refine r_callV 134 rfl [.ref 177, .int 9, .int 0] [] (Nat.le_of_ble_eq_true rfl) rfl (T_X4_add_177 _ hI18841 9 0) ?_
                rintro _ _ ⟨g18854, rfl, hI18855, hF18856, v18857, rfl, hr18858⟩
                refine At.sti ?_
                have hF18859 := Fr.tr hF18842 hF18856 rfl rfl
                refine At.enter rfl ?_
                refine r_pop rfl ?_
                refine Ar.fall 135 rfl ?_
                refine At.enter rfl ?_
                refine r_vret ?_
                have x18860 := rX.e hI18855 (b := 2) (((hF18856.1 176 2 (by decide)).trans (gI_sI_eq hI18304.1 kx_176 rfl _)))
                have x18861 := rX.e hI18855 (b := 4) ((((hF18856.1 176 4 (by decide)).trans ((gI_sI_ne (by decide)).trans ((hF18305.1 176 4 (by decide)).trans (hF18296.1 176 4 (by decide))))).trans hv17724))
                obtain ⟨v18862, hv18862⟩ : ∃ v, gI g17703 176 6 = v := ⟨_, rfl⟩
                have tv18862 := congrArg Int32.toInt hv18862
                have x18863 := rX.e hI18855 (b := 6) ((((hF18856.1 176 6 (by decide)).trans ((gI_sI_ne (by decide)).trans ((hF18305.1 176 6 (by decide)).trans (hF18296.1 176 6 (by decide))))).trans hv18862))
                obtain ⟨v18864, hv18864⟩ : ∃ v, gI g0 176 2 = v := ⟨_, rfl⟩
                have tv18864 := congrArg Int32.toInt hv18864
                have x18865 := rX.e hI0 (b := 2) (hv18864)
                have x18866 := rX.e hI0 (b := 4) (hv17721)
                have x18867 := rX.e hI17704 (b := 2) (hv18667)
                have x18868 := rX.e hI17704 (b := 4) (hv17724)
                exact ⟨_, rfl, hI18855, hF18859, rfl, ⟨(TKX.c q17715 (((hF18856.2.1 175 (by decide)).trans ((gA_sI).trans ((hF18305.2.1 175 (by decide)).trans (hF18296.2.1 175 (by decide)))))) (((hF18856.1 174 1 (by decide)).trans ((gI_sI_ne (by decide)).trans ((hF18305.1 174 1 (by decide)).trans (hF18296.1 174 1 (by decide)))))) (((hF18856.1 176 3 (by decide)).trans ((gI_sI_ne (by decide)).trans ((hF18305.1 176 3 (by decide)).trans (hF18296.1 176 3 (by decide)))))) (((hF18856.1 176 4 (by decide)).trans ((gI_sI_ne (by decide)).trans ((hF18305.1 176 4 (by decide)).trans (hF18296.1 176 4 (by decide)))))) (((hF18856.1 176 5 (by decide)).trans ((gI_sI_ne (by decide)).trans ((hF18305.1 176 5 (by decide)).trans (hF18296.1 176 5 (by decide))))))), ((PRG0.tr (q17717) (PRG0.fail 1 (rX.c (b := 4) (((hF18856.1 176 4 (by decide)).trans ((gI_sI_ne (by decide)).trans ((hF18305.1 176 4 (by decide)).trans (hF18296.1 176 4 (by decide))))))) (fun _ => by omega) (fun _ => by omega) (by omega)))).le (by omega), PLO.deep q17716 (TKX.someC q17715 ((hF17705.2.1 175 (by decide))) ((hF17705.1 174 1 (by decide)))).choose_spec (by omega) (by omega) (fun _ => by omega) (fun _ => by omega) (by omega)⟩⟩
            · have c18843_ : v17724.toInt = (-1) := en_i_ne_f c18843
              exfalso; omega
    · have c18301_ : v18297.toInt ≠ 0 := en_k_eq_f c18301
      have i18869 := BL.yes hb18300 (by omega)
      refine At.enter rfl ?_
      refine r_aload_n e17709 ?_
      refine r_callV 24 rfl [.ref 176] [] (Nat.le_of_ble_eq_true rfl) rfl (T_X5_step_176 _ hI18295 (TKX.c q17715 ((hF18296.2.1 175 (by decide))) ((hF18296.1 174 1 (by decide))) ((hF18296.1 176 3 (by decide))) ((hF18296.1 176 4 (by decide))) ((hF18296.1 176 5 (by decide)))).1 (TKX.c q17715 ((hF18296.2.1 175 (by decide))) ((hF18296.1 174 1 (by decide))) ((hF18296.1 176 3 (by decide))) ((hF18296.1 176 4 (by decide))) ((hF18296.1 176 5 (by decide)))).2.1.le.2.1) ?_
      rintro _ _ ⟨g18870, rfl, hI18871, hF18872, rfl, hr18874⟩
      refine At.stn ?_
      have hF18875 := Fr.tr hF18299 hF18872 rfl rfl
      have tok18876_ := hr18874.2
      rw [TX.c ((hF18296.2.1 175 (by decide))), nX.c ((hF18296.1 174 1 (by decide))), rX.c (b := 5) ((hF18296.1 176 5 (by decide)))] at tok18876_
      have tok18876 := TKX.tok q17715 tok18876_
      rw [TX.c ((hF17705.2.1 175 (by decide))), nX.c ((hF17705.1 174 1 (by decide)))] at tok18876
      have hT18877 := hr18874.1
      have x18878 := rX.e hI18295 (b := 4) (((hF18296.1 176 4 (by decide)).trans hv17724))
      obtain ⟨v18879, hv18879⟩ : ∃ v, gI g18870 176 4 = v := ⟨_, rfl⟩
      have rv18879 := RgF.at hI18871.2.1 (p := 176) (b := 4) rfl
      rw [hv18879] at rv18879
      dsimp only at rv18879
      have tv18879 := congrArg Int32.toInt hv18879
      have x18880 := rX.e hI18871 (b := 4) (hv18879)
      refine At.enter rfl ?_
      refine r_iload_n e17711 ?_
      refine r_ifs 28 rfl (fun c18881 => ?_) (fun c18881 => ?_)
      · have c18881_ : x17701.toInt ≠ 0 := en_k_ne_t c18881
        refine At.enter rfl ?_
        refine r_iconst 0 rfl ?_
        refine Ar.fall 33 rfl ?_
        refine At.enter rfl ?_
        refine r_istore_n _ rfl ?_
        refine q_iinc (w_p1 (by decide) (Or.inr rfl) e17712) (x17702.toInt + 1) rfl (by omega) (fun v18882 hv18882 => ?_)
        refine r_goto ?_
        have y18883 := q17715.2.1.le
        have y18884 := tok18876_.1
        have y18885 : ksX (rX g17703 3) ≠ 0 := fun hz => absurd ((CDE.e (TKX.num q17715)).mp hz) (show CDX g17703 ≠ 0 from by omega)
        have x18886 := rX.e hI18871 (b := 4) (hv18879)
        have x18887 := rX.e hI17704 (b := 4) (hv17724)
        exact ih17708 (400 - v18882.toInt) _ _ ⟨0, v18882, by first | rfl | omega, hI18871, hF18875, (w_p1 (by decide) (Or.inr rfl) (w_p1 (by decide) (Or.inr rfl) e17709)), (w_p1 (by decide) (Or.inr rfl) (w_p1 (by decide) (Or.inr rfl) e17710)), (w_p1 (by decide) (Or.inr rfl) (w_e1 _ _ _)), (w_e1 _ _ _), by decide, by omega, hT18877, (NLI.next q17716 tok18876 (by omega) (rX.c (b := 2) (((hF18872.1 176 2 (by decide)).trans (hF18296.1 176 2 (by decide))))) (rX.c (b := 6) (((hF18872.1 176 6 (by decide)).trans (hF18296.1 176 6 (by decide)))))), ((PRG0.tr q17717 (PRG0.step q17715 tok18876_ (rX.c (b := 2) (((hF18872.1 176 2 (by decide)).trans (hF18296.1 176 2 (by decide))))) (by omega))).le (by omega)), by omega⟩ ⟨by omega, by omega⟩
      · have c18881_ : x17701.toInt = 0 := en_k_ne_f c18881
        refine At.enter rfl ?_
        refine r_iconst 1 rfl ?_
        refine r_goto ?_
        refine At.enter rfl ?_
        refine r_istore_n _ rfl ?_
        refine q_iinc (w_p1 (by decide) (Or.inr rfl) e17712) (x17702.toInt + 1) rfl (by omega) (fun v18888 hv18888 => ?_)
        refine r_goto ?_
        have y18889 := q17715.2.1.le
        have y18890 := tok18876_.1
        have y18891 : ksX (rX g17703 3) ≠ 0 := fun hz => absurd ((CDE.e (TKX.num q17715)).mp hz) (show CDX g17703 ≠ 0 from by omega)
        have x18892 := rX.e hI18871 (b := 4) (hv18879)
        have x18893 := rX.e hI17704 (b := 4) (hv17724)
        exact ih17708 (400 - v18888.toInt) _ _ ⟨1, v18888, by first | rfl | omega, hI18871, hF18875, (w_p1 (by decide) (Or.inr rfl) (w_p1 (by decide) (Or.inr rfl) e17709)), (w_p1 (by decide) (Or.inr rfl) (w_p1 (by decide) (Or.inr rfl) e17710)), (w_p1 (by decide) (Or.inr rfl) (w_e1 _ _ _)), (w_e1 _ _ _), by decide, by omega, hT18877, (NLI.next q17716 tok18876 (by omega) (rX.c (b := 2) (((hF18872.1 176 2 (by decide)).trans (hF18296.1 176 2 (by decide))))) (rX.c (b := 6) (((hF18872.1 176 6 (by decide)).trans (hF18296.1 176 6 (by decide)))))), ((PRG0.tr q17717 (PRG0.step q17715 tok18876_ (rX.c (b := 2) (((hF18872.1 176 2 (by decide)).trans (hF18296.1 176 2 (by decide))))) (by omega))).le (by omega)), by omega⟩ ⟨by omega, by omega⟩
