theorem Q_all : ∀ n, QJ n ∧ QP n ∧ QT n := by
  intro n
  induction n with
  | zero => exact ⟨fun e he N g0 hI a1 h1 a2 h2 hm _ => absurd hm (by omega), fun e he N g0 hI a1 h1 hm _ => absurd hm (by omega), fun e he N g0 hI a1 h1 hm _ => absurd hm (by omega)⟩
  | succ n ih => exact ⟨S_X5_readJoined_176 n ih.1 ih.2.1 ih.2.2, S_X5_readPlain_176 n ih.1 ih.2.1 ih.2.2, S_X5_readPart_176 n ih.1 ih.2.1 ih.2.2⟩
theorem T_X5_readJoined_176 (d : Nat) {N : Nat} {g0 : List en_E} (hI0 : HI g0) (a1 : Int32) (h_a1 : 0 ≤ a1.toInt ∧ a1.toInt ≤ 3) (a2 : Int32) (h_a2 : 0 ≤ a2.toInt ∧ a2.toInt ≤ 8) (hT : TKX g0) : Ev (d + 420) 65 [.ref 176, .int a1, .int a2] (g0, N) (fun w h' => ∃ g', h' = (g', N) ∧ HI g' ∧ Fr F_rd A_rd g0 g' ∧ w = none ∧ JPX g0 g' a1.toInt a2.toInt) :=
  (Q_all 100).1 (d + 420) (by omega) hI0 a1 h_a1 a2 h_a2 (by omega) hT

def F_X5_readClause_176 : List (Nat × Nat) := [(176, 2), (176, 3), (176, 4), (176, 5), (176, 6), (177, 0), (177, 3), (177, 4)]
def A_X5_readClause_176 : List Nat := [178, 179, 180, 181, 182, 183]
theorem ma_X5_isWord_176_175 : memA A_X5_isWord_176 175 = false := by decide
theorem mf_X5_isWord_176_174_1 : memF F_X5_isWord_176 174 1 = false := by decide
theorem mf_X5_isWord_176_176_3 : memF F_X5_isWord_176 176 3 = false := by decide
theorem mf_X5_isWord_176_176_4 : memF F_X5_isWord_176 176 4 = false := by decide
theorem mf_X5_isWord_176_176_5 : memF F_X5_isWord_176 176 5 = false := by decide
theorem mf_X5_isWord_176_177_3 : memF F_X5_isWord_176 177 3 = false := by decide
theorem mf_X5_isWord_176_176_2 : memF F_X5_isWord_176 176 2 = false := by decide
theorem mf_X5_isWord_176_176_6 : memF F_X5_isWord_176 176 6 = false := by decide
theorem mf_X5_step_176_177_4 : memF F_X5_step_176 177 4 = false := by decide
theorem mf_X5_isWord_176_177_4 : memF F_X5_isWord_176 177 4 = false := by decide
theorem mf_X5_step_176_177_0 : memF F_X5_step_176 177 0 = false := by decide
theorem mf_X5_isWord_176_177_0 : memF F_X5_isWord_176 177 0 = false := by decide
theorem ma_X5_step_176_175 : memA A_X5_step_176 175 = false := by decide
theorem mf_X5_step_176_174_1 : memF F_X5_step_176 174 1 = false := by decide
theorem mf_X5_step_176_177_3 : memF F_X5_step_176 177 3 = false := by decide
set_option maxRecDepth 100000 in
set_option maxHeartbeats 4000000 in
theorem T_X5_readClause_176 (d : Nat) {N : Nat} {g0 : List en_E} (hI0 : HI g0) (hT : TKX g0) : Ev (d + 421) 64 [.ref 176] (g0, N) (fun w h' => ∃ g', h' = (g', N) ∧ HI g' ∧ Fr F_X5_readClause_176 A_X5_readClause_176 g0 g' ∧ w = none ∧ CPX g0 g') := by
  have hF0 : Fr F_X5_readClause_176 A_X5_readClause_176 g0 g0 := Fr.rf
  refine Ev.mk rfl rfl ⟨Nat.le_of_ble_eq_true rfl, Or.inr (q_rc hI0.1 kx_176 rfl)⟩ ?_
  show At _ none _ _ (0, [(0, .ref 176)], [], (_, _)) _
  refine At.enter rfl ?_
  refine r_aload_n rfl ?_
  refine r_ldcS (by decide) 1 rfl ?_
  refine r_callV 6 rfl [.ref 176, .float 1] [] (Nat.le_of_ble_eq_true rfl) rfl (T_X5_isWord_176 _ hI0 1 (by decide) hT) ?_
  rintro _ _ ⟨g673, rfl, hI674, hF675, v676, rfl, hr677⟩
  refine At.sti ?_
  have hF678 := Fr.tr hF0 hF675 rfl rfl
  have hb679 : BL (CDX g0 = 11) v676.toInt := ISW.code (c := 11) hr677.2 hT (isWC_d (by omega)) (by decide +kernel)
  refine At.enter rfl ?_
  refine r_ifs 9 rfl (fun c680 => ?_) (fun c680 => ?_)
  · have c680_ : v676.toInt = 0 := en_k_eq_t c680
    have i681 := BL.no hb679 (by omega)
    refine At.enter rfl ?_
    refine r_aload_n rfl ?_
    refine r_ldcS (by decide) 2 rfl ?_
    refine r_callV 19 rfl [.ref 176, .float 2] [] (Nat.le_of_ble_eq_true rfl) rfl (T_X5_isWord_176 _ hI674 2 (by decide) (TKX.c hT ((hF675.2.1 175 ma_X5_isWord_176_175)) ((hF675.1 174 1 mf_X5_isWord_176_174_1)) ((hF675.1 176 3 mf_X5_isWord_176_176_3)) ((hF675.1 176 4 mf_X5_isWord_176_176_4)) ((hF675.1 176 5 mf_X5_isWord_176_176_5)))) ?_
    rintro _ _ ⟨g682, rfl, hI683, hF684, v685, rfl, hr686⟩
    refine At.sti ?_
    have hF687 := Fr.tr hF678 hF684 rfl rfl
    have hb688 : BL (CDX g0 = 12) v685.toInt := by have z := ISW.code (c := 12) hr686.2 (TKX.c hT ((hF675.2.1 175 ma_X5_isWord_176_175)) ((hF675.1 174 1 mf_X5_isWord_176_174_1)) ((hF675.1 176 3 mf_X5_isWord_176_176_3)) ((hF675.1 176 4 mf_X5_isWord_176_176_4)) ((hF675.1 176 5 mf_X5_isWord_176_176_5))) (isWC_d (by omega)) (by decide +kernel); rw [CDX.c ((hF675.2.1 175 ma_X5_isWord_176_175)) ((hF675.1 176 3 mf_X5_isWord_176_176_3)) ((hF675.1 176 4 mf_X5_isWord_176_176_4)) ((hF675.1 176 5 mf_X5_isWord_176_176_5))] at z; exact z
    refine At.enter rfl ?_
    refine r_ifs 22 rfl (fun c689 => ?_) (fun c689 => ?_)
    · have c689_ : v685.toInt = 0 := en_k_eq_t c689
      have i690 := BL.no hb688 (by omega)
      refine At.enter rfl ?_
      refine r_aload_n rfl ?_
      refine r_ldcS (by decide) 3 rfl ?_
      refine r_callV 32 rfl [.ref 176, .float 3] [] (Nat.le_of_ble_eq_true rfl) rfl (T_X5_isWord_176 _ hI683 3 (by decide) (TKX.c hT (((hF684.2.1 175 ma_X5_isWord_176_175).trans (hF675.2.1 175 ma_X5_isWord_176_175))) (((hF684.1 174 1 mf_X5_isWord_176_174_1).trans (hF675.1 174 1 mf_X5_isWord_176_174_1))) (((hF684.1 176 3 mf_X5_isWord_176_176_3).trans (hF675.1 176 3 mf_X5_isWord_176_176_3))) (((hF684.1 176 4 mf_X5_isWord_176_176_4).trans (hF675.1 176 4 mf_X5_isWord_176_176_4))) (((hF684.1 176 5 mf_X5_isWord_176_176_5).trans (hF675.1 176 5 mf_X5_isWord_176_176_5))))) ?_
      rintro _ _ ⟨g691, rfl, hI692, hF693, v694, rfl, hr695⟩
      refine At.sti ?_
      have hF696 := Fr.tr hF687 hF693 rfl rfl
      have hb697 : BL (CDX g0 = 13) v694.toInt := by have z := ISW.code (c := 13) hr695.2 (TKX.c hT (((hF684.2.1 175 ma_X5_isWord_176_175).trans (hF675.2.1 175 ma_X5_isWord_176_175))) (((hF684.1 174 1 mf_X5_isWord_176_174_1).trans (hF675.1 174 1 mf_X5_isWord_176_174_1))) (((hF684.1 176 3 mf_X5_isWord_176_176_3).trans (hF675.1 176 3 mf_X5_isWord_176_176_3))) (((hF684.1 176 4 mf_X5_isWord_176_176_4).trans (hF675.1 176 4 mf_X5_isWord_176_176_4))) (((hF684.1 176 5 mf_X5_isWord_176_176_5).trans (hF675.1 176 5 mf_X5_isWord_176_176_5)))) (isWC_d (by omega)) (by decide +kernel); rw [CDX.c (((hF684.2.1 175 ma_X5_isWord_176_175).trans (hF675.2.1 175 ma_X5_isWord_176_175))) (((hF684.1 176 3 mf_X5_isWord_176_176_3).trans (hF675.1 176 3 mf_X5_isWord_176_176_3))) (((hF684.1 176 4 mf_X5_isWord_176_176_4).trans (hF675.1 176 4 mf_X5_isWord_176_176_4))) (((hF684.1 176 5 mf_X5_isWord_176_176_5).trans (hF675.1 176 5 mf_X5_isWord_176_176_5)))] at z; exact z
      refine At.enter rfl ?_
      refine r_ifs 35 rfl (fun c698 => ?_) (fun c698 => ?_)
      · have c698_ : v694.toInt = 0 := en_k_eq_t c698
        have i699 := BL.no hb697 (by omega)
        refine At.enter rfl ?_
        refine r_iconst (-1) rfl ?_
        refine Ar.fall 40 rfl ?_
        refine At.enter rfl ?_
        refine r_istore_n ([(1, .int (-1)), (0, .ref 176)]) rfl ?_
        refine r_aload_n rfl ?_
        refine q_getR (Sh.ref hI692.1 kx_176 rfl) ?_
        obtain ⟨v700, hv700⟩ : ∃ v, gI g0 177 3 = v := ⟨_, rfl⟩
        have rv700 := RgF.at hI0.2.1 (p := 177) (b := 3) rfl
        rw [hv700] at rv700
        dsimp only at rv700
        refine q_getI (Sh.int hI692.1 kx_177 rfl) v700 (((hF693.1 177 3 mf_X5_isWord_176_177_3).trans ((hF684.1 177 3 mf_X5_isWord_176_177_3).trans (hF675.1 177 3 mf_X5_isWord_176_177_3))).trans hv700) ?_
        refine r_istore_n ([(2, .int v700), (1, .int (-1)), (0, .ref 176)]) rfl ?_
        refine r_iload_n rfl ?_
        refine r_iconst (-1) rfl ?_
        refine r_ict (by decide) ?_
        refine At.enter rfl ?_
        refine r_aload_n rfl ?_
        refine q_inlV 64 rfl [.ref 176] [] (Nat.le_of_ble_eq_true rfl) rfl ?_
        refine Ev.mk rfl rfl ⟨Nat.le_of_ble_eq_true rfl, Or.inr (q_rc hI692.1 kx_176 rfl)⟩ ?_
        show At _ none _ _ (0, [(0, .ref 176)], [], (_, _)) _
        refine At.enter rfl ?_
        refine r_aload_n rfl ?_
        obtain ⟨v701, hv701⟩ : ∃ v, gI g0 176 2 = v := ⟨_, rfl⟩
        refine q_getI (Sh.int hI692.1 kx_176 rfl) v701 (((hF693.1 176 2 mf_X5_isWord_176_176_2).trans ((hF684.1 176 2 mf_X5_isWord_176_176_2).trans (hF675.1 176 2 mf_X5_isWord_176_176_2))).trans hv701) ?_
        refine r_iconst (-1) rfl ?_
        refine r_ics 8 rfl (fun c702 => ?_) (fun c702 => ?_)
        · have c702_ : v701.toInt ≠ (-1) := en_i_ne_t c702
          refine At.enter rfl ?_
          refine q_vret ?_
          refine At.enter rfl ?_
          refine r_vret ?_
          have x703 := rX.e hI692 (b := 2) ((((hF693.1 176 2 mf_X5_isWord_176_176_2).trans ((hF684.1 176 2 mf_X5_isWord_176_176_2).trans (hF675.1 176 2 mf_X5_isWord_176_176_2))).trans hv701))
          have x704 := rX.e hI0 (b := 2) (hv701)
          obtain ⟨v705, hv705⟩ : ∃ v, gI g0 176 4 = v := ⟨_, rfl⟩
          have rv705 := RgF.at hI0.2.1 (p := 176) (b := 4) rfl
          rw [hv705] at rv705
          dsimp only at rv705
          have tv705 := congrArg Int32.toInt hv705
          have x706 := rX.e hI692 (b := 4) ((((hF693.1 176 4 mf_X5_isWord_176_176_4).trans ((hF684.1 176 4 mf_X5_isWord_176_176_4).trans (hF675.1 176 4 mf_X5_isWord_176_176_4))).trans hv705))
          have x707 := rX.e hI0 (b := 4) (hv705)
          obtain ⟨v708, hv708⟩ : ∃ v, gI g0 176 6 = v := ⟨_, rfl⟩
          have tv708 := congrArg Int32.toInt hv708
          have x709 := rX.e hI692 (b := 6) ((((hF693.1 176 6 mf_X5_isWord_176_176_6).trans ((hF684.1 176 6 mf_X5_isWord_176_176_6).trans (hF675.1 176 6 mf_X5_isWord_176_176_6))).trans hv708))
          have x710 := rX.e hI0 (b := 6) (hv708)
          have x711 := kX.e hI0 (hv700)
          have x712 := kX.e hI692 ((((hF693.1 177 3 mf_X5_isWord_176_177_3).trans ((hF684.1 177 3 mf_X5_isWord_176_177_3).trans (hF675.1 177 3 mf_X5_isWord_176_177_3))).trans hv700))
          exact ⟨_, rfl, hI692, hF696, rfl, ⟨(TKX.c hT (((hF693.2.1 175 ma_X5_isWord_176_175).trans ((hF684.2.1 175 ma_X5_isWord_176_175).trans (hF675.2.1 175 ma_X5_isWord_176_175)))) (((hF693.1 174 1 mf_X5_isWord_176_174_1).trans ((hF684.1 174 1 mf_X5_isWord_176_174_1).trans (hF675.1 174 1 mf_X5_isWord_176_174_1)))) (((hF693.1 176 3 mf_X5_isWord_176_176_3).trans ((hF684.1 176 3 mf_X5_isWord_176_176_3).trans (hF675.1 176 3 mf_X5_isWord_176_176_3)))) (((hF693.1 176 4 mf_X5_isWord_176_176_4).trans ((hF684.1 176 4 mf_X5_isWord_176_176_4).trans (hF675.1 176 4 mf_X5_isWord_176_176_4)))) (((hF693.1 176 5 mf_X5_isWord_176_176_5).trans ((hF684.1 176 5 mf_X5_isWord_176_176_5).trans (hF675.1 176 5 mf_X5_isWord_176_176_5))))), (PRG0.fail 1 (rX.c (b := 4) (((hF693.1 176 4 mf_X5_isWord_176_176_4).trans ((hF684.1 176 4 mf_X5_isWord_176_176_4).trans (hF675.1 176 4 mf_X5_isWord_176_176_4))))) (fun _ => by omega) (fun _ => by omega) (by omega)).le (by omega), fun c0 h => h.fail (fun _ => S.clsF (TKX.some hT).choose_spec (by omega)) (fun _ => by omega) (fun _ => by omega) (by omega)⟩⟩
        · have c702_ : v701.toInt = (-1) := en_i_ne_f c702
          refine At.enter rfl ?_
          refine r_aload_n rfl ?_
          refine r_aload_n rfl ?_
          obtain ⟨v713, hv713⟩ : ∃ v, gI g0 176 4 = v := ⟨_, rfl⟩
          have rv713 := RgF.at hI0.2.1 (p := 176) (b := 4) rfl
          rw [hv713] at rv713
          dsimp only at rv713
          refine q_getI (Sh.int hI692.1 kx_176 rfl) v713 (((hF693.1 176 4 mf_X5_isWord_176_176_4).trans ((hF684.1 176 4 mf_X5_isWord_176_176_4).trans (hF675.1 176 4 mf_X5_isWord_176_176_4))).trans hv713) ?_
          refine q_putI (Sh.int hI692.1 kx_176 rfl) rfl ?_
          have hI714 := HI.wI0 hI692 kx_176 rfl (p := 176) (b := 2) (v := v713) rfl
          have hF715 := Fr.wI (p := 176) (b := 2) (v := v713) hF696 rfl
          refine Ar.fall 16 rfl ?_
          refine At.enter rfl ?_
          refine q_vret ?_
          refine At.enter rfl ?_
          refine r_vret ?_
          have x716 := rX.e hI714 (b := 2) ((gI_sI_eq hI692.1 kx_176 rfl _))
          have x717 := rX.e hI0 (b := 2) (hv701)
          have x718 := rX.e hI714 (b := 4) ((((gI_sI_ne (by decide)).trans ((hF693.1 176 4 mf_X5_isWord_176_176_4).trans ((hF684.1 176 4 mf_X5_isWord_176_176_4).trans (hF675.1 176 4 mf_X5_isWord_176_176_4)))).trans hv713))
          have x719 := rX.e hI0 (b := 4) (hv713)
          obtain ⟨v720, hv720⟩ : ∃ v, gI g0 176 6 = v := ⟨_, rfl⟩
          have tv720 := congrArg Int32.toInt hv720
          have x721 := rX.e hI714 (b := 6) ((((gI_sI_ne (by decide)).trans ((hF693.1 176 6 mf_X5_isWord_176_176_6).trans ((hF684.1 176 6 mf_X5_isWord_176_176_6).trans (hF675.1 176 6 mf_X5_isWord_176_176_6)))).trans hv720))
          have x722 := rX.e hI0 (b := 6) (hv720)
          have x723 := kX.e hI0 (hv700)
          have x724 := kX.e hI714 ((((gI_sI_ne (by decide)).trans ((hF693.1 177 3 mf_X5_isWord_176_177_3).trans ((hF684.1 177 3 mf_X5_isWord_176_177_3).trans (hF675.1 177 3 mf_X5_isWord_176_177_3)))).trans hv700))
          exact ⟨_, rfl, hI714, hF715, rfl, ⟨(TKX.c hT (((gA_sI).trans ((hF693.2.1 175 ma_X5_isWord_176_175).trans ((hF684.2.1 175 ma_X5_isWord_176_175).trans (hF675.2.1 175 ma_X5_isWord_176_175))))) (((gI_sI_ne (by decide)).trans ((hF693.1 174 1 mf_X5_isWord_176_174_1).trans ((hF684.1 174 1 mf_X5_isWord_176_174_1).trans (hF675.1 174 1 mf_X5_isWord_176_174_1))))) (((gI_sI_ne (by decide)).trans ((hF693.1 176 3 mf_X5_isWord_176_176_3).trans ((hF684.1 176 3 mf_X5_isWord_176_176_3).trans (hF675.1 176 3 mf_X5_isWord_176_176_3))))) (((gI_sI_ne (by decide)).trans ((hF693.1 176 4 mf_X5_isWord_176_176_4).trans ((hF684.1 176 4 mf_X5_isWord_176_176_4).trans (hF675.1 176 4 mf_X5_isWord_176_176_4))))) (((gI_sI_ne (by decide)).trans ((hF693.1 176 5 mf_X5_isWord_176_176_5).trans ((hF684.1 176 5 mf_X5_isWord_176_176_5).trans (hF675.1 176 5 mf_X5_isWord_176_176_5)))))), (PRG0.fail 1 (rX.c (b := 4) (((gI_sI_ne (by decide)).trans ((hF693.1 176 4 mf_X5_isWord_176_176_4).trans ((hF684.1 176 4 mf_X5_isWord_176_176_4).trans (hF675.1 176 4 mf_X5_isWord_176_176_4)))))) (fun _ => by omega) (fun _ => by omega) (by omega)).le (by omega), fun c0 h => h.fail (fun _ => S.clsF (TKX.some hT).choose_spec (by omega)) (fun _ => by omega) (fun _ => by omega) (by omega)⟩⟩
      · have c698_ : v694.toInt ≠ 0 := en_k_eq_f c698
        have i725 := BL.yes hb697 (by omega)
        refine At.enter rfl ?_
        refine r_iconst 2 rfl ?_
        refine r_goto ?_
        refine At.enter rfl ?_
        refine r_istore_n ([(1, .int 2), (0, .ref 176)]) rfl ?_
        refine r_aload_n rfl ?_
        refine q_getR (Sh.ref hI692.1 kx_176 rfl) ?_
        obtain ⟨v726, hv726⟩ : ∃ v, gI g0 177 3 = v := ⟨_, rfl⟩
        have rv726 := RgF.at hI0.2.1 (p := 177) (b := 3) rfl
        rw [hv726] at rv726
        dsimp only at rv726
        refine q_getI (Sh.int hI692.1 kx_177 rfl) v726 (((hF693.1 177 3 mf_X5_isWord_176_177_3).trans ((hF684.1 177 3 mf_X5_isWord_176_177_3).trans (hF675.1 177 3 mf_X5_isWord_176_177_3))).trans hv726) ?_
        refine r_istore_n ([(2, .int v726), (1, .int 2), (0, .ref 176)]) rfl ?_
        refine r_iload_n rfl ?_
        refine r_iconst (-1) rfl ?_
        refine r_icf 54 rfl (by decide) ?_
        refine At.enter rfl ?_
        refine r_iload_n rfl ?_
        refine r_bipush 12 rfl ?_
        refine r_ics 60 rfl (fun c727 => ?_) (fun c727 => ?_)
        · have c727_ : v726.toInt < 12 := en_i_lt_t c727
          refine At.enter rfl ?_
          refine r_aload_n rfl ?_
          refine r_callV 69 rfl [.ref 176] [] (Nat.le_of_ble_eq_true rfl) rfl (T_X5_step_176 _ hI692 (TKX.c hT (((hF693.2.1 175 ma_X5_isWord_176_175).trans ((hF684.2.1 175 ma_X5_isWord_176_175).trans (hF675.2.1 175 ma_X5_isWord_176_175)))) (((hF693.1 174 1 mf_X5_isWord_176_174_1).trans ((hF684.1 174 1 mf_X5_isWord_176_174_1).trans (hF675.1 174 1 mf_X5_isWord_176_174_1)))) (((hF693.1 176 3 mf_X5_isWord_176_176_3).trans ((hF684.1 176 3 mf_X5_isWord_176_176_3).trans (hF675.1 176 3 mf_X5_isWord_176_176_3)))) (((hF693.1 176 4 mf_X5_isWord_176_176_4).trans ((hF684.1 176 4 mf_X5_isWord_176_176_4).trans (hF675.1 176 4 mf_X5_isWord_176_176_4)))) (((hF693.1 176 5 mf_X5_isWord_176_176_5).trans ((hF684.1 176 5 mf_X5_isWord_176_176_5).trans (hF675.1 176 5 mf_X5_isWord_176_176_5))))).1 (TKX.c hT (((hF693.2.1 175 ma_X5_isWord_176_175).trans ((hF684.2.1 175 ma_X5_isWord_176_175).trans (hF675.2.1 175 ma_X5_isWord_176_175)))) (((hF693.1 174 1 mf_X5_isWord_176_174_1).trans ((hF684.1 174 1 mf_X5_isWord_176_174_1).trans (hF675.1 174 1 mf_X5_isWord_176_174_1)))) (((hF693.1 176 3 mf_X5_isWord_176_176_3).trans ((hF684.1 176 3 mf_X5_isWord_176_176_3).trans (hF675.1 176 3 mf_X5_isWord_176_176_3)))) (((hF693.1 176 4 mf_X5_isWord_176_176_4).trans ((hF684.1 176 4 mf_X5_isWord_176_176_4).trans (hF675.1 176 4 mf_X5_isWord_176_176_4)))) (((hF693.1 176 5 mf_X5_isWord_176_176_5).trans ((hF684.1 176 5 mf_X5_isWord_176_176_5).trans (hF675.1 176 5 mf_X5_isWord_176_176_5))))).2.1.le.2.1) ?_
          rintro _ _ ⟨g728, rfl, hI729, hF730, rfl, hr732⟩
          refine At.stn ?_
          have hF733 := Fr.tr hF696 hF730 rfl rfl
          have tok734_ := hr732.2
          rw [TX.c (((hF693.2.1 175 ma_X5_isWord_176_175).trans ((hF684.2.1 175 ma_X5_isWord_176_175).trans (hF675.2.1 175 ma_X5_isWord_176_175)))), nX.c (((hF693.1 174 1 mf_X5_isWord_176_174_1).trans ((hF684.1 174 1 mf_X5_isWord_176_174_1).trans (hF675.1 174 1 mf_X5_isWord_176_174_1)))), rX.c (b := 5) (((hF693.1 176 5 mf_X5_isWord_176_176_5).trans ((hF684.1 176 5 mf_X5_isWord_176_176_5).trans (hF675.1 176 5 mf_X5_isWord_176_176_5))))] at tok734_
          have tok734 := TKX.tok hT tok734_
          have hT735 := hr732.1
          obtain ⟨v736, hv736⟩ : ∃ v, gI g0 176 4 = v := ⟨_, rfl⟩
          have rv736 := RgF.at hI0.2.1 (p := 176) (b := 4) rfl
          rw [hv736] at rv736
          dsimp only at rv736
          have tv736 := congrArg Int32.toInt hv736
          have x737 := rX.e hI692 (b := 4) ((((hF693.1 176 4 mf_X5_isWord_176_176_4).trans ((hF684.1 176 4 mf_X5_isWord_176_176_4).trans (hF675.1 176 4 mf_X5_isWord_176_176_4))).trans hv736))
          obtain ⟨v738, hv738⟩ : ∃ v, gI g728 176 4 = v := ⟨_, rfl⟩
          have rv738 := RgF.at hI729.2.1 (p := 176) (b := 4) rfl
          rw [hv738] at rv738
          dsimp only at rv738
          have tv738 := congrArg Int32.toInt hv738
          have x739 := rX.e hI729 (b := 4) (hv738)
          refine At.enter rfl ?_
          refine r_aload_n rfl ?_
          refine q_getR (Sh.ref hI729.1 kx_176 rfl) ?_
          refine r_iload_n rfl ?_
          refine r_iconst 1 rfl ?_
          refine q_iadd (v726.toInt + 1) rfl (by omega) (fun v740 hv740 => ?_)
          refine q_putI (Sh.int hI729.1 kx_177 rfl) rfl ?_
          have hI741 := HI.wI1 hI729 kx_177 rfl (p := 177) (b := 3) (v := v740) rfl (by dsimp only; omega)
          have hF742 := Fr.wI (p := 177) (b := 3) (v := v740) hF733 rfl
          refine r_aload_n rfl ?_
          refine q_getR (Sh.ref hI741.1 kx_176 rfl) ?_
          refine q_getR (Sh.ref hI741.1 kx_177 rfl) ?_
          refine r_iload_n rfl ?_
          refine r_iload_n rfl ?_
          refine q_iast (Sh.arr hI741.1 ka_180) (v726.toInt) rfl (by omega) ?_
          have hI743 := HI.wA0 hI741 ka_180 (p := 180) rfl rfl (v726.toInt) (2)
          have hF744 := Fr.wA (p := 180) (j := v726.toInt) (v := 2) hF742 rfl
          refine r_aload_n rfl ?_
          refine q_getR (Sh.ref hI743.1 kx_176 rfl) ?_
          refine r_dup rfl ?_
          obtain ⟨v745, hv745⟩ : ∃ v, gI g0 177 4 = v := ⟨_, rfl⟩
          refine q_getI (Sh.int hI743.1 kx_177 rfl) v745 (((gI_sW).trans ((gI_sI_ne (by decide)).trans ((hF730.1 177 4 mf_X5_step_176_177_4).trans ((hF693.1 177 4 mf_X5_isWord_176_177_4).trans ((hF684.1 177 4 mf_X5_isWord_176_177_4).trans (hF675.1 177 4 mf_X5_isWord_176_177_4)))))).trans hv745) ?_
          refine r_iconst 1 rfl ?_
          refine r_iload_n rfl ?_
          refine r_ishl 4 (by decide) ?_
          refine q_iorO (fun v746 hv746 => ?_)
          refine q_putI (Sh.int hI743.1 kx_177 rfl) rfl ?_
          have hI747 := HI.wI0 hI743 kx_177 rfl (p := 177) (b := 4) (v := v746) rfl
          have hF748 := Fr.wI (p := 177) (b := 4) (v := v746) hF744 rfl
          refine r_aload_n rfl ?_
          refine q_getR (Sh.ref hI747.1 kx_176 rfl) ?_
          refine q_getR (Sh.ref hI747.1 kx_177 rfl) ?_
          refine r_iload_n rfl ?_
          refine r_aload_n rfl ?_
          refine q_getR (Sh.ref hI747.1 kx_176 rfl) ?_
          obtain ⟨v749, hv749⟩ : ∃ v, gI g0 177 0 = v := ⟨_, rfl⟩
          have rv749 := RgF.at hI0.2.1 (p := 177) (b := 0) rfl
          rw [hv749] at rv749
          dsimp only at rv749
          refine q_getI (Sh.int hI747.1 kx_177 rfl) v749 (((gI_sI_ne (by decide)).trans ((gI_sW).trans ((gI_sI_ne (by decide)).trans ((hF730.1 177 0 mf_X5_step_176_177_0).trans ((hF693.1 177 0 mf_X5_isWord_176_177_0).trans ((hF684.1 177 0 mf_X5_isWord_176_177_0).trans (hF675.1 177 0 mf_X5_isWord_176_177_0))))))).trans hv749) ?_
          refine q_iast (Sh.arr hI747.1 ka_181) (v726.toInt) rfl (by omega) ?_
          have hI750 := HI.wA0 hI747 ka_181 (p := 181) rfl rfl (v726.toInt) (v749)
          have hF751 := Fr.wA (p := 181) (j := v726.toInt) (v := v749) hF748 rfl
          refine r_iload_n rfl ?_
          refine r_iconst 2 rfl ?_
          refine r_ict (by decide) ?_
          refine At.enter rfl ?_
          refine r_aload_n rfl ?_
          refine q_getR (Sh.ref hI750.1 kx_176 rfl) ?_
          refine q_getR (Sh.ref hI750.1 kx_177 rfl) ?_
          refine r_iload_n rfl ?_
          refine r_aload_n rfl ?_
          refine q_getR (Sh.ref hI750.1 kx_176 rfl) ?_
          refine q_getI (Sh.int hI750.1 kx_177 rfl) v749 (((gI_sW).trans ((gI_sI_ne (by decide)).trans ((gI_sW).trans ((gI_sI_ne (by decide)).trans ((hF730.1 177 0 mf_X5_step_176_177_0).trans ((hF693.1 177 0 mf_X5_isWord_176_177_0).trans ((hF684.1 177 0 mf_X5_isWord_176_177_0).trans (hF675.1 177 0 mf_X5_isWord_176_177_0)))))))).trans hv749) ?_
          refine q_iast (Sh.arr hI750.1 ka_182) (v726.toInt) rfl (by omega) ?_
          have hI752 := HI.wA0 hI750 ka_182 (p := 182) rfl rfl (v726.toInt) (v749)
          have hF753 := Fr.wA (p := 182) (j := v726.toInt) (v := v749) hF751 rfl
          refine r_aload_n rfl ?_
          obtain ⟨v754, hv754⟩ : ∃ v, gI g0 176 2 = v := ⟨_, rfl⟩
          refine q_getI (Sh.int hI752.1 kx_176 rfl) v754 (((gI_sW).trans ((gI_sW).trans ((gI_sI_ne (by decide)).trans ((gI_sW).trans ((gI_sI_ne (by decide)).trans ((hF730.1 176 2 mf_X5_step_176_176_2).trans ((hF693.1 176 2 mf_X5_isWord_176_176_2).trans ((hF684.1 176 2 mf_X5_isWord_176_176_2).trans (hF675.1 176 2 mf_X5_isWord_176_176_2))))))))).trans hv754) ?_
          refine r_iconst (-1) rfl ?_
          refine r_ics 155 rfl (fun c755 => ?_) (fun c755 => ?_)
          · have c755_ : v754.toInt ≠ (-1) := en_i_ne_t c755
            refine At.enter rfl ?_
            refine r_aload_n rfl ?_
            refine q_getR (Sh.ref hI752.1 kx_176 rfl) ?_
            refine q_getR (Sh.ref hI752.1 kx_177 rfl) ?_
            refine r_iload_n rfl ?_
            refine r_aload_n rfl ?_
            refine q_getR (Sh.ref hI752.1 kx_176 rfl) ?_
            refine q_getI (Sh.int hI752.1 kx_177 rfl) v749 (((gI_sW).trans ((gI_sW).trans ((gI_sI_ne (by decide)).trans ((gI_sW).trans ((gI_sI_ne (by decide)).trans ((hF730.1 177 0 mf_X5_step_176_177_0).trans ((hF693.1 177 0 mf_X5_isWord_176_177_0).trans ((hF684.1 177 0 mf_X5_isWord_176_177_0).trans (hF675.1 177 0 mf_X5_isWord_176_177_0))))))))).trans hv749) ?_
            refine q_iast (Sh.arr hI752.1 ka_183) (v726.toInt) rfl (by omega) ?_
            have hI756 := HI.wA0 hI752 ka_183 (p := 183) rfl rfl (v726.toInt) (v749)
            have hF757 := Fr.wA (p := 183) (j := v726.toInt) (v := v749) hF753 rfl
            refine r_vret ?_
            have x758 := rX.e hI756 (b := 2) ((((gI_sW).trans ((gI_sW).trans ((gI_sW).trans ((gI_sI_ne (by decide)).trans ((gI_sW).trans ((gI_sI_ne (by decide)).trans ((hF730.1 176 2 mf_X5_step_176_176_2).trans ((hF693.1 176 2 mf_X5_isWord_176_176_2).trans ((hF684.1 176 2 mf_X5_isWord_176_176_2).trans (hF675.1 176 2 mf_X5_isWord_176_176_2)))))))))).trans hv754))
            have x759 := rX.e hI0 (b := 2) (hv754)
            have x760 := rX.e hI756 (b := 4) ((((gI_sW).trans ((gI_sW).trans ((gI_sW).trans ((gI_sI_ne (by decide)).trans ((gI_sW).trans (gI_sI_ne (by decide))))))).trans hv738))
            have x761 := rX.e hI0 (b := 4) (hv736)
            obtain ⟨v762, hv762⟩ : ∃ v, gI g0 176 6 = v := ⟨_, rfl⟩
            have tv762 := congrArg Int32.toInt hv762
            have x763 := rX.e hI756 (b := 6) ((((gI_sW).trans ((gI_sW).trans ((gI_sW).trans ((gI_sI_ne (by decide)).trans ((gI_sW).trans ((gI_sI_ne (by decide)).trans ((hF730.1 176 6 mf_X5_step_176_176_6).trans ((hF693.1 176 6 mf_X5_isWord_176_176_6).trans ((hF684.1 176 6 mf_X5_isWord_176_176_6).trans (hF675.1 176 6 mf_X5_isWord_176_176_6)))))))))).trans hv762))
            have x764 := rX.e hI0 (b := 6) (hv762)
            have x765 := rX.e hI729 (b := 2) ((((hF730.1 176 2 mf_X5_step_176_176_2).trans ((hF693.1 176 2 mf_X5_isWord_176_176_2).trans ((hF684.1 176 2 mf_X5_isWord_176_176_2).trans (hF675.1 176 2 mf_X5_isWord_176_176_2)))).trans hv754))
            have x766 := rX.e hI729 (b := 4) (hv738)
            have x767 := kX.e hI0 (hv726)
            have x768 := kX.e hI756 (((gI_sW).trans ((gI_sW).trans ((gI_sW).trans ((gI_sI_ne (by decide)).trans ((gI_sW).trans (gI_sI_eq hI729.1 kx_177 rfl _)))))))
            exact ⟨_, rfl, hI756, hF757, rfl, ⟨(TKX.c hT735 (((gA_sA_ne (by decide)).trans ((gA_sA_ne (by decide)).trans ((gA_sA_ne (by decide)).trans ((gA_sI).trans ((gA_sA_ne (by decide)).trans (gA_sI))))))) (((gI_sW).trans ((gI_sW).trans ((gI_sW).trans ((gI_sI_ne (by decide)).trans ((gI_sW).trans (gI_sI_ne (by decide)))))))) (((gI_sW).trans ((gI_sW).trans ((gI_sW).trans ((gI_sI_ne (by decide)).trans ((gI_sW).trans (gI_sI_ne (by decide)))))))) (((gI_sW).trans ((gI_sW).trans ((gI_sW).trans ((gI_sI_ne (by decide)).trans ((gI_sW).trans (gI_sI_ne (by decide)))))))) (((gI_sW).trans ((gI_sW).trans ((gI_sW).trans ((gI_sI_ne (by decide)).trans ((gI_sW).trans (gI_sI_ne (by decide))))))))), ((PRG0.tr (PRG0.step hT tok734_ (rX.c (b := 2) (((hF730.1 176 2 mf_X5_step_176_176_2).trans ((hF693.1 176 2 mf_X5_isWord_176_176_2).trans ((hF684.1 176 2 mf_X5_isWord_176_176_2).trans (hF675.1 176 2 mf_X5_isWord_176_176_2)))))) (by omega)) (PRG0.eq (rX.c (b := 4) (((gI_sW).trans ((gI_sW).trans ((gI_sW).trans ((gI_sI_ne (by decide)).trans ((gI_sW).trans (gI_sI_ne (by decide))))))))) (rX.c (b := 2) (((gI_sW).trans ((gI_sW).trans ((gI_sW).trans ((gI_sI_ne (by decide)).trans ((gI_sW).trans (gI_sI_ne (by decide)))))))))))).le (by omega), fun c0 h => by have h1 : CST (TX g0) (nX g0) c0 g728 7 [] (kX g0 + 1) := CLX.head h (fun _ => S.clsB tok734 (by omega) (by omega) rfl) (rX.c (b := 2) (((hF730.1 176 2 mf_X5_step_176_176_2).trans ((hF693.1 176 2 mf_X5_isWord_176_176_2).trans ((hF684.1 176 2 mf_X5_isWord_176_176_2).trans (hF675.1 176 2 mf_X5_isWord_176_176_2)))))) (rX.c (b := 6) (((hF730.1 176 6 mf_X5_step_176_176_6).trans ((hF693.1 176 6 mf_X5_isWord_176_176_6).trans ((hF684.1 176 6 mf_X5_isWord_176_176_6).trans (hF675.1 176 6 mf_X5_isWord_176_176_6)))))); have h6 : CST (TX g0) (nX g0) c0 g728 8 [] (kX g0 + 1) := (by first | exact h1.bad (by omega) rfl | exact h1.eps (fun _ => S.noif (TKX.someC hT735 (((hF730.2.1 175 ma_X5_step_176_175).trans ((hF693.2.1 175 ma_X5_isWord_176_175).trans ((hF684.2.1 175 ma_X5_isWord_176_175).trans (hF675.2.1 175 ma_X5_isWord_176_175))))) (((hF730.1 174 1 mf_X5_step_176_174_1).trans ((hF693.1 174 1 mf_X5_isWord_176_174_1).trans ((hF684.1 174 1 mf_X5_isWord_176_174_1).trans (hF675.1 174 1 mf_X5_isWord_176_174_1)))))).choose_spec (by omega))); rw [x768]; rw [show (kX g0 + 1 : Int) = v740.toInt from by omega] at h6; exact h6.eq (rX.c (b := 2) (((gI_sW).trans ((gI_sW).trans ((gI_sW).trans ((gI_sI_ne (by decide)).trans ((gI_sW).trans (gI_sI_ne (by decide))))))))) (rX.c (b := 4) (((gI_sW).trans ((gI_sW).trans ((gI_sW).trans ((gI_sI_ne (by decide)).trans ((gI_sW).trans (gI_sI_ne (by decide))))))))) (rX.c (b := 6) (((gI_sW).trans ((gI_sW).trans ((gI_sW).trans ((gI_sI_ne (by decide)).trans ((gI_sW).trans (gI_sI_ne (by decide)))))))))⟩⟩
          · have c755_ : v754.toInt = (-1) := en_i_ne_f c755
            refine At.enter rfl ?_
            refine r_aload_n rfl ?_
            refine r_ldcS (by decide) 17 rfl ?_
            refine r_callV 161 rfl [.ref 176, .float 17] [] (Nat.le_of_ble_eq_true rfl) rfl (T_X5_isWord_176 _ hI752 17 (by decide) (TKX.c hT735 (((gA_sA_ne (by decide)).trans ((gA_sA_ne (by decide)).trans ((gA_sI).trans ((gA_sA_ne (by decide)).trans (gA_sI)))))) (((gI_sW).trans ((gI_sW).trans ((gI_sI_ne (by decide)).trans ((gI_sW).trans (gI_sI_ne (by decide))))))) (((gI_sW).trans ((gI_sW).trans ((gI_sI_ne (by decide)).trans ((gI_sW).trans (gI_sI_ne (by decide))))))) (((gI_sW).trans ((gI_sW).trans ((gI_sI_ne (by decide)).trans ((gI_sW).trans (gI_sI_ne (by decide))))))) (((gI_sW).trans ((gI_sW).trans ((gI_sI_ne (by decide)).trans ((gI_sW).trans (gI_sI_ne (by decide))))))))) ?_
            rintro _ _ ⟨g769, rfl, hI770, hF771, v772, rfl, hr773⟩
            refine At.sti ?_
            have hF774 := Fr.tr hF753 hF771 rfl rfl
            have hb775 : BL (CDX g728 = 10) v772.toInt := by have z := ISW.code (c := 10) hr773.2 (TKX.c hT735 (((gA_sA_ne (by decide)).trans ((gA_sA_ne (by decide)).trans ((gA_sI).trans ((gA_sA_ne (by decide)).trans (gA_sI)))))) (((gI_sW).trans ((gI_sW).trans ((gI_sI_ne (by decide)).trans ((gI_sW).trans (gI_sI_ne (by decide))))))) (((gI_sW).trans ((gI_sW).trans ((gI_sI_ne (by decide)).trans ((gI_sW).trans (gI_sI_ne (by decide))))))) (((gI_sW).trans ((gI_sW).trans ((gI_sI_ne (by decide)).trans ((gI_sW).trans (gI_sI_ne (by decide))))))) (((gI_sW).trans ((gI_sW).trans ((gI_sI_ne (by decide)).trans ((gI_sW).trans (gI_sI_ne (by decide)))))))) (isWC_d (by omega)) (by decide +kernel); rw [CDX.c (((gA_sA_ne (by decide)).trans ((gA_sA_ne (by decide)).trans ((gA_sI).trans ((gA_sA_ne (by decide)).trans (gA_sI)))))) (((gI_sW).trans ((gI_sW).trans ((gI_sI_ne (by decide)).trans ((gI_sW).trans (gI_sI_ne (by decide))))))) (((gI_sW).trans ((gI_sW).trans ((gI_sI_ne (by decide)).trans ((gI_sW).trans (gI_sI_ne (by decide))))))) (((gI_sW).trans ((gI_sW).trans ((gI_sI_ne (by decide)).trans ((gI_sW).trans (gI_sI_ne (by decide)))))))] at z; exact z
            refine At.enter rfl ?_
            refine r_ifs 164 rfl (fun c776 => ?_) (fun c776 => ?_)
            · have c776_ : v772.toInt = 0 := en_k_eq_t c776
              have i777 := BL.no hb775 (by omega)
              refine At.enter rfl ?_
              refine r_aload_n rfl ?_
              refine q_getR (Sh.ref hI770.1 kx_176 rfl) ?_
              refine q_getR (Sh.ref hI770.1 kx_177 rfl) ?_
              refine r_iload_n rfl ?_
              refine r_aload_n rfl ?_
              refine q_getR (Sh.ref hI770.1 kx_176 rfl) ?_
              refine q_getI (Sh.int hI770.1 kx_177 rfl) v749 (((hF771.1 177 0 mf_X5_isWord_176_177_0).trans ((gI_sW).trans ((gI_sW).trans ((gI_sI_ne (by decide)).trans ((gI_sW).trans ((gI_sI_ne (by decide)).trans ((hF730.1 177 0 mf_X5_step_176_177_0).trans ((hF693.1 177 0 mf_X5_isWord_176_177_0).trans ((hF684.1 177 0 mf_X5_isWord_176_177_0).trans (hF675.1 177 0 mf_X5_isWord_176_177_0)))))))))).trans hv749) ?_
              refine q_iast (Sh.arr hI770.1 ka_183) (v726.toInt) rfl (by omega) ?_
              have hI778 := HI.wA0 hI770 ka_183 (p := 183) rfl rfl (v726.toInt) (v749)
              have hF779 := Fr.wA (p := 183) (j := v726.toInt) (v := v749) hF774 rfl
              refine r_vret ?_
              have x780 := rX.e hI778 (b := 2) ((((gI_sW).trans ((hF771.1 176 2 mf_X5_isWord_176_176_2).trans ((gI_sW).trans ((gI_sW).trans ((gI_sI_ne (by decide)).trans ((gI_sW).trans ((gI_sI_ne (by decide)).trans ((hF730.1 176 2 mf_X5_step_176_176_2).trans ((hF693.1 176 2 mf_X5_isWord_176_176_2).trans ((hF684.1 176 2 mf_X5_isWord_176_176_2).trans (hF675.1 176 2 mf_X5_isWord_176_176_2))))))))))).trans hv754))
              have x781 := rX.e hI0 (b := 2) (hv754)
              have x782 := rX.e hI778 (b := 4) ((((gI_sW).trans ((hF771.1 176 4 mf_X5_isWord_176_176_4).trans ((gI_sW).trans ((gI_sW).trans ((gI_sI_ne (by decide)).trans ((gI_sW).trans (gI_sI_ne (by decide)))))))).trans hv738))
              have x783 := rX.e hI0 (b := 4) (hv736)
              obtain ⟨v784, hv784⟩ : ∃ v, gI g0 176 6 = v := ⟨_, rfl⟩
              have tv784 := congrArg Int32.toInt hv784
              have x785 := rX.e hI778 (b := 6) ((((gI_sW).trans ((hF771.1 176 6 mf_X5_isWord_176_176_6).trans ((gI_sW).trans ((gI_sW).trans ((gI_sI_ne (by decide)).trans ((gI_sW).trans ((gI_sI_ne (by decide)).trans ((hF730.1 176 6 mf_X5_step_176_176_6).trans ((hF693.1 176 6 mf_X5_isWord_176_176_6).trans ((hF684.1 176 6 mf_X5_isWord_176_176_6).trans (hF675.1 176 6 mf_X5_isWord_176_176_6))))))))))).trans hv784))
              have x786 := rX.e hI0 (b := 6) (hv784)
              have x787 := rX.e hI729 (b := 2) ((((hF730.1 176 2 mf_X5_step_176_176_2).trans ((hF693.1 176 2 mf_X5_isWord_176_176_2).trans ((hF684.1 176 2 mf_X5_isWord_176_176_2).trans (hF675.1 176 2 mf_X5_isWord_176_176_2)))).trans hv754))
              have x788 := rX.e hI729 (b := 4) (hv738)
              have x789 := kX.e hI0 (hv726)
              have x790 := kX.e hI778 (((gI_sW).trans ((hF771.1 177 3 mf_X5_isWord_176_177_3).trans ((gI_sW).trans ((gI_sW).trans ((gI_sI_ne (by decide)).trans ((gI_sW).trans (gI_sI_eq hI729.1 kx_177 rfl _))))))))
              exact ⟨_, rfl, hI778, hF779, rfl, ⟨(TKX.c hT735 (((gA_sA_ne (by decide)).trans ((hF771.2.1 175 ma_X5_isWord_176_175).trans ((gA_sA_ne (by decide)).trans ((gA_sA_ne (by decide)).trans ((gA_sI).trans ((gA_sA_ne (by decide)).trans (gA_sI)))))))) (((gI_sW).trans ((hF771.1 174 1 mf_X5_isWord_176_174_1).trans ((gI_sW).trans ((gI_sW).trans ((gI_sI_ne (by decide)).trans ((gI_sW).trans (gI_sI_ne (by decide))))))))) (((gI_sW).trans ((hF771.1 176 3 mf_X5_isWord_176_176_3).trans ((gI_sW).trans ((gI_sW).trans ((gI_sI_ne (by decide)).trans ((gI_sW).trans (gI_sI_ne (by decide))))))))) (((gI_sW).trans ((hF771.1 176 4 mf_X5_isWord_176_176_4).trans ((gI_sW).trans ((gI_sW).trans ((gI_sI_ne (by decide)).trans ((gI_sW).trans (gI_sI_ne (by decide))))))))) (((gI_sW).trans ((hF771.1 176 5 mf_X5_isWord_176_176_5).trans ((gI_sW).trans ((gI_sW).trans ((gI_sI_ne (by decide)).trans ((gI_sW).trans (gI_sI_ne (by decide)))))))))), ((PRG0.tr (PRG0.step hT tok734_ (rX.c (b := 2) (((hF730.1 176 2 mf_X5_step_176_176_2).trans ((hF693.1 176 2 mf_X5_isWord_176_176_2).trans ((hF684.1 176 2 mf_X5_isWord_176_176_2).trans (hF675.1 176 2 mf_X5_isWord_176_176_2)))))) (by omega)) (PRG0.eq (rX.c (b := 4) (((gI_sW).trans ((hF771.1 176 4 mf_X5_isWord_176_176_4).trans ((gI_sW).trans ((gI_sW).trans ((gI_sI_ne (by decide)).trans ((gI_sW).trans (gI_sI_ne (by decide)))))))))) (rX.c (b := 2) (((gI_sW).trans ((hF771.1 176 2 mf_X5_isWord_176_176_2).trans ((gI_sW).trans ((gI_sW).trans ((gI_sI_ne (by decide)).trans ((gI_sW).trans (gI_sI_ne (by decide))))))))))))).le (by omega), fun c0 h => by have h1 : CST (TX g0) (nX g0) c0 g728 7 [] (kX g0 + 1) := CLX.head h (fun _ => S.clsB tok734 (by omega) (by omega) rfl) (rX.c (b := 2) (((hF730.1 176 2 mf_X5_step_176_176_2).trans ((hF693.1 176 2 mf_X5_isWord_176_176_2).trans ((hF684.1 176 2 mf_X5_isWord_176_176_2).trans (hF675.1 176 2 mf_X5_isWord_176_176_2)))))) (rX.c (b := 6) (((hF730.1 176 6 mf_X5_step_176_176_6).trans ((hF693.1 176 6 mf_X5_isWord_176_176_6).trans ((hF684.1 176 6 mf_X5_isWord_176_176_6).trans (hF675.1 176 6 mf_X5_isWord_176_176_6)))))); have h6 : CST (TX g0) (nX g0) c0 g728 8 [] (kX g0 + 1) := (by first | exact h1.bad (by omega) rfl | exact h1.eps (fun _ => S.noif (TKX.someC hT735 (((hF730.2.1 175 ma_X5_step_176_175).trans ((hF693.2.1 175 ma_X5_isWord_176_175).trans ((hF684.2.1 175 ma_X5_isWord_176_175).trans (hF675.2.1 175 ma_X5_isWord_176_175))))) (((hF730.1 174 1 mf_X5_step_176_174_1).trans ((hF693.1 174 1 mf_X5_isWord_176_174_1).trans ((hF684.1 174 1 mf_X5_isWord_176_174_1).trans (hF675.1 174 1 mf_X5_isWord_176_174_1)))))).choose_spec (by omega))); rw [x790]; rw [show (kX g0 + 1 : Int) = v740.toInt from by omega] at h6; exact h6.eq (rX.c (b := 2) (((gI_sW).trans ((hF771.1 176 2 mf_X5_isWord_176_176_2).trans ((gI_sW).trans ((gI_sW).trans ((gI_sI_ne (by decide)).trans ((gI_sW).trans (gI_sI_ne (by decide)))))))))) (rX.c (b := 4) (((gI_sW).trans ((hF771.1 176 4 mf_X5_isWord_176_176_4).trans ((gI_sW).trans ((gI_sW).trans ((gI_sI_ne (by decide)).trans ((gI_sW).trans (gI_sI_ne (by decide)))))))))) (rX.c (b := 6) (((gI_sW).trans ((hF771.1 176 6 mf_X5_isWord_176_176_6).trans ((gI_sW).trans ((gI_sW).trans ((gI_sI_ne (by decide)).trans ((gI_sW).trans (gI_sI_ne (by decide))))))))))⟩⟩
            · have c776_ : v772.toInt ≠ 0 := en_k_eq_f c776
              have i791 := BL.yes hb775 (by omega)
              refine At.enter rfl ?_
              refine r_aload_n rfl ?_
              refine r_callV 168 rfl [.ref 176] [] (Nat.le_of_ble_eq_true rfl) rfl (T_X5_step_176 _ hI770 (TKX.c hT735 (((hF771.2.1 175 ma_X5_isWord_176_175).trans ((gA_sA_ne (by decide)).trans ((gA_sA_ne (by decide)).trans ((gA_sI).trans ((gA_sA_ne (by decide)).trans (gA_sI))))))) (((hF771.1 174 1 mf_X5_isWord_176_174_1).trans ((gI_sW).trans ((gI_sW).trans ((gI_sI_ne (by decide)).trans ((gI_sW).trans (gI_sI_ne (by decide)))))))) (((hF771.1 176 3 mf_X5_isWord_176_176_3).trans ((gI_sW).trans ((gI_sW).trans ((gI_sI_ne (by decide)).trans ((gI_sW).trans (gI_sI_ne (by decide)))))))) (((hF771.1 176 4 mf_X5_isWord_176_176_4).trans ((gI_sW).trans ((gI_sW).trans ((gI_sI_ne (by decide)).trans ((gI_sW).trans (gI_sI_ne (by decide)))))))) (((hF771.1 176 5 mf_X5_isWord_176_176_5).trans ((gI_sW).trans ((gI_sW).trans ((gI_sI_ne (by decide)).trans ((gI_sW).trans (gI_sI_ne (by decide))))))))).1 (TKX.c hT735 (((hF771.2.1 175 ma_X5_isWord_176_175).trans ((gA_sA_ne (by decide)).trans ((gA_sA_ne (by decide)).trans ((gA_sI).trans ((gA_sA_ne (by decide)).trans (gA_sI))))))) (((hF771.1 174 1 mf_X5_isWord_176_174_1).trans ((gI_sW).trans ((gI_sW).trans ((gI_sI_ne (by decide)).trans ((gI_sW).trans (gI_sI_ne (by decide)))))))) (((hF771.1 176 3 mf_X5_isWord_176_176_3).trans ((gI_sW).trans ((gI_sW).trans ((gI_sI_ne (by decide)).trans ((gI_sW).trans (gI_sI_ne (by decide)))))))) (((hF771.1 176 4 mf_X5_isWord_176_176_4).trans ((gI_sW).trans ((gI_sW).trans ((gI_sI_ne (by decide)).trans ((gI_sW).trans (gI_sI_ne (by decide)))))))) (((hF771.1 176 5 mf_X5_isWord_176_176_5).trans ((gI_sW).trans ((gI_sW).trans ((gI_sI_ne (by decide)).trans ((gI_sW).trans (gI_sI_ne (by decide))))))))).2.1.le.2.1) ?_
              rintro _ _ ⟨g792, rfl, hI793, hF794, rfl, hr796⟩
              refine At.stn ?_
              have hF797 := Fr.tr hF774 hF794 rfl rfl
              have tok798_ := hr796.2
              rw [TX.c (((hF771.2.1 175 ma_X5_isWord_176_175).trans ((gA_sA_ne (by decide)).trans ((gA_sA_ne (by decide)).trans ((gA_sI).trans ((gA_sA_ne (by decide)).trans (gA_sI))))))), nX.c (((hF771.1 174 1 mf_X5_isWord_176_174_1).trans ((gI_sW).trans ((gI_sW).trans ((gI_sI_ne (by decide)).trans ((gI_sW).trans (gI_sI_ne (by decide)))))))), rX.c (b := 5) (((hF771.1 176 5 mf_X5_isWord_176_176_5).trans ((gI_sW).trans ((gI_sW).trans ((gI_sI_ne (by decide)).trans ((gI_sW).trans (gI_sI_ne (by decide))))))))] at tok798_
              have tok798 := TKX.tok hT735 tok798_
              rw [TX.c (((hF730.2.1 175 ma_X5_step_176_175).trans ((hF693.2.1 175 ma_X5_isWord_176_175).trans ((hF684.2.1 175 ma_X5_isWord_176_175).trans (hF675.2.1 175 ma_X5_isWord_176_175))))), nX.c (((hF730.1 174 1 mf_X5_step_176_174_1).trans ((hF693.1 174 1 mf_X5_isWord_176_174_1).trans ((hF684.1 174 1 mf_X5_isWord_176_174_1).trans (hF675.1 174 1 mf_X5_isWord_176_174_1)))))] at tok798
              have hT799 := hr796.1
              have x800 := rX.e hI770 (b := 4) ((((hF771.1 176 4 mf_X5_isWord_176_176_4).trans ((gI_sW).trans ((gI_sW).trans ((gI_sI_ne (by decide)).trans ((gI_sW).trans (gI_sI_ne (by decide))))))).trans hv738))
              obtain ⟨v801, hv801⟩ : ∃ v, gI g792 176 4 = v := ⟨_, rfl⟩
              have rv801 := RgF.at hI793.2.1 (p := 176) (b := 4) rfl
              rw [hv801] at rv801
              dsimp only at rv801
              have tv801 := congrArg Int32.toInt hv801
              have x802 := rX.e hI793 (b := 4) (hv801)
              refine At.enter rfl ?_
              refine r_aload_n rfl ?_
              refine r_iconst 0 rfl ?_
              refine r_iconst 0 rfl ?_
              have zv803 : (0 : Int32).toInt = 0 := rfl
              have zv804 : (0 : Int32).toInt = 0 := rfl
              refine r_callV 174 rfl [.ref 176, .int 0, .int 0] [] (Nat.le_of_ble_eq_true rfl) rfl (T_X5_readJoined_176 _ hI793 0 (by decide) 0 (by decide) hT799) ?_
              rintro _ _ ⟨g805, rfl, hI806, hF807, rfl, hr809⟩
              refine At.stn ?_
              have hF810 := Fr.tr hF797 hF807 rfl rfl
              have zv811 : (0 : Int32).toInt = 0 := rfl
              have zv812 : (0 : Int32).toInt = 0 := rfl
              have x817 := rX.e hI793 (b := 2) ((((hF794.1 176 2 mf_X5_step_176_176_2).trans ((hF771.1 176 2 mf_X5_isWord_176_176_2).trans ((gI_sW).trans ((gI_sW).trans ((gI_sI_ne (by decide)).trans ((gI_sW).trans ((gI_sI_ne (by decide)).trans ((hF730.1 176 2 mf_X5_step_176_176_2).trans ((hF693.1 176 2 mf_X5_isWord_176_176_2).trans ((hF684.1 176 2 mf_X5_isWord_176_176_2).trans (hF675.1 176 2 mf_X5_isWord_176_176_2))))))))))).trans hv754))
              have x818 := rX.e hI793 (b := 4) (hv801)
              obtain ⟨o813, o814, o815, o816⟩ := hr809
              have o819 := OPD.tc o815 (((hF794.2.1 175 ma_X5_step_176_175).trans ((hF771.2.1 175 ma_X5_isWord_176_175).trans ((gA_sA_ne (by decide)).trans ((gA_sA_ne (by decide)).trans ((gA_sI).trans ((gA_sA_ne (by decide)).trans ((gA_sI).trans ((hF730.2.1 175 ma_X5_step_176_175).trans ((hF693.2.1 175 ma_X5_isWord_176_175).trans ((hF684.2.1 175 ma_X5_isWord_176_175).trans (hF675.2.1 175 ma_X5_isWord_176_175)))))))))))) (((hF794.1 174 1 mf_X5_step_176_174_1).trans ((hF771.1 174 1 mf_X5_isWord_176_174_1).trans ((gI_sW).trans ((gI_sW).trans ((gI_sI_ne (by decide)).trans ((gI_sW).trans ((gI_sI_ne (by decide)).trans ((hF730.1 174 1 mf_X5_step_176_174_1).trans ((hF693.1 174 1 mf_X5_isWord_176_174_1).trans ((hF684.1 174 1 mf_X5_isWord_176_174_1).trans (hF675.1 174 1 mf_X5_isWord_176_174_1))))))))))))
              obtain ⟨v820, hv820⟩ : ∃ v, gI g805 176 2 = v := ⟨_, rfl⟩
              have tv820 := congrArg Int32.toInt hv820
              have x821 := rX.e hI806 (b := 2) (hv820)
              obtain ⟨v822, hv822⟩ : ∃ v, gI g805 176 4 = v := ⟨_, rfl⟩
              have rv822 := RgF.at hI806.2.1 (p := 176) (b := 4) rfl
              rw [hv822] at rv822
              dsimp only at rv822
              have tv822 := congrArg Int32.toInt hv822
              have x823 := rX.e hI806 (b := 4) (hv822)
              refine At.enter rfl ?_
              refine r_aload_n rfl ?_
              refine q_getR (Sh.ref hI806.1 kx_176 rfl) ?_
              refine q_getR (Sh.ref hI806.1 kx_177 rfl) ?_
              refine r_iload_n rfl ?_
              refine r_aload_n rfl ?_
              refine q_getR (Sh.ref hI806.1 kx_176 rfl) ?_
              obtain ⟨v824, hv824⟩ : ∃ v, gI g805 177 0 = v := ⟨_, rfl⟩
              have rv824 := RgF.at hI806.2.1 (p := 177) (b := 0) rfl
              rw [hv824] at rv824
              dsimp only at rv824
              refine q_getI (Sh.int hI806.1 kx_177 rfl) v824 hv824 ?_
              refine q_iast (Sh.arr hI806.1 ka_183) (v726.toInt) rfl (by omega) ?_
              have hI825 := HI.wA0 hI806 ka_183 (p := 183) rfl rfl (v726.toInt) (v824)
              have hF826 := Fr.wA (p := 183) (j := v726.toInt) (v := v824) hF810 rfl
              refine r_vret ?_
              have x827 := rX.e hI825 (b := 2) (((gI_sW).trans hv820))
              have x828 := rX.e hI0 (b := 2) (hv754)
              have x829 := rX.e hI825 (b := 4) (((gI_sW).trans hv822))
              have x830 := rX.e hI0 (b := 4) (hv736)
              obtain ⟨v831, hv831⟩ : ∃ v, gI g805 176 6 = v := ⟨_, rfl⟩
              have tv831 := congrArg Int32.toInt hv831
              have x832 := rX.e hI825 (b := 6) (((gI_sW).trans hv831))
              obtain ⟨v833, hv833⟩ : ∃ v, gI g0 176 6 = v := ⟨_, rfl⟩
              have tv833 := congrArg Int32.toInt hv833
              have x834 := rX.e hI0 (b := 6) (hv833)
              have x835 := rX.e hI729 (b := 2) ((((hF730.1 176 2 mf_X5_step_176_176_2).trans ((hF693.1 176 2 mf_X5_isWord_176_176_2).trans ((hF684.1 176 2 mf_X5_isWord_176_176_2).trans (hF675.1 176 2 mf_X5_isWord_176_176_2)))).trans hv754))
              have x836 := rX.e hI729 (b := 4) (hv738)
              have x837 := rX.e hI793 (b := 2) ((((hF794.1 176 2 mf_X5_step_176_176_2).trans ((hF771.1 176 2 mf_X5_isWord_176_176_2).trans ((gI_sW).trans ((gI_sW).trans ((gI_sI_ne (by decide)).trans ((gI_sW).trans ((gI_sI_ne (by decide)).trans ((hF730.1 176 2 mf_X5_step_176_176_2).trans ((hF693.1 176 2 mf_X5_isWord_176_176_2).trans ((hF684.1 176 2 mf_X5_isWord_176_176_2).trans (hF675.1 176 2 mf_X5_isWord_176_176_2))))))))))).trans hv754))
              have x838 := rX.e hI793 (b := 4) (hv801)
              have x839 := rX.e hI806 (b := 2) (hv820)
              have x840 := rX.e hI806 (b := 4) (hv822)
              have x841 := kX.e hI0 (hv726)
              have x842 := kX.e hI825 (((gI_sW).trans ((hF807.1 177 3 (by decide)).trans ((hF794.1 177 3 mf_X5_step_176_177_3).trans ((hF771.1 177 3 mf_X5_isWord_176_177_3).trans ((gI_sW).trans ((gI_sW).trans ((gI_sI_ne (by decide)).trans ((gI_sW).trans (gI_sI_eq hI729.1 kx_177 rfl _))))))))))
              exact ⟨_, rfl, hI825, hF826, rfl, ⟨(TKX.c o813 ((gA_sA_ne (by decide))) ((gI_sW)) ((gI_sW)) ((gI_sW)) ((gI_sW))), ((PRG0.tr ((PRG0.tr ((PRG0.tr (PRG0.step hT tok734_ (rX.c (b := 2) (((hF730.1 176 2 mf_X5_step_176_176_2).trans ((hF693.1 176 2 mf_X5_isWord_176_176_2).trans ((hF684.1 176 2 mf_X5_isWord_176_176_2).trans (hF675.1 176 2 mf_X5_isWord_176_176_2)))))) (by omega)) (PRG0.step hT735 tok798_ (rX.c (b := 2) (((hF794.1 176 2 mf_X5_step_176_176_2).trans ((hF771.1 176 2 mf_X5_isWord_176_176_2).trans ((gI_sW).trans ((gI_sW).trans ((gI_sI_ne (by decide)).trans ((gI_sW).trans (gI_sI_ne (by decide)))))))))) (by omega)))) (o814))) (PRG0.eq (rX.c (b := 4) ((gI_sW))) (rX.c (b := 2) ((gI_sW)))))).le (by omega), fun c0 h => by have h1 : CST (TX g0) (nX g0) c0 g728 7 [] (kX g0 + 1) := CLX.head h (fun _ => S.clsB tok734 (by omega) (by omega) rfl) (rX.c (b := 2) (((hF730.1 176 2 mf_X5_step_176_176_2).trans ((hF693.1 176 2 mf_X5_isWord_176_176_2).trans ((hF684.1 176 2 mf_X5_isWord_176_176_2).trans (hF675.1 176 2 mf_X5_isWord_176_176_2)))))) (rX.c (b := 6) (((hF730.1 176 6 mf_X5_step_176_176_6).trans ((hF693.1 176 6 mf_X5_isWord_176_176_6).trans ((hF684.1 176 6 mf_X5_isWord_176_176_6).trans (hF675.1 176 6 mf_X5_isWord_176_176_6)))))); have h4 := CLX.head h1 (fun _ => S.if_ tok798 (by omega)) (rX.c (b := 2) (((hF794.1 176 2 mf_X5_step_176_176_2).trans ((hF771.1 176 2 mf_X5_isWord_176_176_2).trans ((gI_sW).trans ((gI_sW).trans ((gI_sI_ne (by decide)).trans ((gI_sW).trans (gI_sI_ne (by decide)))))))))) (rX.c (b := 6) (((hF794.1 176 6 mf_X5_step_176_176_6).trans ((hF771.1 176 6 mf_X5_isWord_176_176_6).trans ((gI_sW).trans ((gI_sW).trans ((gI_sI_ne (by decide)).trans ((gI_sW).trans (gI_sI_ne (by decide)))))))))); have h6 := CLX.test o819 h4 (TKX.someC o813 (((hF807.2.1 175 (by decide)).trans ((hF794.2.1 175 ma_X5_step_176_175).trans ((hF771.2.1 175 ma_X5_isWord_176_175).trans ((gA_sA_ne (by decide)).trans ((gA_sA_ne (by decide)).trans ((gA_sI).trans ((gA_sA_ne (by decide)).trans ((gA_sI).trans ((hF730.2.1 175 ma_X5_step_176_175).trans ((hF693.2.1 175 ma_X5_isWord_176_175).trans ((hF684.2.1 175 ma_X5_isWord_176_175).trans (hF675.2.1 175 ma_X5_isWord_176_175))))))))))))) (((hF807.1 174 1 (by decide)).trans ((hF794.1 174 1 mf_X5_step_176_174_1).trans ((hF771.1 174 1 mf_X5_isWord_176_174_1).trans ((gI_sW).trans ((gI_sW).trans ((gI_sI_ne (by decide)).trans ((gI_sW).trans ((gI_sI_ne (by decide)).trans ((hF730.1 174 1 mf_X5_step_176_174_1).trans ((hF693.1 174 1 mf_X5_isWord_176_174_1).trans ((hF684.1 174 1 mf_X5_isWord_176_174_1).trans (hF675.1 174 1 mf_X5_isWord_176_174_1)))))))))))))).choose_spec o816; rw [x842]; rw [show (kX g0 + 1 : Int) = v740.toInt from by omega] at h6; exact h6.eq (rX.c (b := 2) ((gI_sW))) (rX.c (b := 4) ((gI_sW))) (rX.c (b := 6) ((gI_sW)))⟩⟩
        · have c727_ : v726.toInt ≥ 12 := en_i_lt_f c727
          refine At.enter rfl ?_
          refine r_aload_n rfl ?_
          refine q_inlV 64 rfl [.ref 176] [] (Nat.le_of_ble_eq_true rfl) rfl ?_
          refine Ev.mk rfl rfl ⟨Nat.le_of_ble_eq_true rfl, Or.inr (q_rc hI692.1 kx_176 rfl)⟩ ?_
          show At _ none _ _ (0, [(0, .ref 176)], [], (_, _)) _
          refine At.enter rfl ?_
          refine r_aload_n rfl ?_
          obtain ⟨v843, hv843⟩ : ∃ v, gI g0 176 2 = v := ⟨_, rfl⟩
          refine q_getI (Sh.int hI692.1 kx_176 rfl) v843 (((hF693.1 176 2 mf_X5_isWord_176_176_2).trans ((hF684.1 176 2 mf_X5_isWord_176_176_2).trans (hF675.1 176 2 mf_X5_isWord_176_176_2))).trans hv843) ?_
          refine r_iconst (-1) rfl ?_
          refine r_ics 8 rfl (fun c844 => ?_) (fun c844 => ?_)
          · have c844_ : v843.toInt ≠ (-1) := en_i_ne_t c844
            refine At.enter rfl ?_
            refine q_vret ?_
            refine At.enter rfl ?_
            refine r_vret ?_
            have x845 := rX.e hI692 (b := 2) ((((hF693.1 176 2 mf_X5_isWord_176_176_2).trans ((hF684.1 176 2 mf_X5_isWord_176_176_2).trans (hF675.1 176 2 mf_X5_isWord_176_176_2))).trans hv843))
            have x846 := rX.e hI0 (b := 2) (hv843)
            obtain ⟨v847, hv847⟩ : ∃ v, gI g0 176 4 = v := ⟨_, rfl⟩
            have rv847 := RgF.at hI0.2.1 (p := 176) (b := 4) rfl
            rw [hv847] at rv847
            dsimp only at rv847
            have tv847 := congrArg Int32.toInt hv847
            have x848 := rX.e hI692 (b := 4) ((((hF693.1 176 4 mf_X5_isWord_176_176_4).trans ((hF684.1 176 4 mf_X5_isWord_176_176_4).trans (hF675.1 176 4 mf_X5_isWord_176_176_4))).trans hv847))
            have x849 := rX.e hI0 (b := 4) (hv847)
            obtain ⟨v850, hv850⟩ : ∃ v, gI g0 176 6 = v := ⟨_, rfl⟩
            have tv850 := congrArg Int32.toInt hv850
            have x851 := rX.e hI692 (b := 6) ((((hF693.1 176 6 mf_X5_isWord_176_176_6).trans ((hF684.1 176 6 mf_X5_isWord_176_176_6).trans (hF675.1 176 6 mf_X5_isWord_176_176_6))).trans hv850))
            have x852 := rX.e hI0 (b := 6) (hv850)
            have x853 := kX.e hI0 (hv726)
            have x854 := kX.e hI692 ((((hF693.1 177 3 mf_X5_isWord_176_177_3).trans ((hF684.1 177 3 mf_X5_isWord_176_177_3).trans (hF675.1 177 3 mf_X5_isWord_176_177_3))).trans hv726))
            exact ⟨_, rfl, hI692, hF696, rfl, ⟨(TKX.c hT (((hF693.2.1 175 ma_X5_isWord_176_175).trans ((hF684.2.1 175 ma_X5_isWord_176_175).trans (hF675.2.1 175 ma_X5_isWord_176_175)))) (((hF693.1 174 1 mf_X5_isWord_176_174_1).trans ((hF684.1 174 1 mf_X5_isWord_176_174_1).trans (hF675.1 174 1 mf_X5_isWord_176_174_1)))) (((hF693.1 176 3 mf_X5_isWord_176_176_3).trans ((hF684.1 176 3 mf_X5_isWord_176_176_3).trans (hF675.1 176 3 mf_X5_isWord_176_176_3)))) (((hF693.1 176 4 mf_X5_isWord_176_176_4).trans ((hF684.1 176 4 mf_X5_isWord_176_176_4).trans (hF675.1 176 4 mf_X5_isWord_176_176_4)))) (((hF693.1 176 5 mf_X5_isWord_176_176_5).trans ((hF684.1 176 5 mf_X5_isWord_176_176_5).trans (hF675.1 176 5 mf_X5_isWord_176_176_5))))), (PRG0.fail 1 (rX.c (b := 4) (((hF693.1 176 4 mf_X5_isWord_176_176_4).trans ((hF684.1 176 4 mf_X5_isWord_176_176_4).trans (hF675.1 176 4 mf_X5_isWord_176_176_4))))) (fun _ => by omega) (fun _ => by omega) (by omega)).le (by omega), fun c0 h => h.fail (fun _ => S.clsF (TKX.some hT).choose_spec (by omega)) (fun _ => by omega) (fun _ => by omega) (by omega)⟩⟩
          · have c844_ : v843.toInt = (-1) := en_i_ne_f c844
            refine At.enter rfl ?_
            refine r_aload_n rfl ?_
            refine r_aload_n rfl ?_
            obtain ⟨v855, hv855⟩ : ∃ v, gI g0 176 4 = v := ⟨_, rfl⟩
            have rv855 := RgF.at hI0.2.1 (p := 176) (b := 4) rfl
            rw [hv855] at rv855
            dsimp only at rv855
            refine q_getI (Sh.int hI692.1 kx_176 rfl) v855 (((hF693.1 176 4 mf_X5_isWord_176_176_4).trans ((hF684.1 176 4 mf_X5_isWord_176_176_4).trans (hF675.1 176 4 mf_X5_isWord_176_176_4))).trans hv855) ?_
            refine q_putI (Sh.int hI692.1 kx_176 rfl) rfl ?_
            have hI856 := HI.wI0 hI692 kx_176 rfl (p := 176) (b := 2) (v := v855) rfl
            have hF857 := Fr.wI (p := 176) (b := 2) (v := v855) hF696 rfl
            refine Ar.fall 16 rfl ?_
            refine At.enter rfl ?_
            refine q_vret ?_
            refine At.enter rfl ?_
            refine r_vret ?_
            have x858 := rX.e hI856 (b := 2) ((gI_sI_eq hI692.1 kx_176 rfl _))
            have x859 := rX.e hI0 (b := 2) (hv843)
            have x860 := rX.e hI856 (b := 4) ((((gI_sI_ne (by decide)).trans ((hF693.1 176 4 mf_X5_isWord_176_176_4).trans ((hF684.1 176 4 mf_X5_isWord_176_176_4).trans (hF675.1 176 4 mf_X5_isWord_176_176_4)))).trans hv855))
            have x861 := rX.e hI0 (b := 4) (hv855)
            obtain ⟨v862, hv862⟩ : ∃ v, gI g0 176 6 = v := ⟨_, rfl⟩
            have tv862 := congrArg Int32.toInt hv862
            have x863 := rX.e hI856 (b := 6) ((((gI_sI_ne (by decide)).trans ((hF693.1 176 6 mf_X5_isWord_176_176_6).trans ((hF684.1 176 6 mf_X5_isWord_176_176_6).trans (hF675.1 176 6 mf_X5_isWord_176_176_6)))).trans hv862))
            have x864 := rX.e hI0 (b := 6) (hv862)
            have x865 := kX.e hI0 (hv726)
            have x866 := kX.e hI856 ((((gI_sI_ne (by decide)).trans ((hF693.1 177 3 mf_X5_isWord_176_177_3).trans ((hF684.1 177 3 mf_X5_isWord_176_177_3).trans (hF675.1 177 3 mf_X5_isWord_176_177_3)))).trans hv726))
            exact ⟨_, rfl, hI856, hF857, rfl, ⟨(TKX.c hT (((gA_sI).trans ((hF693.2.1 175 ma_X5_isWord_176_175).trans ((hF684.2.1 175 ma_X5_isWord_176_175).trans (hF675.2.1 175 ma_X5_isWord_176_175))))) (((gI_sI_ne (by decide)).trans ((hF693.1 174 1 mf_X5_isWord_176_174_1).trans ((hF684.1 174 1 mf_X5_isWord_176_174_1).trans (hF675.1 174 1 mf_X5_isWord_176_174_1))))) (((gI_sI_ne (by decide)).trans ((hF693.1 176 3 mf_X5_isWord_176_176_3).trans ((hF684.1 176 3 mf_X5_isWord_176_176_3).trans (hF675.1 176 3 mf_X5_isWord_176_176_3))))) (((gI_sI_ne (by decide)).trans ((hF693.1 176 4 mf_X5_isWord_176_176_4).trans ((hF684.1 176 4 mf_X5_isWord_176_176_4).trans (hF675.1 176 4 mf_X5_isWord_176_176_4))))) (((gI_sI_ne (by decide)).trans ((hF693.1 176 5 mf_X5_isWord_176_176_5).trans ((hF684.1 176 5 mf_X5_isWord_176_176_5).trans (hF675.1 176 5 mf_X5_isWord_176_176_5)))))), (PRG0.fail 1 (rX.c (b := 4) (((gI_sI_ne (by decide)).trans ((hF693.1 176 4 mf_X5_isWord_176_176_4).trans ((hF684.1 176 4 mf_X5_isWord_176_176_4).trans (hF675.1 176 4 mf_X5_isWord_176_176_4)))))) (fun _ => by omega) (fun _ => by omega) (by omega)).le (by omega), fun c0 h => h.fail (fun _ => S.clsF (TKX.some hT).choose_spec (by omega)) (fun _ => by omega) (fun _ => by omega) (by omega)⟩⟩
    · have c689_ : v685.toInt ≠ 0 := en_k_eq_f c689
      have i867 := BL.yes hb688 (by omega)
      refine At.enter rfl ?_
      refine r_iconst 1 rfl ?_
      refine r_goto ?_
      refine At.enter rfl ?_
      refine r_istore_n ([(1, .int 1), (0, .ref 176)]) rfl ?_
      refine r_aload_n rfl ?_
      refine q_getR (Sh.ref hI683.1 kx_176 rfl) ?_
      obtain ⟨v868, hv868⟩ : ∃ v, gI g0 177 3 = v := ⟨_, rfl⟩
      have rv868 := RgF.at hI0.2.1 (p := 177) (b := 3) rfl
      rw [hv868] at rv868
      dsimp only at rv868
      refine q_getI (Sh.int hI683.1 kx_177 rfl) v868 (((hF684.1 177 3 mf_X5_isWord_176_177_3).trans (hF675.1 177 3 mf_X5_isWord_176_177_3)).trans hv868) ?_
      refine r_istore_n ([(2, .int v868), (1, .int 1), (0, .ref 176)]) rfl ?_
      refine r_iload_n rfl ?_
      refine r_iconst (-1) rfl ?_
      refine r_icf 54 rfl (by decide) ?_
      refine At.enter rfl ?_
      refine r_iload_n rfl ?_
      refine r_bipush 12 rfl ?_
      refine r_ics 60 rfl (fun c869 => ?_) (fun c869 => ?_)
      · have c869_ : v868.toInt < 12 := en_i_lt_t c869
        refine At.enter rfl ?_
        refine r_aload_n rfl ?_
        refine r_callV 69 rfl [.ref 176] [] (Nat.le_of_ble_eq_true rfl) rfl (T_X5_step_176 _ hI683 (TKX.c hT (((hF684.2.1 175 ma_X5_isWord_176_175).trans (hF675.2.1 175 ma_X5_isWord_176_175))) (((hF684.1 174 1 mf_X5_isWord_176_174_1).trans (hF675.1 174 1 mf_X5_isWord_176_174_1))) (((hF684.1 176 3 mf_X5_isWord_176_176_3).trans (hF675.1 176 3 mf_X5_isWord_176_176_3))) (((hF684.1 176 4 mf_X5_isWord_176_176_4).trans (hF675.1 176 4 mf_X5_isWord_176_176_4))) (((hF684.1 176 5 mf_X5_isWord_176_176_5).trans (hF675.1 176 5 mf_X5_isWord_176_176_5)))).1 (TKX.c hT (((hF684.2.1 175 ma_X5_isWord_176_175).trans (hF675.2.1 175 ma_X5_isWord_176_175))) (((hF684.1 174 1 mf_X5_isWord_176_174_1).trans (hF675.1 174 1 mf_X5_isWord_176_174_1))) (((hF684.1 176 3 mf_X5_isWord_176_176_3).trans (hF675.1 176 3 mf_X5_isWord_176_176_3))) (((hF684.1 176 4 mf_X5_isWord_176_176_4).trans (hF675.1 176 4 mf_X5_isWord_176_176_4))) (((hF684.1 176 5 mf_X5_isWord_176_176_5).trans (hF675.1 176 5 mf_X5_isWord_176_176_5)))).2.1.le.2.1) ?_
        rintro _ _ ⟨g870, rfl, hI871, hF872, rfl, hr874⟩
        refine At.stn ?_
        have hF875 := Fr.tr hF687 hF872 rfl rfl
        have tok876_ := hr874.2
        rw [TX.c (((hF684.2.1 175 ma_X5_isWord_176_175).trans (hF675.2.1 175 ma_X5_isWord_176_175))), nX.c (((hF684.1 174 1 mf_X5_isWord_176_174_1).trans (hF675.1 174 1 mf_X5_isWord_176_174_1))), rX.c (b := 5) (((hF684.1 176 5 mf_X5_isWord_176_176_5).trans (hF675.1 176 5 mf_X5_isWord_176_176_5)))] at tok876_
        have tok876 := TKX.tok hT tok876_
        have hT877 := hr874.1
        obtain ⟨v878, hv878⟩ : ∃ v, gI g0 176 4 = v := ⟨_, rfl⟩
        have rv878 := RgF.at hI0.2.1 (p := 176) (b := 4) rfl
        rw [hv878] at rv878
        dsimp only at rv878
        have tv878 := congrArg Int32.toInt hv878
        have x879 := rX.e hI683 (b := 4) ((((hF684.1 176 4 mf_X5_isWord_176_176_4).trans (hF675.1 176 4 mf_X5_isWord_176_176_4)).trans hv878))
        obtain ⟨v880, hv880⟩ : ∃ v, gI g870 176 4 = v := ⟨_, rfl⟩
        have rv880 := RgF.at hI871.2.1 (p := 176) (b := 4) rfl
        rw [hv880] at rv880
        dsimp only at rv880
        have tv880 := congrArg Int32.toInt hv880
        have x881 := rX.e hI871 (b := 4) (hv880)
        refine At.enter rfl ?_
        refine r_aload_n rfl ?_
        refine q_getR (Sh.ref hI871.1 kx_176 rfl) ?_
        refine r_iload_n rfl ?_
        refine r_iconst 1 rfl ?_
        refine q_iadd (v868.toInt + 1) rfl (by omega) (fun v882 hv882 => ?_)
        refine q_putI (Sh.int hI871.1 kx_177 rfl) rfl ?_
        have hI883 := HI.wI1 hI871 kx_177 rfl (p := 177) (b := 3) (v := v882) rfl (by dsimp only; omega)
        have hF884 := Fr.wI (p := 177) (b := 3) (v := v882) hF875 rfl
        refine r_aload_n rfl ?_
        refine q_getR (Sh.ref hI883.1 kx_176 rfl) ?_
        refine q_getR (Sh.ref hI883.1 kx_177 rfl) ?_
        refine r_iload_n rfl ?_
        refine r_iload_n rfl ?_
        refine q_iast (Sh.arr hI883.1 ka_180) (v868.toInt) rfl (by omega) ?_
        have hI885 := HI.wA0 hI883 ka_180 (p := 180) rfl rfl (v868.toInt) (1)
        have hF886 := Fr.wA (p := 180) (j := v868.toInt) (v := 1) hF884 rfl
        refine r_aload_n rfl ?_
        refine q_getR (Sh.ref hI885.1 kx_176 rfl) ?_
        refine r_dup rfl ?_
        obtain ⟨v887, hv887⟩ : ∃ v, gI g0 177 4 = v := ⟨_, rfl⟩
        refine q_getI (Sh.int hI885.1 kx_177 rfl) v887 (((gI_sW).trans ((gI_sI_ne (by decide)).trans ((hF872.1 177 4 mf_X5_step_176_177_4).trans ((hF684.1 177 4 mf_X5_isWord_176_177_4).trans (hF675.1 177 4 mf_X5_isWord_176_177_4))))).trans hv887) ?_
        refine r_iconst 1 rfl ?_
        refine r_iload_n rfl ?_
        refine r_ishl 2 (by decide) ?_
        refine q_iorO (fun v888 hv888 => ?_)
        refine q_putI (Sh.int hI885.1 kx_177 rfl) rfl ?_
        have hI889 := HI.wI0 hI885 kx_177 rfl (p := 177) (b := 4) (v := v888) rfl
        have hF890 := Fr.wI (p := 177) (b := 4) (v := v888) hF886 rfl
        refine r_aload_n rfl ?_
        refine q_getR (Sh.ref hI889.1 kx_176 rfl) ?_
        refine q_getR (Sh.ref hI889.1 kx_177 rfl) ?_
        refine r_iload_n rfl ?_
        refine r_aload_n rfl ?_
        refine q_getR (Sh.ref hI889.1 kx_176 rfl) ?_
        obtain ⟨v891, hv891⟩ : ∃ v, gI g0 177 0 = v := ⟨_, rfl⟩
        have rv891 := RgF.at hI0.2.1 (p := 177) (b := 0) rfl
        rw [hv891] at rv891
        dsimp only at rv891
        refine q_getI (Sh.int hI889.1 kx_177 rfl) v891 (((gI_sI_ne (by decide)).trans ((gI_sW).trans ((gI_sI_ne (by decide)).trans ((hF872.1 177 0 mf_X5_step_176_177_0).trans ((hF684.1 177 0 mf_X5_isWord_176_177_0).trans (hF675.1 177 0 mf_X5_isWord_176_177_0)))))).trans hv891) ?_
        refine q_iast (Sh.arr hI889.1 ka_181) (v868.toInt) rfl (by omega) ?_
        have hI892 := HI.wA0 hI889 ka_181 (p := 181) rfl rfl (v868.toInt) (v891)
        have hF893 := Fr.wA (p := 181) (j := v868.toInt) (v := v891) hF890 rfl
        refine r_iload_n rfl ?_
        refine r_iconst 2 rfl ?_
        refine r_icf 125 rfl (by decide) ?_
        refine At.enter rfl ?_
        refine r_aload_n rfl ?_
        refine r_iconst 2 rfl ?_
        refine r_iconst 0 rfl ?_
        have zv894 : (2 : Int32).toInt = 2 := rfl
        have zv895 : (0 : Int32).toInt = 0 := rfl
        refine r_callV 131 rfl [.ref 176, .int 2, .int 0] [] (Nat.le_of_ble_eq_true rfl) rfl (T_X5_readJoined_176 _ hI892 2 (by decide) 0 (by decide) (TKX.c hT877 (((gA_sA_ne (by decide)).trans ((gA_sI).trans ((gA_sA_ne (by decide)).trans (gA_sI))))) (((gI_sW).trans ((gI_sI_ne (by decide)).trans ((gI_sW).trans (gI_sI_ne (by decide)))))) (((gI_sW).trans ((gI_sI_ne (by decide)).trans ((gI_sW).trans (gI_sI_ne (by decide)))))) (((gI_sW).trans ((gI_sI_ne (by decide)).trans ((gI_sW).trans (gI_sI_ne (by decide)))))) (((gI_sW).trans ((gI_sI_ne (by decide)).trans ((gI_sW).trans (gI_sI_ne (by decide)))))))) ?_
        rintro _ _ ⟨g896, rfl, hI897, hF898, rfl, hr900⟩
        refine At.stn ?_
        have hF901 := Fr.tr hF893 hF898 rfl rfl
        have zv902 : (2 : Int32).toInt = 2 := rfl
        have zv903 : (0 : Int32).toInt = 0 := rfl
        obtain ⟨v908, hv908⟩ : ∃ v, gI g0 176 2 = v := ⟨_, rfl⟩
        have tv908 := congrArg Int32.toInt hv908
        have x909 := rX.e hI892 (b := 2) ((((gI_sW).trans ((gI_sI_ne (by decide)).trans ((gI_sW).trans ((gI_sI_ne (by decide)).trans ((hF872.1 176 2 mf_X5_step_176_176_2).trans ((hF684.1 176 2 mf_X5_isWord_176_176_2).trans (hF675.1 176 2 mf_X5_isWord_176_176_2))))))).trans hv908))
        have x910 := rX.e hI892 (b := 4) ((((gI_sW).trans ((gI_sI_ne (by decide)).trans ((gI_sW).trans (gI_sI_ne (by decide))))).trans hv880))
        obtain ⟨o904, o905, o906, o907⟩ := hr900
        have o911 := OPD.tc o906 (((gA_sA_ne (by decide)).trans ((gA_sI).trans ((gA_sA_ne (by decide)).trans ((gA_sI).trans ((hF872.2.1 175 ma_X5_step_176_175).trans ((hF684.2.1 175 ma_X5_isWord_176_175).trans (hF675.2.1 175 ma_X5_isWord_176_175)))))))) (((gI_sW).trans ((gI_sI_ne (by decide)).trans ((gI_sW).trans ((gI_sI_ne (by decide)).trans ((hF872.1 174 1 mf_X5_step_176_174_1).trans ((hF684.1 174 1 mf_X5_isWord_176_174_1).trans (hF675.1 174 1 mf_X5_isWord_176_174_1))))))))
        have o912 := PRG0.fr o905 (rX.c (b := 2) (((gI_sW).trans ((gI_sI_ne (by decide)).trans ((gI_sW).trans (gI_sI_ne (by decide))))))) (rX.c (b := 4) (((gI_sW).trans ((gI_sI_ne (by decide)).trans ((gI_sW).trans (gI_sI_ne (by decide)))))))
        have o913 := OPD.fr o911 (rX.c (b := 2) (((gI_sW).trans ((gI_sI_ne (by decide)).trans ((gI_sW).trans (gI_sI_ne (by decide))))))) (rX.c (b := 4) (((gI_sW).trans ((gI_sI_ne (by decide)).trans ((gI_sW).trans (gI_sI_ne (by decide))))))) (rX.c (b := 6) (((gI_sW).trans ((gI_sI_ne (by decide)).trans ((gI_sW).trans (gI_sI_ne (by decide)))))))
        obtain ⟨v914, hv914⟩ : ∃ v, gI g896 176 2 = v := ⟨_, rfl⟩
        have tv914 := congrArg Int32.toInt hv914
        have x915 := rX.e hI897 (b := 2) (hv914)
        obtain ⟨v916, hv916⟩ : ∃ v, gI g896 176 4 = v := ⟨_, rfl⟩
        have rv916 := RgF.at hI897.2.1 (p := 176) (b := 4) rfl
        rw [hv916] at rv916
        dsimp only at rv916
        have tv916 := congrArg Int32.toInt hv916
        have x917 := rX.e hI897 (b := 4) (hv916)
        refine At.enter rfl ?_
        refine r_aload_n rfl ?_
        refine q_getR (Sh.ref hI897.1 kx_176 rfl) ?_
        refine q_getR (Sh.ref hI897.1 kx_177 rfl) ?_
        refine r_iload_n rfl ?_
        refine r_aload_n rfl ?_
        refine q_getR (Sh.ref hI897.1 kx_176 rfl) ?_
        obtain ⟨v918, hv918⟩ : ∃ v, gI g896 177 0 = v := ⟨_, rfl⟩
        have rv918 := RgF.at hI897.2.1 (p := 177) (b := 0) rfl
        rw [hv918] at rv918
        dsimp only at rv918
        refine q_getI (Sh.int hI897.1 kx_177 rfl) v918 hv918 ?_
        refine q_iast (Sh.arr hI897.1 ka_182) (v868.toInt) rfl (by omega) ?_
        have hI919 := HI.wA0 hI897 ka_182 (p := 182) rfl rfl (v868.toInt) (v918)
        have hF920 := Fr.wA (p := 182) (j := v868.toInt) (v := v918) hF901 rfl
        refine r_aload_n rfl ?_
        refine q_getI (Sh.int hI919.1 kx_176 rfl) v914 ((gI_sW).trans hv914) ?_
        refine r_iconst (-1) rfl ?_
        refine r_ics 155 rfl (fun c921 => ?_) (fun c921 => ?_)
        · have c921_ : v914.toInt ≠ (-1) := en_i_ne_t c921
          refine At.enter rfl ?_
          refine r_aload_n rfl ?_
          refine q_getR (Sh.ref hI919.1 kx_176 rfl) ?_
          refine q_getR (Sh.ref hI919.1 kx_177 rfl) ?_
          refine r_iload_n rfl ?_
          refine r_aload_n rfl ?_
          refine q_getR (Sh.ref hI919.1 kx_176 rfl) ?_
          refine q_getI (Sh.int hI919.1 kx_177 rfl) v918 ((gI_sW).trans hv918) ?_
          refine q_iast (Sh.arr hI919.1 ka_183) (v868.toInt) rfl (by omega) ?_
          have hI922 := HI.wA0 hI919 ka_183 (p := 183) rfl rfl (v868.toInt) (v918)
          have hF923 := Fr.wA (p := 183) (j := v868.toInt) (v := v918) hF920 rfl
          refine r_vret ?_
          have x924 := rX.e hI922 (b := 2) ((((gI_sW).trans (gI_sW)).trans hv914))
          have x925 := rX.e hI0 (b := 2) (hv908)
          have x926 := rX.e hI922 (b := 4) ((((gI_sW).trans (gI_sW)).trans hv916))
          have x927 := rX.e hI0 (b := 4) (hv878)
          obtain ⟨v928, hv928⟩ : ∃ v, gI g896 176 6 = v := ⟨_, rfl⟩
          have tv928 := congrArg Int32.toInt hv928
          have x929 := rX.e hI922 (b := 6) ((((gI_sW).trans (gI_sW)).trans hv928))
          obtain ⟨v930, hv930⟩ : ∃ v, gI g0 176 6 = v := ⟨_, rfl⟩
          have tv930 := congrArg Int32.toInt hv930
          have x931 := rX.e hI0 (b := 6) (hv930)
          have x932 := rX.e hI871 (b := 2) ((((hF872.1 176 2 mf_X5_step_176_176_2).trans ((hF684.1 176 2 mf_X5_isWord_176_176_2).trans (hF675.1 176 2 mf_X5_isWord_176_176_2))).trans hv908))
          have x933 := rX.e hI871 (b := 4) (hv880)
          have x934 := rX.e hI897 (b := 2) (hv914)
          have x935 := rX.e hI897 (b := 4) (hv916)
          have x936 := kX.e hI0 (hv868)
          have x937 := kX.e hI922 (((gI_sW).trans ((gI_sW).trans ((hF898.1 177 3 (by decide)).trans ((gI_sW).trans ((gI_sI_ne (by decide)).trans ((gI_sW).trans (gI_sI_eq hI871.1 kx_177 rfl _))))))))
          exact ⟨_, rfl, hI922, hF923, rfl, ⟨(TKX.c o904 (((gA_sA_ne (by decide)).trans (gA_sA_ne (by decide)))) (((gI_sW).trans (gI_sW))) (((gI_sW).trans (gI_sW))) (((gI_sW).trans (gI_sW))) (((gI_sW).trans (gI_sW)))), ((PRG0.tr ((PRG0.tr (PRG0.step hT tok876_ (rX.c (b := 2) (((hF872.1 176 2 mf_X5_step_176_176_2).trans ((hF684.1 176 2 mf_X5_isWord_176_176_2).trans (hF675.1 176 2 mf_X5_isWord_176_176_2))))) (by omega)) (o912))) (PRG0.eq (rX.c (b := 4) (((gI_sW).trans (gI_sW)))) (rX.c (b := 2) (((gI_sW).trans (gI_sW))))))).le (by omega), fun c0 h => by have h1 : CST (TX g0) (nX g0) c0 g870 1 [3] (kX g0 + 1) := CLX.head h (fun _ => S.cls tok876 (by omega) (by omega) rfl) (rX.c (b := 2) (((hF872.1 176 2 mf_X5_step_176_176_2).trans ((hF684.1 176 2 mf_X5_isWord_176_176_2).trans (hF675.1 176 2 mf_X5_isWord_176_176_2))))) (rX.c (b := 6) (((hF872.1 176 6 mf_X5_step_176_176_6).trans ((hF684.1 176 6 mf_X5_isWord_176_176_6).trans (hF675.1 176 6 mf_X5_isWord_176_176_6))))); have h3 := CLX.sum o913 h1 (TKX.someC o904 (((hF898.2.1 175 (by decide)).trans ((gA_sA_ne (by decide)).trans ((gA_sI).trans ((gA_sA_ne (by decide)).trans ((gA_sI).trans ((hF872.2.1 175 ma_X5_step_176_175).trans ((hF684.2.1 175 ma_X5_isWord_176_175).trans (hF675.2.1 175 ma_X5_isWord_176_175))))))))) (((hF898.1 174 1 (by decide)).trans ((gI_sW).trans ((gI_sI_ne (by decide)).trans ((gI_sW).trans ((gI_sI_ne (by decide)).trans ((hF872.1 174 1 mf_X5_step_176_174_1).trans ((hF684.1 174 1 mf_X5_isWord_176_174_1).trans (hF675.1 174 1 mf_X5_isWord_176_174_1)))))))))).choose_spec o907; have h6 : CST (TX g0) (nX g0) c0 g896 8 [] (kX g0 + 1) := (by first | exact h3.bad (by omega) rfl | exact h3.eps (fun _ => S.noif (TKX.someC o904 (((hF898.2.1 175 (by decide)).trans ((gA_sA_ne (by decide)).trans ((gA_sI).trans ((gA_sA_ne (by decide)).trans ((gA_sI).trans ((hF872.2.1 175 ma_X5_step_176_175).trans ((hF684.2.1 175 ma_X5_isWord_176_175).trans (hF675.2.1 175 ma_X5_isWord_176_175))))))))) (((hF898.1 174 1 (by decide)).trans ((gI_sW).trans ((gI_sI_ne (by decide)).trans ((gI_sW).trans ((gI_sI_ne (by decide)).trans ((hF872.1 174 1 mf_X5_step_176_174_1).trans ((hF684.1 174 1 mf_X5_isWord_176_174_1).trans (hF675.1 174 1 mf_X5_isWord_176_174_1)))))))))).choose_spec (by omega))); rw [x937]; rw [show (kX g0 + 1 : Int) = v882.toInt from by omega] at h6; exact h6.eq (rX.c (b := 2) (((gI_sW).trans (gI_sW)))) (rX.c (b := 4) (((gI_sW).trans (gI_sW)))) (rX.c (b := 6) (((gI_sW).trans (gI_sW))))⟩⟩
        · have c921_ : v914.toInt = (-1) := en_i_ne_f c921
          refine At.enter rfl ?_
          refine r_aload_n rfl ?_
          refine r_ldcS (by decide) 17 rfl ?_
          refine r_callV 161 rfl [.ref 176, .float 17] [] (Nat.le_of_ble_eq_true rfl) rfl (T_X5_isWord_176 _ hI919 17 (by decide) (TKX.c o904 ((gA_sA_ne (by decide))) ((gI_sW)) ((gI_sW)) ((gI_sW)) ((gI_sW)))) ?_
          rintro _ _ ⟨g938, rfl, hI939, hF940, v941, rfl, hr942⟩
          refine At.sti ?_
          have hF943 := Fr.tr hF920 hF940 rfl rfl
          have hb944 : BL (CDX g896 = 10) v941.toInt := by have z := ISW.code (c := 10) hr942.2 (TKX.c o904 ((gA_sA_ne (by decide))) ((gI_sW)) ((gI_sW)) ((gI_sW)) ((gI_sW))) (isWC_d (by omega)) (by decide +kernel); rw [CDX.c ((gA_sA_ne (by decide))) ((gI_sW)) ((gI_sW)) ((gI_sW))] at z; exact z
          refine At.enter rfl ?_
          refine r_ifs 164 rfl (fun c945 => ?_) (fun c945 => ?_)
          · have c945_ : v941.toInt = 0 := en_k_eq_t c945
            have i946 := BL.no hb944 (by omega)
            refine At.enter rfl ?_
            refine r_aload_n rfl ?_
            refine q_getR (Sh.ref hI939.1 kx_176 rfl) ?_
            refine q_getR (Sh.ref hI939.1 kx_177 rfl) ?_
            refine r_iload_n rfl ?_
            refine r_aload_n rfl ?_
            refine q_getR (Sh.ref hI939.1 kx_176 rfl) ?_
            refine q_getI (Sh.int hI939.1 kx_177 rfl) v918 (((hF940.1 177 0 mf_X5_isWord_176_177_0).trans (gI_sW)).trans hv918) ?_
            refine q_iast (Sh.arr hI939.1 ka_183) (v868.toInt) rfl (by omega) ?_
            have hI947 := HI.wA0 hI939 ka_183 (p := 183) rfl rfl (v868.toInt) (v918)
            have hF948 := Fr.wA (p := 183) (j := v868.toInt) (v := v918) hF943 rfl
            refine r_vret ?_
            have x949 := rX.e hI947 (b := 2) ((((gI_sW).trans ((hF940.1 176 2 mf_X5_isWord_176_176_2).trans (gI_sW))).trans hv914))
            have x950 := rX.e hI0 (b := 2) (hv908)
            have x951 := rX.e hI947 (b := 4) ((((gI_sW).trans ((hF940.1 176 4 mf_X5_isWord_176_176_4).trans (gI_sW))).trans hv916))
            have x952 := rX.e hI0 (b := 4) (hv878)
            obtain ⟨v953, hv953⟩ : ∃ v, gI g896 176 6 = v := ⟨_, rfl⟩
            have tv953 := congrArg Int32.toInt hv953
            have x954 := rX.e hI947 (b := 6) ((((gI_sW).trans ((hF940.1 176 6 mf_X5_isWord_176_176_6).trans (gI_sW))).trans hv953))
            obtain ⟨v955, hv955⟩ : ∃ v, gI g0 176 6 = v := ⟨_, rfl⟩
            have tv955 := congrArg Int32.toInt hv955
            have x956 := rX.e hI0 (b := 6) (hv955)
            have x957 := rX.e hI871 (b := 2) ((((hF872.1 176 2 mf_X5_step_176_176_2).trans ((hF684.1 176 2 mf_X5_isWord_176_176_2).trans (hF675.1 176 2 mf_X5_isWord_176_176_2))).trans hv908))
            have x958 := rX.e hI871 (b := 4) (hv880)
            have x959 := rX.e hI897 (b := 2) (hv914)
            have x960 := rX.e hI897 (b := 4) (hv916)
            have x961 := kX.e hI0 (hv868)
            have x962 := kX.e hI947 (((gI_sW).trans ((hF940.1 177 3 mf_X5_isWord_176_177_3).trans ((gI_sW).trans ((hF898.1 177 3 (by decide)).trans ((gI_sW).trans ((gI_sI_ne (by decide)).trans ((gI_sW).trans (gI_sI_eq hI871.1 kx_177 rfl _)))))))))
            exact ⟨_, rfl, hI947, hF948, rfl, ⟨(TKX.c o904 (((gA_sA_ne (by decide)).trans ((hF940.2.1 175 ma_X5_isWord_176_175).trans (gA_sA_ne (by decide))))) (((gI_sW).trans ((hF940.1 174 1 mf_X5_isWord_176_174_1).trans (gI_sW)))) (((gI_sW).trans ((hF940.1 176 3 mf_X5_isWord_176_176_3).trans (gI_sW)))) (((gI_sW).trans ((hF940.1 176 4 mf_X5_isWord_176_176_4).trans (gI_sW)))) (((gI_sW).trans ((hF940.1 176 5 mf_X5_isWord_176_176_5).trans (gI_sW))))), ((PRG0.tr ((PRG0.tr (PRG0.step hT tok876_ (rX.c (b := 2) (((hF872.1 176 2 mf_X5_step_176_176_2).trans ((hF684.1 176 2 mf_X5_isWord_176_176_2).trans (hF675.1 176 2 mf_X5_isWord_176_176_2))))) (by omega)) (o912))) (PRG0.eq (rX.c (b := 4) (((gI_sW).trans ((hF940.1 176 4 mf_X5_isWord_176_176_4).trans (gI_sW))))) (rX.c (b := 2) (((gI_sW).trans ((hF940.1 176 2 mf_X5_isWord_176_176_2).trans (gI_sW)))))))).le (by omega), fun c0 h => by have h1 : CST (TX g0) (nX g0) c0 g870 1 [3] (kX g0 + 1) := CLX.head h (fun _ => S.cls tok876 (by omega) (by omega) rfl) (rX.c (b := 2) (((hF872.1 176 2 mf_X5_step_176_176_2).trans ((hF684.1 176 2 mf_X5_isWord_176_176_2).trans (hF675.1 176 2 mf_X5_isWord_176_176_2))))) (rX.c (b := 6) (((hF872.1 176 6 mf_X5_step_176_176_6).trans ((hF684.1 176 6 mf_X5_isWord_176_176_6).trans (hF675.1 176 6 mf_X5_isWord_176_176_6))))); have h3 := CLX.sum o913 h1 (TKX.someC o904 (((hF898.2.1 175 (by decide)).trans ((gA_sA_ne (by decide)).trans ((gA_sI).trans ((gA_sA_ne (by decide)).trans ((gA_sI).trans ((hF872.2.1 175 ma_X5_step_176_175).trans ((hF684.2.1 175 ma_X5_isWord_176_175).trans (hF675.2.1 175 ma_X5_isWord_176_175))))))))) (((hF898.1 174 1 (by decide)).trans ((gI_sW).trans ((gI_sI_ne (by decide)).trans ((gI_sW).trans ((gI_sI_ne (by decide)).trans ((hF872.1 174 1 mf_X5_step_176_174_1).trans ((hF684.1 174 1 mf_X5_isWord_176_174_1).trans (hF675.1 174 1 mf_X5_isWord_176_174_1)))))))))).choose_spec o907; have h6 : CST (TX g0) (nX g0) c0 g896 8 [] (kX g0 + 1) := (by first | exact h3.bad (by omega) rfl | exact h3.eps (fun _ => S.noif (TKX.someC o904 (((hF898.2.1 175 (by decide)).trans ((gA_sA_ne (by decide)).trans ((gA_sI).trans ((gA_sA_ne (by decide)).trans ((gA_sI).trans ((hF872.2.1 175 ma_X5_step_176_175).trans ((hF684.2.1 175 ma_X5_isWord_176_175).trans (hF675.2.1 175 ma_X5_isWord_176_175))))))))) (((hF898.1 174 1 (by decide)).trans ((gI_sW).trans ((gI_sI_ne (by decide)).trans ((gI_sW).trans ((gI_sI_ne (by decide)).trans ((hF872.1 174 1 mf_X5_step_176_174_1).trans ((hF684.1 174 1 mf_X5_isWord_176_174_1).trans (hF675.1 174 1 mf_X5_isWord_176_174_1)))))))))).choose_spec (by omega))); rw [x962]; rw [show (kX g0 + 1 : Int) = v882.toInt from by omega] at h6; exact h6.eq (rX.c (b := 2) (((gI_sW).trans ((hF940.1 176 2 mf_X5_isWord_176_176_2).trans (gI_sW))))) (rX.c (b := 4) (((gI_sW).trans ((hF940.1 176 4 mf_X5_isWord_176_176_4).trans (gI_sW))))) (rX.c (b := 6) (((gI_sW).trans ((hF940.1 176 6 mf_X5_isWord_176_176_6).trans (gI_sW)))))⟩⟩
          · have c945_ : v941.toInt ≠ 0 := en_k_eq_f c945
            have i963 := BL.yes hb944 (by omega)
            refine At.enter rfl ?_
            refine r_aload_n rfl ?_
            refine r_callV 168 rfl [.ref 176] [] (Nat.le_of_ble_eq_true rfl) rfl (T_X5_step_176 _ hI939 (TKX.c o904 (((hF940.2.1 175 ma_X5_isWord_176_175).trans (gA_sA_ne (by decide)))) (((hF940.1 174 1 mf_X5_isWord_176_174_1).trans (gI_sW))) (((hF940.1 176 3 mf_X5_isWord_176_176_3).trans (gI_sW))) (((hF940.1 176 4 mf_X5_isWord_176_176_4).trans (gI_sW))) (((hF940.1 176 5 mf_X5_isWord_176_176_5).trans (gI_sW)))).1 (TKX.c o904 (((hF940.2.1 175 ma_X5_isWord_176_175).trans (gA_sA_ne (by decide)))) (((hF940.1 174 1 mf_X5_isWord_176_174_1).trans (gI_sW))) (((hF940.1 176 3 mf_X5_isWord_176_176_3).trans (gI_sW))) (((hF940.1 176 4 mf_X5_isWord_176_176_4).trans (gI_sW))) (((hF940.1 176 5 mf_X5_isWord_176_176_5).trans (gI_sW)))).2.1.le.2.1) ?_
            rintro _ _ ⟨g964, rfl, hI965, hF966, rfl, hr968⟩
            refine At.stn ?_
            have hF969 := Fr.tr hF943 hF966 rfl rfl
            have tok970_ := hr968.2
            rw [TX.c (((hF940.2.1 175 ma_X5_isWord_176_175).trans (gA_sA_ne (by decide)))), nX.c (((hF940.1 174 1 mf_X5_isWord_176_174_1).trans (gI_sW))), rX.c (b := 5) (((hF940.1 176 5 mf_X5_isWord_176_176_5).trans (gI_sW)))] at tok970_
            have tok970 := TKX.tok o904 tok970_
            rw [TX.c (((hF898.2.1 175 (by decide)).trans ((gA_sA_ne (by decide)).trans ((gA_sI).trans ((gA_sA_ne (by decide)).trans ((gA_sI).trans ((hF872.2.1 175 ma_X5_step_176_175).trans ((hF684.2.1 175 ma_X5_isWord_176_175).trans (hF675.2.1 175 ma_X5_isWord_176_175))))))))), nX.c (((hF898.1 174 1 (by decide)).trans ((gI_sW).trans ((gI_sI_ne (by decide)).trans ((gI_sW).trans ((gI_sI_ne (by decide)).trans ((hF872.1 174 1 mf_X5_step_176_174_1).trans ((hF684.1 174 1 mf_X5_isWord_176_174_1).trans (hF675.1 174 1 mf_X5_isWord_176_174_1)))))))))] at tok970
            have hT971 := hr968.1
            have x972 := rX.e hI939 (b := 4) ((((hF940.1 176 4 mf_X5_isWord_176_176_4).trans (gI_sW)).trans hv916))
            obtain ⟨v973, hv973⟩ : ∃ v, gI g964 176 4 = v := ⟨_, rfl⟩
            have rv973 := RgF.at hI965.2.1 (p := 176) (b := 4) rfl
            rw [hv973] at rv973
            dsimp only at rv973
            have tv973 := congrArg Int32.toInt hv973
            have x974 := rX.e hI965 (b := 4) (hv973)
            refine At.enter rfl ?_
            refine r_aload_n rfl ?_
            refine r_iconst 0 rfl ?_
            refine r_iconst 0 rfl ?_
            have zv975 : (0 : Int32).toInt = 0 := rfl
            have zv976 : (0 : Int32).toInt = 0 := rfl
            refine r_callV 174 rfl [.ref 176, .int 0, .int 0] [] (Nat.le_of_ble_eq_true rfl) rfl (T_X5_readJoined_176 _ hI965 0 (by decide) 0 (by decide) hT971) ?_
            rintro _ _ ⟨g977, rfl, hI978, hF979, rfl, hr981⟩
            refine At.stn ?_
            have hF982 := Fr.tr hF969 hF979 rfl rfl
            have zv983 : (0 : Int32).toInt = 0 := rfl
            have zv984 : (0 : Int32).toInt = 0 := rfl
            have x989 := rX.e hI965 (b := 2) ((((hF966.1 176 2 mf_X5_step_176_176_2).trans ((hF940.1 176 2 mf_X5_isWord_176_176_2).trans (gI_sW))).trans hv914))
            have x990 := rX.e hI965 (b := 4) (hv973)
            obtain ⟨o985, o986, o987, o988⟩ := hr981
            have o991 := OPD.tc o987 (((hF966.2.1 175 ma_X5_step_176_175).trans ((hF940.2.1 175 ma_X5_isWord_176_175).trans ((gA_sA_ne (by decide)).trans ((hF898.2.1 175 (by decide)).trans ((gA_sA_ne (by decide)).trans ((gA_sI).trans ((gA_sA_ne (by decide)).trans ((gA_sI).trans ((hF872.2.1 175 ma_X5_step_176_175).trans ((hF684.2.1 175 ma_X5_isWord_176_175).trans (hF675.2.1 175 ma_X5_isWord_176_175)))))))))))) (((hF966.1 174 1 mf_X5_step_176_174_1).trans ((hF940.1 174 1 mf_X5_isWord_176_174_1).trans ((gI_sW).trans ((hF898.1 174 1 (by decide)).trans ((gI_sW).trans ((gI_sI_ne (by decide)).trans ((gI_sW).trans ((gI_sI_ne (by decide)).trans ((hF872.1 174 1 mf_X5_step_176_174_1).trans ((hF684.1 174 1 mf_X5_isWord_176_174_1).trans (hF675.1 174 1 mf_X5_isWord_176_174_1))))))))))))
            obtain ⟨v992, hv992⟩ : ∃ v, gI g977 176 2 = v := ⟨_, rfl⟩
            have tv992 := congrArg Int32.toInt hv992
            have x993 := rX.e hI978 (b := 2) (hv992)
            obtain ⟨v994, hv994⟩ : ∃ v, gI g977 176 4 = v := ⟨_, rfl⟩
            have rv994 := RgF.at hI978.2.1 (p := 176) (b := 4) rfl
            rw [hv994] at rv994
            dsimp only at rv994
            have tv994 := congrArg Int32.toInt hv994
            have x995 := rX.e hI978 (b := 4) (hv994)
            refine At.enter rfl ?_
            refine r_aload_n rfl ?_
            refine q_getR (Sh.ref hI978.1 kx_176 rfl) ?_
            refine q_getR (Sh.ref hI978.1 kx_177 rfl) ?_
            refine r_iload_n rfl ?_
            refine r_aload_n rfl ?_
            refine q_getR (Sh.ref hI978.1 kx_176 rfl) ?_
            obtain ⟨v996, hv996⟩ : ∃ v, gI g977 177 0 = v := ⟨_, rfl⟩
            have rv996 := RgF.at hI978.2.1 (p := 177) (b := 0) rfl
            rw [hv996] at rv996
            dsimp only at rv996
            refine q_getI (Sh.int hI978.1 kx_177 rfl) v996 hv996 ?_
            refine q_iast (Sh.arr hI978.1 ka_183) (v868.toInt) rfl (by omega) ?_
            have hI997 := HI.wA0 hI978 ka_183 (p := 183) rfl rfl (v868.toInt) (v996)
            have hF998 := Fr.wA (p := 183) (j := v868.toInt) (v := v996) hF982 rfl
            refine r_vret ?_
            have x999 := rX.e hI997 (b := 2) (((gI_sW).trans hv992))
            have x1000 := rX.e hI0 (b := 2) (hv908)
            have x1001 := rX.e hI997 (b := 4) (((gI_sW).trans hv994))
            have x1002 := rX.e hI0 (b := 4) (hv878)
            obtain ⟨v1003, hv1003⟩ : ∃ v, gI g977 176 6 = v := ⟨_, rfl⟩
            have tv1003 := congrArg Int32.toInt hv1003
            have x1004 := rX.e hI997 (b := 6) (((gI_sW).trans hv1003))
            obtain ⟨v1005, hv1005⟩ : ∃ v, gI g0 176 6 = v := ⟨_, rfl⟩
            have tv1005 := congrArg Int32.toInt hv1005
            have x1006 := rX.e hI0 (b := 6) (hv1005)
            have x1007 := rX.e hI871 (b := 2) ((((hF872.1 176 2 mf_X5_step_176_176_2).trans ((hF684.1 176 2 mf_X5_isWord_176_176_2).trans (hF675.1 176 2 mf_X5_isWord_176_176_2))).trans hv908))
            have x1008 := rX.e hI871 (b := 4) (hv880)
            have x1009 := rX.e hI897 (b := 2) (hv914)
            have x1010 := rX.e hI897 (b := 4) (hv916)
            have x1011 := rX.e hI965 (b := 2) ((((hF966.1 176 2 mf_X5_step_176_176_2).trans ((hF940.1 176 2 mf_X5_isWord_176_176_2).trans (gI_sW))).trans hv914))
            have x1012 := rX.e hI965 (b := 4) (hv973)
            have x1013 := rX.e hI978 (b := 2) (hv992)
            have x1014 := rX.e hI978 (b := 4) (hv994)
            have x1015 := kX.e hI0 (hv868)
            have x1016 := kX.e hI997 (((gI_sW).trans ((hF979.1 177 3 (by decide)).trans ((hF966.1 177 3 mf_X5_step_176_177_3).trans ((hF940.1 177 3 mf_X5_isWord_176_177_3).trans ((gI_sW).trans ((hF898.1 177 3 (by decide)).trans ((gI_sW).trans ((gI_sI_ne (by decide)).trans ((gI_sW).trans (gI_sI_eq hI871.1 kx_177 rfl _)))))))))))
            exact ⟨_, rfl, hI997, hF998, rfl, ⟨(TKX.c o985 ((gA_sA_ne (by decide))) ((gI_sW)) ((gI_sW)) ((gI_sW)) ((gI_sW))), ((PRG0.tr ((PRG0.tr ((PRG0.tr ((PRG0.tr (PRG0.step hT tok876_ (rX.c (b := 2) (((hF872.1 176 2 mf_X5_step_176_176_2).trans ((hF684.1 176 2 mf_X5_isWord_176_176_2).trans (hF675.1 176 2 mf_X5_isWord_176_176_2))))) (by omega)) (o912))) (PRG0.step o904 tok970_ (rX.c (b := 2) (((hF966.1 176 2 mf_X5_step_176_176_2).trans ((hF940.1 176 2 mf_X5_isWord_176_176_2).trans (gI_sW))))) (by omega)))) (o986))) (PRG0.eq (rX.c (b := 4) ((gI_sW))) (rX.c (b := 2) ((gI_sW)))))).le (by omega), fun c0 h => by have h1 : CST (TX g0) (nX g0) c0 g870 1 [3] (kX g0 + 1) := CLX.head h (fun _ => S.cls tok876 (by omega) (by omega) rfl) (rX.c (b := 2) (((hF872.1 176 2 mf_X5_step_176_176_2).trans ((hF684.1 176 2 mf_X5_isWord_176_176_2).trans (hF675.1 176 2 mf_X5_isWord_176_176_2))))) (rX.c (b := 6) (((hF872.1 176 6 mf_X5_step_176_176_6).trans ((hF684.1 176 6 mf_X5_isWord_176_176_6).trans (hF675.1 176 6 mf_X5_isWord_176_176_6))))); have h3 := CLX.sum o913 h1 (TKX.someC o904 (((hF898.2.1 175 (by decide)).trans ((gA_sA_ne (by decide)).trans ((gA_sI).trans ((gA_sA_ne (by decide)).trans ((gA_sI).trans ((hF872.2.1 175 ma_X5_step_176_175).trans ((hF684.2.1 175 ma_X5_isWord_176_175).trans (hF675.2.1 175 ma_X5_isWord_176_175))))))))) (((hF898.1 174 1 (by decide)).trans ((gI_sW).trans ((gI_sI_ne (by decide)).trans ((gI_sW).trans ((gI_sI_ne (by decide)).trans ((hF872.1 174 1 mf_X5_step_176_174_1).trans ((hF684.1 174 1 mf_X5_isWord_176_174_1).trans (hF675.1 174 1 mf_X5_isWord_176_174_1)))))))))).choose_spec o907; have h4 := CLX.head h3 (fun _ => S.if_ tok970 (by omega)) (rX.c (b := 2) (((hF966.1 176 2 mf_X5_step_176_176_2).trans ((hF940.1 176 2 mf_X5_isWord_176_176_2).trans (gI_sW))))) (rX.c (b := 6) (((hF966.1 176 6 mf_X5_step_176_176_6).trans ((hF940.1 176 6 mf_X5_isWord_176_176_6).trans (gI_sW))))); have h6 := CLX.test o991 h4 (TKX.someC o985 (((hF979.2.1 175 (by decide)).trans ((hF966.2.1 175 ma_X5_step_176_175).trans ((hF940.2.1 175 ma_X5_isWord_176_175).trans ((gA_sA_ne (by decide)).trans ((hF898.2.1 175 (by decide)).trans ((gA_sA_ne (by decide)).trans ((gA_sI).trans ((gA_sA_ne (by decide)).trans ((gA_sI).trans ((hF872.2.1 175 ma_X5_step_176_175).trans ((hF684.2.1 175 ma_X5_isWord_176_175).trans (hF675.2.1 175 ma_X5_isWord_176_175))))))))))))) (((hF979.1 174 1 (by decide)).trans ((hF966.1 174 1 mf_X5_step_176_174_1).trans ((hF940.1 174 1 mf_X5_isWord_176_174_1).trans ((gI_sW).trans ((hF898.1 174 1 (by decide)).trans ((gI_sW).trans ((gI_sI_ne (by decide)).trans ((gI_sW).trans ((gI_sI_ne (by decide)).trans ((hF872.1 174 1 mf_X5_step_176_174_1).trans ((hF684.1 174 1 mf_X5_isWord_176_174_1).trans (hF675.1 174 1 mf_X5_isWord_176_174_1)))))))))))))).choose_spec o988; rw [x1016]; rw [show (kX g0 + 1 : Int) = v882.toInt from by omega] at h6; exact h6.eq (rX.c (b := 2) ((gI_sW))) (rX.c (b := 4) ((gI_sW))) (rX.c (b := 6) ((gI_sW)))⟩⟩
      · have c869_ : v868.toInt ≥ 12 := en_i_lt_f c869
        refine At.enter rfl ?_
        refine r_aload_n rfl ?_
        refine q_inlV 64 rfl [.ref 176] [] (Nat.le_of_ble_eq_true rfl) rfl ?_
        refine Ev.mk rfl rfl ⟨Nat.le_of_ble_eq_true rfl, Or.inr (q_rc hI683.1 kx_176 rfl)⟩ ?_
        show At _ none _ _ (0, [(0, .ref 176)], [], (_, _)) _
        refine At.enter rfl ?_
        refine r_aload_n rfl ?_
        obtain ⟨v1017, hv1017⟩ : ∃ v, gI g0 176 2 = v := ⟨_, rfl⟩
        refine q_getI (Sh.int hI683.1 kx_176 rfl) v1017 (((hF684.1 176 2 mf_X5_isWord_176_176_2).trans (hF675.1 176 2 mf_X5_isWord_176_176_2)).trans hv1017) ?_
        refine r_iconst (-1) rfl ?_
        refine r_ics 8 rfl (fun c1018 => ?_) (fun c1018 => ?_)
        · have c1018_ : v1017.toInt ≠ (-1) := en_i_ne_t c1018
          refine At.enter rfl ?_
          refine q_vret ?_
          refine At.enter rfl ?_
          refine r_vret ?_
          have x1019 := rX.e hI683 (b := 2) ((((hF684.1 176 2 mf_X5_isWord_176_176_2).trans (hF675.1 176 2 mf_X5_isWord_176_176_2)).trans hv1017))
          have x1020 := rX.e hI0 (b := 2) (hv1017)
          obtain ⟨v1021, hv1021⟩ : ∃ v, gI g0 176 4 = v := ⟨_, rfl⟩
          have rv1021 := RgF.at hI0.2.1 (p := 176) (b := 4) rfl
          rw [hv1021] at rv1021
          dsimp only at rv1021
          have tv1021 := congrArg Int32.toInt hv1021
          have x1022 := rX.e hI683 (b := 4) ((((hF684.1 176 4 mf_X5_isWord_176_176_4).trans (hF675.1 176 4 mf_X5_isWord_176_176_4)).trans hv1021))
          have x1023 := rX.e hI0 (b := 4) (hv1021)
          obtain ⟨v1024, hv1024⟩ : ∃ v, gI g0 176 6 = v := ⟨_, rfl⟩
          have tv1024 := congrArg Int32.toInt hv1024
          have x1025 := rX.e hI683 (b := 6) ((((hF684.1 176 6 mf_X5_isWord_176_176_6).trans (hF675.1 176 6 mf_X5_isWord_176_176_6)).trans hv1024))
          have x1026 := rX.e hI0 (b := 6) (hv1024)
          have x1027 := kX.e hI0 (hv868)
          have x1028 := kX.e hI683 ((((hF684.1 177 3 mf_X5_isWord_176_177_3).trans (hF675.1 177 3 mf_X5_isWord_176_177_3)).trans hv868))
          exact ⟨_, rfl, hI683, hF687, rfl, ⟨(TKX.c hT (((hF684.2.1 175 ma_X5_isWord_176_175).trans (hF675.2.1 175 ma_X5_isWord_176_175))) (((hF684.1 174 1 mf_X5_isWord_176_174_1).trans (hF675.1 174 1 mf_X5_isWord_176_174_1))) (((hF684.1 176 3 mf_X5_isWord_176_176_3).trans (hF675.1 176 3 mf_X5_isWord_176_176_3))) (((hF684.1 176 4 mf_X5_isWord_176_176_4).trans (hF675.1 176 4 mf_X5_isWord_176_176_4))) (((hF684.1 176 5 mf_X5_isWord_176_176_5).trans (hF675.1 176 5 mf_X5_isWord_176_176_5)))), (PRG0.fail 1 (rX.c (b := 4) (((hF684.1 176 4 mf_X5_isWord_176_176_4).trans (hF675.1 176 4 mf_X5_isWord_176_176_4)))) (fun _ => by omega) (fun _ => by omega) (by omega)).le (by omega), fun c0 h => h.fail (fun _ => S.clsF (TKX.some hT).choose_spec (by omega)) (fun _ => by omega) (fun _ => by omega) (by omega)⟩⟩
        · have c1018_ : v1017.toInt = (-1) := en_i_ne_f c1018
          refine At.enter rfl ?_
          refine r_aload_n rfl ?_
          refine r_aload_n rfl ?_
          obtain ⟨v1029, hv1029⟩ : ∃ v, gI g0 176 4 = v := ⟨_, rfl⟩
          have rv1029 := RgF.at hI0.2.1 (p := 176) (b := 4) rfl
          rw [hv1029] at rv1029
          dsimp only at rv1029
          refine q_getI (Sh.int hI683.1 kx_176 rfl) v1029 (((hF684.1 176 4 mf_X5_isWord_176_176_4).trans (hF675.1 176 4 mf_X5_isWord_176_176_4)).trans hv1029) ?_
          refine q_putI (Sh.int hI683.1 kx_176 rfl) rfl ?_
          have hI1030 := HI.wI0 hI683 kx_176 rfl (p := 176) (b := 2) (v := v1029) rfl
          have hF1031 := Fr.wI (p := 176) (b := 2) (v := v1029) hF687 rfl
          refine Ar.fall 16 rfl ?_
          refine At.enter rfl ?_
          refine q_vret ?_
          refine At.enter rfl ?_
          refine r_vret ?_
          have x1032 := rX.e hI1030 (b := 2) ((gI_sI_eq hI683.1 kx_176 rfl _))
          have x1033 := rX.e hI0 (b := 2) (hv1017)
          have x1034 := rX.e hI1030 (b := 4) ((((gI_sI_ne (by decide)).trans ((hF684.1 176 4 mf_X5_isWord_176_176_4).trans (hF675.1 176 4 mf_X5_isWord_176_176_4))).trans hv1029))
          have x1035 := rX.e hI0 (b := 4) (hv1029)
          obtain ⟨v1036, hv1036⟩ : ∃ v, gI g0 176 6 = v := ⟨_, rfl⟩
          have tv1036 := congrArg Int32.toInt hv1036
          have x1037 := rX.e hI1030 (b := 6) ((((gI_sI_ne (by decide)).trans ((hF684.1 176 6 mf_X5_isWord_176_176_6).trans (hF675.1 176 6 mf_X5_isWord_176_176_6))).trans hv1036))
          have x1038 := rX.e hI0 (b := 6) (hv1036)
          have x1039 := kX.e hI0 (hv868)
          have x1040 := kX.e hI1030 ((((gI_sI_ne (by decide)).trans ((hF684.1 177 3 mf_X5_isWord_176_177_3).trans (hF675.1 177 3 mf_X5_isWord_176_177_3))).trans hv868))
          exact ⟨_, rfl, hI1030, hF1031, rfl, ⟨(TKX.c hT (((gA_sI).trans ((hF684.2.1 175 ma_X5_isWord_176_175).trans (hF675.2.1 175 ma_X5_isWord_176_175)))) (((gI_sI_ne (by decide)).trans ((hF684.1 174 1 mf_X5_isWord_176_174_1).trans (hF675.1 174 1 mf_X5_isWord_176_174_1)))) (((gI_sI_ne (by decide)).trans ((hF684.1 176 3 mf_X5_isWord_176_176_3).trans (hF675.1 176 3 mf_X5_isWord_176_176_3)))) (((gI_sI_ne (by decide)).trans ((hF684.1 176 4 mf_X5_isWord_176_176_4).trans (hF675.1 176 4 mf_X5_isWord_176_176_4)))) (((gI_sI_ne (by decide)).trans ((hF684.1 176 5 mf_X5_isWord_176_176_5).trans (hF675.1 176 5 mf_X5_isWord_176_176_5))))), (PRG0.fail 1 (rX.c (b := 4) (((gI_sI_ne (by decide)).trans ((hF684.1 176 4 mf_X5_isWord_176_176_4).trans (hF675.1 176 4 mf_X5_isWord_176_176_4))))) (fun _ => by omega) (fun _ => by omega) (by omega)).le (by omega), fun c0 h => h.fail (fun _ => S.clsF (TKX.some hT).choose_spec (by omega)) (fun _ => by omega) (fun _ => by omega) (by omega)⟩⟩
  · have c680_ : v676.toInt ≠ 0 := en_k_eq_f c680
    have i1041 := BL.yes hb679 (by omega)
    refine At.enter rfl ?_
    refine r_iconst 0 rfl ?_
    refine r_goto ?_
    refine At.enter rfl ?_
    refine r_istore_n ([(1, .int 0), (0, .ref 176)]) rfl ?_
    refine r_aload_n rfl ?_
    refine q_getR (Sh.ref hI674.1 kx_176 rfl) ?_
    obtain ⟨v1042, hv1042⟩ : ∃ v, gI g0 177 3 = v := ⟨_, rfl⟩
    have rv1042 := RgF.at hI0.2.1 (p := 177) (b := 3) rfl
    rw [hv1042] at rv1042
    dsimp only at rv1042
    refine q_getI (Sh.int hI674.1 kx_177 rfl) v1042 ((hF675.1 177 3 mf_X5_isWord_176_177_3).trans hv1042) ?_
    refine r_istore_n ([(2, .int v1042), (1, .int 0), (0, .ref 176)]) rfl ?_
    refine r_iload_n rfl ?_
    refine r_iconst (-1) rfl ?_
    refine r_icf 54 rfl (by decide) ?_
    refine At.enter rfl ?_
    refine r_iload_n rfl ?_
    refine r_bipush 12 rfl ?_
    refine r_ics 60 rfl (fun c1043 => ?_) (fun c1043 => ?_)
    · have c1043_ : v1042.toInt < 12 := en_i_lt_t c1043
      refine At.enter rfl ?_
      refine r_aload_n rfl ?_
      refine r_callV 69 rfl [.ref 176] [] (Nat.le_of_ble_eq_true rfl) rfl (T_X5_step_176 _ hI674 (TKX.c hT ((hF675.2.1 175 ma_X5_isWord_176_175)) ((hF675.1 174 1 mf_X5_isWord_176_174_1)) ((hF675.1 176 3 mf_X5_isWord_176_176_3)) ((hF675.1 176 4 mf_X5_isWord_176_176_4)) ((hF675.1 176 5 mf_X5_isWord_176_176_5))).1 (TKX.c hT ((hF675.2.1 175 ma_X5_isWord_176_175)) ((hF675.1 174 1 mf_X5_isWord_176_174_1)) ((hF675.1 176 3 mf_X5_isWord_176_176_3)) ((hF675.1 176 4 mf_X5_isWord_176_176_4)) ((hF675.1 176 5 mf_X5_isWord_176_176_5))).2.1.le.2.1) ?_
      rintro _ _ ⟨g1044, rfl, hI1045, hF1046, rfl, hr1048⟩
      refine At.stn ?_
      have hF1049 := Fr.tr hF678 hF1046 rfl rfl
      have tok1050_ := hr1048.2
      rw [TX.c ((hF675.2.1 175 ma_X5_isWord_176_175)), nX.c ((hF675.1 174 1 mf_X5_isWord_176_174_1)), rX.c (b := 5) ((hF675.1 176 5 mf_X5_isWord_176_176_5))] at tok1050_
      have tok1050 := TKX.tok hT tok1050_
      have hT1051 := hr1048.1
      obtain ⟨v1052, hv1052⟩ : ∃ v, gI g0 176 4 = v := ⟨_, rfl⟩
      have rv1052 := RgF.at hI0.2.1 (p := 176) (b := 4) rfl
      rw [hv1052] at rv1052
      dsimp only at rv1052
      have tv1052 := congrArg Int32.toInt hv1052
      have x1053 := rX.e hI674 (b := 4) (((hF675.1 176 4 mf_X5_isWord_176_176_4).trans hv1052))
      obtain ⟨v1054, hv1054⟩ : ∃ v, gI g1044 176 4 = v := ⟨_, rfl⟩
      have rv1054 := RgF.at hI1045.2.1 (p := 176) (b := 4) rfl
      rw [hv1054] at rv1054
      dsimp only at rv1054
      have tv1054 := congrArg Int32.toInt hv1054
      have x1055 := rX.e hI1045 (b := 4) (hv1054)
      refine At.enter rfl ?_
      refine r_aload_n rfl ?_
      refine q_getR (Sh.ref hI1045.1 kx_176 rfl) ?_
      refine r_iload_n rfl ?_
      refine r_iconst 1 rfl ?_
      refine q_iadd (v1042.toInt + 1) rfl (by omega) (fun v1056 hv1056 => ?_)
      refine q_putI (Sh.int hI1045.1 kx_177 rfl) rfl ?_
      have hI1057 := HI.wI1 hI1045 kx_177 rfl (p := 177) (b := 3) (v := v1056) rfl (by dsimp only; omega)
      have hF1058 := Fr.wI (p := 177) (b := 3) (v := v1056) hF1049 rfl
      refine r_aload_n rfl ?_
      refine q_getR (Sh.ref hI1057.1 kx_176 rfl) ?_
      refine q_getR (Sh.ref hI1057.1 kx_177 rfl) ?_
      refine r_iload_n rfl ?_
      refine r_iload_n rfl ?_
      refine q_iast (Sh.arr hI1057.1 ka_180) (v1042.toInt) rfl (by omega) ?_
      have hI1059 := HI.wA0 hI1057 ka_180 (p := 180) rfl rfl (v1042.toInt) (0)
      have hF1060 := Fr.wA (p := 180) (j := v1042.toInt) (v := 0) hF1058 rfl
      refine r_aload_n rfl ?_
      refine q_getR (Sh.ref hI1059.1 kx_176 rfl) ?_
      refine r_dup rfl ?_
      obtain ⟨v1061, hv1061⟩ : ∃ v, gI g0 177 4 = v := ⟨_, rfl⟩
      refine q_getI (Sh.int hI1059.1 kx_177 rfl) v1061 (((gI_sW).trans ((gI_sI_ne (by decide)).trans ((hF1046.1 177 4 mf_X5_step_176_177_4).trans (hF675.1 177 4 mf_X5_isWord_176_177_4)))).trans hv1061) ?_
      refine r_iconst 1 rfl ?_
      refine r_iload_n rfl ?_
      refine r_ishl 1 (by decide) ?_
      refine q_iorO (fun v1062 hv1062 => ?_)
      refine q_putI (Sh.int hI1059.1 kx_177 rfl) rfl ?_
      have hI1063 := HI.wI0 hI1059 kx_177 rfl (p := 177) (b := 4) (v := v1062) rfl
      have hF1064 := Fr.wI (p := 177) (b := 4) (v := v1062) hF1060 rfl
      refine r_aload_n rfl ?_
      refine q_getR (Sh.ref hI1063.1 kx_176 rfl) ?_
      refine q_getR (Sh.ref hI1063.1 kx_177 rfl) ?_
      refine r_iload_n rfl ?_
      refine r_aload_n rfl ?_
      refine q_getR (Sh.ref hI1063.1 kx_176 rfl) ?_
      obtain ⟨v1065, hv1065⟩ : ∃ v, gI g0 177 0 = v := ⟨_, rfl⟩
      have rv1065 := RgF.at hI0.2.1 (p := 177) (b := 0) rfl
      rw [hv1065] at rv1065
      dsimp only at rv1065
      refine q_getI (Sh.int hI1063.1 kx_177 rfl) v1065 (((gI_sI_ne (by decide)).trans ((gI_sW).trans ((gI_sI_ne (by decide)).trans ((hF1046.1 177 0 mf_X5_step_176_177_0).trans (hF675.1 177 0 mf_X5_isWord_176_177_0))))).trans hv1065) ?_
      refine q_iast (Sh.arr hI1063.1 ka_181) (v1042.toInt) rfl (by omega) ?_
      have hI1066 := HI.wA0 hI1063 ka_181 (p := 181) rfl rfl (v1042.toInt) (v1065)
      have hF1067 := Fr.wA (p := 181) (j := v1042.toInt) (v := v1065) hF1064 rfl
      refine r_iload_n rfl ?_
      refine r_iconst 2 rfl ?_
      refine r_icf 125 rfl (by decide) ?_
      refine At.enter rfl ?_
      refine r_aload_n rfl ?_
      refine r_iconst 2 rfl ?_
      refine r_iconst 0 rfl ?_
      have zv1068 : (2 : Int32).toInt = 2 := rfl
      have zv1069 : (0 : Int32).toInt = 0 := rfl
      refine r_callV 131 rfl [.ref 176, .int 2, .int 0] [] (Nat.le_of_ble_eq_true rfl) rfl (T_X5_readJoined_176 _ hI1066 2 (by decide) 0 (by decide) (TKX.c hT1051 (((gA_sA_ne (by decide)).trans ((gA_sI).trans ((gA_sA_ne (by decide)).trans (gA_sI))))) (((gI_sW).trans ((gI_sI_ne (by decide)).trans ((gI_sW).trans (gI_sI_ne (by decide)))))) (((gI_sW).trans ((gI_sI_ne (by decide)).trans ((gI_sW).trans (gI_sI_ne (by decide)))))) (((gI_sW).trans ((gI_sI_ne (by decide)).trans ((gI_sW).trans (gI_sI_ne (by decide)))))) (((gI_sW).trans ((gI_sI_ne (by decide)).trans ((gI_sW).trans (gI_sI_ne (by decide)))))))) ?_
      rintro _ _ ⟨g1070, rfl, hI1071, hF1072, rfl, hr1074⟩
      refine At.stn ?_
      have hF1075 := Fr.tr hF1067 hF1072 rfl rfl
      have zv1076 : (2 : Int32).toInt = 2 := rfl
      have zv1077 : (0 : Int32).toInt = 0 := rfl
      obtain ⟨v1082, hv1082⟩ : ∃ v, gI g0 176 2 = v := ⟨_, rfl⟩
      have tv1082 := congrArg Int32.toInt hv1082
      have x1083 := rX.e hI1066 (b := 2) ((((gI_sW).trans ((gI_sI_ne (by decide)).trans ((gI_sW).trans ((gI_sI_ne (by decide)).trans ((hF1046.1 176 2 mf_X5_step_176_176_2).trans (hF675.1 176 2 mf_X5_isWord_176_176_2)))))).trans hv1082))
      have x1084 := rX.e hI1066 (b := 4) ((((gI_sW).trans ((gI_sI_ne (by decide)).trans ((gI_sW).trans (gI_sI_ne (by decide))))).trans hv1054))
      obtain ⟨o1078, o1079, o1080, o1081⟩ := hr1074
      have o1085 := OPD.tc o1080 (((gA_sA_ne (by decide)).trans ((gA_sI).trans ((gA_sA_ne (by decide)).trans ((gA_sI).trans ((hF1046.2.1 175 ma_X5_step_176_175).trans (hF675.2.1 175 ma_X5_isWord_176_175))))))) (((gI_sW).trans ((gI_sI_ne (by decide)).trans ((gI_sW).trans ((gI_sI_ne (by decide)).trans ((hF1046.1 174 1 mf_X5_step_176_174_1).trans (hF675.1 174 1 mf_X5_isWord_176_174_1)))))))
      have o1086 := PRG0.fr o1079 (rX.c (b := 2) (((gI_sW).trans ((gI_sI_ne (by decide)).trans ((gI_sW).trans (gI_sI_ne (by decide))))))) (rX.c (b := 4) (((gI_sW).trans ((gI_sI_ne (by decide)).trans ((gI_sW).trans (gI_sI_ne (by decide)))))))
      have o1087 := OPD.fr o1085 (rX.c (b := 2) (((gI_sW).trans ((gI_sI_ne (by decide)).trans ((gI_sW).trans (gI_sI_ne (by decide))))))) (rX.c (b := 4) (((gI_sW).trans ((gI_sI_ne (by decide)).trans ((gI_sW).trans (gI_sI_ne (by decide))))))) (rX.c (b := 6) (((gI_sW).trans ((gI_sI_ne (by decide)).trans ((gI_sW).trans (gI_sI_ne (by decide)))))))
      obtain ⟨v1088, hv1088⟩ : ∃ v, gI g1070 176 2 = v := ⟨_, rfl⟩
      have tv1088 := congrArg Int32.toInt hv1088
      have x1089 := rX.e hI1071 (b := 2) (hv1088)
      obtain ⟨v1090, hv1090⟩ : ∃ v, gI g1070 176 4 = v := ⟨_, rfl⟩
      have rv1090 := RgF.at hI1071.2.1 (p := 176) (b := 4) rfl
      rw [hv1090] at rv1090
      dsimp only at rv1090
      have tv1090 := congrArg Int32.toInt hv1090
      have x1091 := rX.e hI1071 (b := 4) (hv1090)
      refine At.enter rfl ?_
      refine r_aload_n rfl ?_
      refine q_getR (Sh.ref hI1071.1 kx_176 rfl) ?_
      refine q_getR (Sh.ref hI1071.1 kx_177 rfl) ?_
      refine r_iload_n rfl ?_
      refine r_aload_n rfl ?_
      refine q_getR (Sh.ref hI1071.1 kx_176 rfl) ?_
      obtain ⟨v1092, hv1092⟩ : ∃ v, gI g1070 177 0 = v := ⟨_, rfl⟩
      have rv1092 := RgF.at hI1071.2.1 (p := 177) (b := 0) rfl
      rw [hv1092] at rv1092
      dsimp only at rv1092
      refine q_getI (Sh.int hI1071.1 kx_177 rfl) v1092 hv1092 ?_
      refine q_iast (Sh.arr hI1071.1 ka_182) (v1042.toInt) rfl (by omega) ?_
      have hI1093 := HI.wA0 hI1071 ka_182 (p := 182) rfl rfl (v1042.toInt) (v1092)
      have hF1094 := Fr.wA (p := 182) (j := v1042.toInt) (v := v1092) hF1075 rfl
      refine r_aload_n rfl ?_
      refine q_getI (Sh.int hI1093.1 kx_176 rfl) v1088 ((gI_sW).trans hv1088) ?_
      refine r_iconst (-1) rfl ?_
      refine r_ics 155 rfl (fun c1095 => ?_) (fun c1095 => ?_)
      · have c1095_ : v1088.toInt ≠ (-1) := en_i_ne_t c1095
        refine At.enter rfl ?_
        refine r_aload_n rfl ?_
        refine q_getR (Sh.ref hI1093.1 kx_176 rfl) ?_
        refine q_getR (Sh.ref hI1093.1 kx_177 rfl) ?_
        refine r_iload_n rfl ?_
        refine r_aload_n rfl ?_
        refine q_getR (Sh.ref hI1093.1 kx_176 rfl) ?_
        refine q_getI (Sh.int hI1093.1 kx_177 rfl) v1092 ((gI_sW).trans hv1092) ?_
        refine q_iast (Sh.arr hI1093.1 ka_183) (v1042.toInt) rfl (by omega) ?_
        have hI1096 := HI.wA0 hI1093 ka_183 (p := 183) rfl rfl (v1042.toInt) (v1092)
        have hF1097 := Fr.wA (p := 183) (j := v1042.toInt) (v := v1092) hF1094 rfl
        refine r_vret ?_
        have x1098 := rX.e hI1096 (b := 2) ((((gI_sW).trans (gI_sW)).trans hv1088))
        have x1099 := rX.e hI0 (b := 2) (hv1082)
        have x1100 := rX.e hI1096 (b := 4) ((((gI_sW).trans (gI_sW)).trans hv1090))
        have x1101 := rX.e hI0 (b := 4) (hv1052)
        obtain ⟨v1102, hv1102⟩ : ∃ v, gI g1070 176 6 = v := ⟨_, rfl⟩
        have tv1102 := congrArg Int32.toInt hv1102
        have x1103 := rX.e hI1096 (b := 6) ((((gI_sW).trans (gI_sW)).trans hv1102))
        obtain ⟨v1104, hv1104⟩ : ∃ v, gI g0 176 6 = v := ⟨_, rfl⟩
        have tv1104 := congrArg Int32.toInt hv1104
        have x1105 := rX.e hI0 (b := 6) (hv1104)
        have x1106 := rX.e hI1045 (b := 2) ((((hF1046.1 176 2 mf_X5_step_176_176_2).trans (hF675.1 176 2 mf_X5_isWord_176_176_2)).trans hv1082))
        have x1107 := rX.e hI1045 (b := 4) (hv1054)
        have x1108 := rX.e hI1071 (b := 2) (hv1088)
        have x1109 := rX.e hI1071 (b := 4) (hv1090)
        have x1110 := kX.e hI0 (hv1042)
        have x1111 := kX.e hI1096 (((gI_sW).trans ((gI_sW).trans ((hF1072.1 177 3 (by decide)).trans ((gI_sW).trans ((gI_sI_ne (by decide)).trans ((gI_sW).trans (gI_sI_eq hI1045.1 kx_177 rfl _))))))))
        exact ⟨_, rfl, hI1096, hF1097, rfl, ⟨(TKX.c o1078 (((gA_sA_ne (by decide)).trans (gA_sA_ne (by decide)))) (((gI_sW).trans (gI_sW))) (((gI_sW).trans (gI_sW))) (((gI_sW).trans (gI_sW))) (((gI_sW).trans (gI_sW)))), ((PRG0.tr ((PRG0.tr (PRG0.step hT tok1050_ (rX.c (b := 2) (((hF1046.1 176 2 mf_X5_step_176_176_2).trans (hF675.1 176 2 mf_X5_isWord_176_176_2)))) (by omega)) (o1086))) (PRG0.eq (rX.c (b := 4) (((gI_sW).trans (gI_sW)))) (rX.c (b := 2) (((gI_sW).trans (gI_sW))))))).le (by omega), fun c0 h => by have h1 : CST (TX g0) (nX g0) c0 g1044 1 [3] (kX g0 + 1) := CLX.head h (fun _ => S.cls tok1050 (by omega) (by omega) rfl) (rX.c (b := 2) (((hF1046.1 176 2 mf_X5_step_176_176_2).trans (hF675.1 176 2 mf_X5_isWord_176_176_2)))) (rX.c (b := 6) (((hF1046.1 176 6 mf_X5_step_176_176_6).trans (hF675.1 176 6 mf_X5_isWord_176_176_6)))); have h3 := CLX.sum o1087 h1 (TKX.someC o1078 (((hF1072.2.1 175 (by decide)).trans ((gA_sA_ne (by decide)).trans ((gA_sI).trans ((gA_sA_ne (by decide)).trans ((gA_sI).trans ((hF1046.2.1 175 ma_X5_step_176_175).trans (hF675.2.1 175 ma_X5_isWord_176_175)))))))) (((hF1072.1 174 1 (by decide)).trans ((gI_sW).trans ((gI_sI_ne (by decide)).trans ((gI_sW).trans ((gI_sI_ne (by decide)).trans ((hF1046.1 174 1 mf_X5_step_176_174_1).trans (hF675.1 174 1 mf_X5_isWord_176_174_1))))))))).choose_spec o1081; have h6 : CST (TX g0) (nX g0) c0 g1070 8 [] (kX g0 + 1) := (by first | exact h3.bad (by omega) rfl | exact h3.eps (fun _ => S.noif (TKX.someC o1078 (((hF1072.2.1 175 (by decide)).trans ((gA_sA_ne (by decide)).trans ((gA_sI).trans ((gA_sA_ne (by decide)).trans ((gA_sI).trans ((hF1046.2.1 175 ma_X5_step_176_175).trans (hF675.2.1 175 ma_X5_isWord_176_175)))))))) (((hF1072.1 174 1 (by decide)).trans ((gI_sW).trans ((gI_sI_ne (by decide)).trans ((gI_sW).trans ((gI_sI_ne (by decide)).trans ((hF1046.1 174 1 mf_X5_step_176_174_1).trans (hF675.1 174 1 mf_X5_isWord_176_174_1))))))))).choose_spec (by omega))); rw [x1111]; rw [show (kX g0 + 1 : Int) = v1056.toInt from by omega] at h6; exact h6.eq (rX.c (b := 2) (((gI_sW).trans (gI_sW)))) (rX.c (b := 4) (((gI_sW).trans (gI_sW)))) (rX.c (b := 6) (((gI_sW).trans (gI_sW))))⟩⟩
      · have c1095_ : v1088.toInt = (-1) := en_i_ne_f c1095
        refine At.enter rfl ?_
        refine r_aload_n rfl ?_
        refine r_ldcS (by decide) 17 rfl ?_
        refine r_callV 161 rfl [.ref 176, .float 17] [] (Nat.le_of_ble_eq_true rfl) rfl (T_X5_isWord_176 _ hI1093 17 (by decide) (TKX.c o1078 ((gA_sA_ne (by decide))) ((gI_sW)) ((gI_sW)) ((gI_sW)) ((gI_sW)))) ?_
        rintro _ _ ⟨g1112, rfl, hI1113, hF1114, v1115, rfl, hr1116⟩
        refine At.sti ?_
        have hF1117 := Fr.tr hF1094 hF1114 rfl rfl
        have hb1118 : BL (CDX g1070 = 10) v1115.toInt := by have z := ISW.code (c := 10) hr1116.2 (TKX.c o1078 ((gA_sA_ne (by decide))) ((gI_sW)) ((gI_sW)) ((gI_sW)) ((gI_sW))) (isWC_d (by omega)) (by decide +kernel); rw [CDX.c ((gA_sA_ne (by decide))) ((gI_sW)) ((gI_sW)) ((gI_sW))] at z; exact z
        refine At.enter rfl ?_
        refine r_ifs 164 rfl (fun c1119 => ?_) (fun c1119 => ?_)
        · have c1119_ : v1115.toInt = 0 := en_k_eq_t c1119
          have i1120 := BL.no hb1118 (by omega)
          refine At.enter rfl ?_
          refine r_aload_n rfl ?_
          refine q_getR (Sh.ref hI1113.1 kx_176 rfl) ?_
          refine q_getR (Sh.ref hI1113.1 kx_177 rfl) ?_
          refine r_iload_n rfl ?_
          refine r_aload_n rfl ?_
          refine q_getR (Sh.ref hI1113.1 kx_176 rfl) ?_
          refine q_getI (Sh.int hI1113.1 kx_177 rfl) v1092 (((hF1114.1 177 0 mf_X5_isWord_176_177_0).trans (gI_sW)).trans hv1092) ?_
          refine q_iast (Sh.arr hI1113.1 ka_183) (v1042.toInt) rfl (by omega) ?_
          have hI1121 := HI.wA0 hI1113 ka_183 (p := 183) rfl rfl (v1042.toInt) (v1092)
          have hF1122 := Fr.wA (p := 183) (j := v1042.toInt) (v := v1092) hF1117 rfl
          refine r_vret ?_
          have x1123 := rX.e hI1121 (b := 2) ((((gI_sW).trans ((hF1114.1 176 2 mf_X5_isWord_176_176_2).trans (gI_sW))).trans hv1088))
          have x1124 := rX.e hI0 (b := 2) (hv1082)
          have x1125 := rX.e hI1121 (b := 4) ((((gI_sW).trans ((hF1114.1 176 4 mf_X5_isWord_176_176_4).trans (gI_sW))).trans hv1090))
          have x1126 := rX.e hI0 (b := 4) (hv1052)
          obtain ⟨v1127, hv1127⟩ : ∃ v, gI g1070 176 6 = v := ⟨_, rfl⟩
          have tv1127 := congrArg Int32.toInt hv1127
          have x1128 := rX.e hI1121 (b := 6) ((((gI_sW).trans ((hF1114.1 176 6 mf_X5_isWord_176_176_6).trans (gI_sW))).trans hv1127))
          obtain ⟨v1129, hv1129⟩ : ∃ v, gI g0 176 6 = v := ⟨_, rfl⟩
          have tv1129 := congrArg Int32.toInt hv1129
          have x1130 := rX.e hI0 (b := 6) (hv1129)
          have x1131 := rX.e hI1045 (b := 2) ((((hF1046.1 176 2 mf_X5_step_176_176_2).trans (hF675.1 176 2 mf_X5_isWord_176_176_2)).trans hv1082))
          have x1132 := rX.e hI1045 (b := 4) (hv1054)
          have x1133 := rX.e hI1071 (b := 2) (hv1088)
          have x1134 := rX.e hI1071 (b := 4) (hv1090)
          have x1135 := kX.e hI0 (hv1042)
          have x1136 := kX.e hI1121 (((gI_sW).trans ((hF1114.1 177 3 mf_X5_isWord_176_177_3).trans ((gI_sW).trans ((hF1072.1 177 3 (by decide)).trans ((gI_sW).trans ((gI_sI_ne (by decide)).trans ((gI_sW).trans (gI_sI_eq hI1045.1 kx_177 rfl _)))))))))
          exact ⟨_, rfl, hI1121, hF1122, rfl, ⟨(TKX.c o1078 (((gA_sA_ne (by decide)).trans ((hF1114.2.1 175 ma_X5_isWord_176_175).trans (gA_sA_ne (by decide))))) (((gI_sW).trans ((hF1114.1 174 1 mf_X5_isWord_176_174_1).trans (gI_sW)))) (((gI_sW).trans ((hF1114.1 176 3 mf_X5_isWord_176_176_3).trans (gI_sW)))) (((gI_sW).trans ((hF1114.1 176 4 mf_X5_isWord_176_176_4).trans (gI_sW)))) (((gI_sW).trans ((hF1114.1 176 5 mf_X5_isWord_176_176_5).trans (gI_sW))))), ((PRG0.tr ((PRG0.tr (PRG0.step hT tok1050_ (rX.c (b := 2) (((hF1046.1 176 2 mf_X5_step_176_176_2).trans (hF675.1 176 2 mf_X5_isWord_176_176_2)))) (by omega)) (o1086))) (PRG0.eq (rX.c (b := 4) (((gI_sW).trans ((hF1114.1 176 4 mf_X5_isWord_176_176_4).trans (gI_sW))))) (rX.c (b := 2) (((gI_sW).trans ((hF1114.1 176 2 mf_X5_isWord_176_176_2).trans (gI_sW)))))))).le (by omega), fun c0 h => by have h1 : CST (TX g0) (nX g0) c0 g1044 1 [3] (kX g0 + 1) := CLX.head h (fun _ => S.cls tok1050 (by omega) (by omega) rfl) (rX.c (b := 2) (((hF1046.1 176 2 mf_X5_step_176_176_2).trans (hF675.1 176 2 mf_X5_isWord_176_176_2)))) (rX.c (b := 6) (((hF1046.1 176 6 mf_X5_step_176_176_6).trans (hF675.1 176 6 mf_X5_isWord_176_176_6)))); have h3 := CLX.sum o1087 h1 (TKX.someC o1078 (((hF1072.2.1 175 (by decide)).trans ((gA_sA_ne (by decide)).trans ((gA_sI).trans ((gA_sA_ne (by decide)).trans ((gA_sI).trans ((hF1046.2.1 175 ma_X5_step_176_175).trans (hF675.2.1 175 ma_X5_isWord_176_175)))))))) (((hF1072.1 174 1 (by decide)).trans ((gI_sW).trans ((gI_sI_ne (by decide)).trans ((gI_sW).trans ((gI_sI_ne (by decide)).trans ((hF1046.1 174 1 mf_X5_step_176_174_1).trans (hF675.1 174 1 mf_X5_isWord_176_174_1))))))))).choose_spec o1081; have h6 : CST (TX g0) (nX g0) c0 g1070 8 [] (kX g0 + 1) := (by first | exact h3.bad (by omega) rfl | exact h3.eps (fun _ => S.noif (TKX.someC o1078 (((hF1072.2.1 175 (by decide)).trans ((gA_sA_ne (by decide)).trans ((gA_sI).trans ((gA_sA_ne (by decide)).trans ((gA_sI).trans ((hF1046.2.1 175 ma_X5_step_176_175).trans (hF675.2.1 175 ma_X5_isWord_176_175)))))))) (((hF1072.1 174 1 (by decide)).trans ((gI_sW).trans ((gI_sI_ne (by decide)).trans ((gI_sW).trans ((gI_sI_ne (by decide)).trans ((hF1046.1 174 1 mf_X5_step_176_174_1).trans (hF675.1 174 1 mf_X5_isWord_176_174_1))))))))).choose_spec (by omega))); rw [x1136]; rw [show (kX g0 + 1 : Int) = v1056.toInt from by omega] at h6; exact h6.eq (rX.c (b := 2) (((gI_sW).trans ((hF1114.1 176 2 mf_X5_isWord_176_176_2).trans (gI_sW))))) (rX.c (b := 4) (((gI_sW).trans ((hF1114.1 176 4 mf_X5_isWord_176_176_4).trans (gI_sW))))) (rX.c (b := 6) (((gI_sW).trans ((hF1114.1 176 6 mf_X5_isWord_176_176_6).trans (gI_sW)))))⟩⟩
        · have c1119_ : v1115.toInt ≠ 0 := en_k_eq_f c1119
          have i1137 := BL.yes hb1118 (by omega)
          refine At.enter rfl ?_
          refine r_aload_n rfl ?_
          refine r_callV 168 rfl [.ref 176] [] (Nat.le_of_ble_eq_true rfl) rfl (T_X5_step_176 _ hI1113 (TKX.c o1078 (((hF1114.2.1 175 ma_X5_isWord_176_175).trans (gA_sA_ne (by decide)))) (((hF1114.1 174 1 mf_X5_isWord_176_174_1).trans (gI_sW))) (((hF1114.1 176 3 mf_X5_isWord_176_176_3).trans (gI_sW))) (((hF1114.1 176 4 mf_X5_isWord_176_176_4).trans (gI_sW))) (((hF1114.1 176 5 mf_X5_isWord_176_176_5).trans (gI_sW)))).1 (TKX.c o1078 (((hF1114.2.1 175 ma_X5_isWord_176_175).trans (gA_sA_ne (by decide)))) (((hF1114.1 174 1 mf_X5_isWord_176_174_1).trans (gI_sW))) (((hF1114.1 176 3 mf_X5_isWord_176_176_3).trans (gI_sW))) (((hF1114.1 176 4 mf_X5_isWord_176_176_4).trans (gI_sW))) (((hF1114.1 176 5 mf_X5_isWord_176_176_5).trans (gI_sW)))).2.1.le.2.1) ?_
          rintro _ _ ⟨g1138, rfl, hI1139, hF1140, rfl, hr1142⟩
          refine At.stn ?_
          have hF1143 := Fr.tr hF1117 hF1140 rfl rfl
          have tok1144_ := hr1142.2
          rw [TX.c (((hF1114.2.1 175 ma_X5_isWord_176_175).trans (gA_sA_ne (by decide)))), nX.c (((hF1114.1 174 1 mf_X5_isWord_176_174_1).trans (gI_sW))), rX.c (b := 5) (((hF1114.1 176 5 mf_X5_isWord_176_176_5).trans (gI_sW)))] at tok1144_
          have tok1144 := TKX.tok o1078 tok1144_
          rw [TX.c (((hF1072.2.1 175 (by decide)).trans ((gA_sA_ne (by decide)).trans ((gA_sI).trans ((gA_sA_ne (by decide)).trans ((gA_sI).trans ((hF1046.2.1 175 ma_X5_step_176_175).trans (hF675.2.1 175 ma_X5_isWord_176_175)))))))), nX.c (((hF1072.1 174 1 (by decide)).trans ((gI_sW).trans ((gI_sI_ne (by decide)).trans ((gI_sW).trans ((gI_sI_ne (by decide)).trans ((hF1046.1 174 1 mf_X5_step_176_174_1).trans (hF675.1 174 1 mf_X5_isWord_176_174_1))))))))] at tok1144
          have hT1145 := hr1142.1
          have x1146 := rX.e hI1113 (b := 4) ((((hF1114.1 176 4 mf_X5_isWord_176_176_4).trans (gI_sW)).trans hv1090))
          obtain ⟨v1147, hv1147⟩ : ∃ v, gI g1138 176 4 = v := ⟨_, rfl⟩
          have rv1147 := RgF.at hI1139.2.1 (p := 176) (b := 4) rfl
          rw [hv1147] at rv1147
          dsimp only at rv1147
          have tv1147 := congrArg Int32.toInt hv1147
          have x1148 := rX.e hI1139 (b := 4) (hv1147)
          refine At.enter rfl ?_
          refine r_aload_n rfl ?_
          refine r_iconst 0 rfl ?_
          refine r_iconst 0 rfl ?_
          have zv1149 : (0 : Int32).toInt = 0 := rfl
          have zv1150 : (0 : Int32).toInt = 0 := rfl
          refine r_callV 174 rfl [.ref 176, .int 0, .int 0] [] (Nat.le_of_ble_eq_true rfl) rfl (T_X5_readJoined_176 _ hI1139 0 (by decide) 0 (by decide) hT1145) ?_
          rintro _ _ ⟨g1151, rfl, hI1152, hF1153, rfl, hr1155⟩
          refine At.stn ?_
          have hF1156 := Fr.tr hF1143 hF1153 rfl rfl
          have zv1157 : (0 : Int32).toInt = 0 := rfl
          have zv1158 : (0 : Int32).toInt = 0 := rfl
          have x1163 := rX.e hI1139 (b := 2) ((((hF1140.1 176 2 mf_X5_step_176_176_2).trans ((hF1114.1 176 2 mf_X5_isWord_176_176_2).trans (gI_sW))).trans hv1088))
          have x1164 := rX.e hI1139 (b := 4) (hv1147)
          obtain ⟨o1159, o1160, o1161, o1162⟩ := hr1155
          have o1165 := OPD.tc o1161 (((hF1140.2.1 175 ma_X5_step_176_175).trans ((hF1114.2.1 175 ma_X5_isWord_176_175).trans ((gA_sA_ne (by decide)).trans ((hF1072.2.1 175 (by decide)).trans ((gA_sA_ne (by decide)).trans ((gA_sI).trans ((gA_sA_ne (by decide)).trans ((gA_sI).trans ((hF1046.2.1 175 ma_X5_step_176_175).trans (hF675.2.1 175 ma_X5_isWord_176_175))))))))))) (((hF1140.1 174 1 mf_X5_step_176_174_1).trans ((hF1114.1 174 1 mf_X5_isWord_176_174_1).trans ((gI_sW).trans ((hF1072.1 174 1 (by decide)).trans ((gI_sW).trans ((gI_sI_ne (by decide)).trans ((gI_sW).trans ((gI_sI_ne (by decide)).trans ((hF1046.1 174 1 mf_X5_step_176_174_1).trans (hF675.1 174 1 mf_X5_isWord_176_174_1)))))))))))
          obtain ⟨v1166, hv1166⟩ : ∃ v, gI g1151 176 2 = v := ⟨_, rfl⟩
          have tv1166 := congrArg Int32.toInt hv1166
          have x1167 := rX.e hI1152 (b := 2) (hv1166)
          obtain ⟨v1168, hv1168⟩ : ∃ v, gI g1151 176 4 = v := ⟨_, rfl⟩
          have rv1168 := RgF.at hI1152.2.1 (p := 176) (b := 4) rfl
          rw [hv1168] at rv1168
          dsimp only at rv1168
          have tv1168 := congrArg Int32.toInt hv1168
          have x1169 := rX.e hI1152 (b := 4) (hv1168)
          refine At.enter rfl ?_
          refine r_aload_n rfl ?_
          refine q_getR (Sh.ref hI1152.1 kx_176 rfl) ?_
          refine q_getR (Sh.ref hI1152.1 kx_177 rfl) ?_
          refine r_iload_n rfl ?_
          refine r_aload_n rfl ?_
          refine q_getR (Sh.ref hI1152.1 kx_176 rfl) ?_
          obtain ⟨v1170, hv1170⟩ : ∃ v, gI g1151 177 0 = v := ⟨_, rfl⟩
          have rv1170 := RgF.at hI1152.2.1 (p := 177) (b := 0) rfl
          rw [hv1170] at rv1170
          dsimp only at rv1170
          refine q_getI (Sh.int hI1152.1 kx_177 rfl) v1170 hv1170 ?_
          refine q_iast (Sh.arr hI1152.1 ka_183) (v1042.toInt) rfl (by omega) ?_
          have hI1171 := HI.wA0 hI1152 ka_183 (p := 183) rfl rfl (v1042.toInt) (v1170)
          have hF1172 := Fr.wA (p := 183) (j := v1042.toInt) (v := v1170) hF1156 rfl
          refine r_vret ?_
          have x1173 := rX.e hI1171 (b := 2) (((gI_sW).trans hv1166))
          have x1174 := rX.e hI0 (b := 2) (hv1082)
          have x1175 := rX.e hI1171 (b := 4) (((gI_sW).trans hv1168))
          have x1176 := rX.e hI0 (b := 4) (hv1052)
          obtain ⟨v1177, hv1177⟩ : ∃ v, gI g1151 176 6 = v := ⟨_, rfl⟩
          have tv1177 := congrArg Int32.toInt hv1177
          have x1178 := rX.e hI1171 (b := 6) (((gI_sW).trans hv1177))
          obtain ⟨v1179, hv1179⟩ : ∃ v, gI g0 176 6 = v := ⟨_, rfl⟩
          have tv1179 := congrArg Int32.toInt hv1179
          have x1180 := rX.e hI0 (b := 6) (hv1179)
          have x1181 := rX.e hI1045 (b := 2) ((((hF1046.1 176 2 mf_X5_step_176_176_2).trans (hF675.1 176 2 mf_X5_isWord_176_176_2)).trans hv1082))
          have x1182 := rX.e hI1045 (b := 4) (hv1054)
          have x1183 := rX.e hI1071 (b := 2) (hv1088)
          have x1184 := rX.e hI1071 (b := 4) (hv1090)
          have x1185 := rX.e hI1139 (b := 2) ((((hF1140.1 176 2 mf_X5_step_176_176_2).trans ((hF1114.1 176 2 mf_X5_isWord_176_176_2).trans (gI_sW))).trans hv1088))
          have x1186 := rX.e hI1139 (b := 4) (hv1147)
          have x1187 := rX.e hI1152 (b := 2) (hv1166)
          have x1188 := rX.e hI1152 (b := 4) (hv1168)
          have x1189 := kX.e hI0 (hv1042)
          have x1190 := kX.e hI1171 (((gI_sW).trans ((hF1153.1 177 3 (by decide)).trans ((hF1140.1 177 3 mf_X5_step_176_177_3).trans ((hF1114.1 177 3 mf_X5_isWord_176_177_3).trans ((gI_sW).trans ((hF1072.1 177 3 (by decide)).trans ((gI_sW).trans ((gI_sI_ne (by decide)).trans ((gI_sW).trans (gI_sI_eq hI1045.1 kx_177 rfl _)))))))))))
          exact ⟨_, rfl, hI1171, hF1172, rfl, ⟨(TKX.c o1159 ((gA_sA_ne (by decide))) ((gI_sW)) ((gI_sW)) ((gI_sW)) ((gI_sW))), ((PRG0.tr ((PRG0.tr ((PRG0.tr ((PRG0.tr (PRG0.step hT tok1050_ (rX.c (b := 2) (((hF1046.1 176 2 mf_X5_step_176_176_2).trans (hF675.1 176 2 mf_X5_isWord_176_176_2)))) (by omega)) (o1086))) (PRG0.step o1078 tok1144_ (rX.c (b := 2) (((hF1140.1 176 2 mf_X5_step_176_176_2).trans ((hF1114.1 176 2 mf_X5_isWord_176_176_2).trans (gI_sW))))) (by omega)))) (o1160))) (PRG0.eq (rX.c (b := 4) ((gI_sW))) (rX.c (b := 2) ((gI_sW)))))).le (by omega), fun c0 h => by have h1 : CST (TX g0) (nX g0) c0 g1044 1 [3] (kX g0 + 1) := CLX.head h (fun _ => S.cls tok1050 (by omega) (by omega) rfl) (rX.c (b := 2) (((hF1046.1 176 2 mf_X5_step_176_176_2).trans (hF675.1 176 2 mf_X5_isWord_176_176_2)))) (rX.c (b := 6) (((hF1046.1 176 6 mf_X5_step_176_176_6).trans (hF675.1 176 6 mf_X5_isWord_176_176_6)))); have h3 := CLX.sum o1087 h1 (TKX.someC o1078 (((hF1072.2.1 175 (by decide)).trans ((gA_sA_ne (by decide)).trans ((gA_sI).trans ((gA_sA_ne (by decide)).trans ((gA_sI).trans ((hF1046.2.1 175 ma_X5_step_176_175).trans (hF675.2.1 175 ma_X5_isWord_176_175)))))))) (((hF1072.1 174 1 (by decide)).trans ((gI_sW).trans ((gI_sI_ne (by decide)).trans ((gI_sW).trans ((gI_sI_ne (by decide)).trans ((hF1046.1 174 1 mf_X5_step_176_174_1).trans (hF675.1 174 1 mf_X5_isWord_176_174_1))))))))).choose_spec o1081; have h4 := CLX.head h3 (fun _ => S.if_ tok1144 (by omega)) (rX.c (b := 2) (((hF1140.1 176 2 mf_X5_step_176_176_2).trans ((hF1114.1 176 2 mf_X5_isWord_176_176_2).trans (gI_sW))))) (rX.c (b := 6) (((hF1140.1 176 6 mf_X5_step_176_176_6).trans ((hF1114.1 176 6 mf_X5_isWord_176_176_6).trans (gI_sW))))); have h6 := CLX.test o1165 h4 (TKX.someC o1159 (((hF1153.2.1 175 (by decide)).trans ((hF1140.2.1 175 ma_X5_step_176_175).trans ((hF1114.2.1 175 ma_X5_isWord_176_175).trans ((gA_sA_ne (by decide)).trans ((hF1072.2.1 175 (by decide)).trans ((gA_sA_ne (by decide)).trans ((gA_sI).trans ((gA_sA_ne (by decide)).trans ((gA_sI).trans ((hF1046.2.1 175 ma_X5_step_176_175).trans (hF675.2.1 175 ma_X5_isWord_176_175)))))))))))) (((hF1153.1 174 1 (by decide)).trans ((hF1140.1 174 1 mf_X5_step_176_174_1).trans ((hF1114.1 174 1 mf_X5_isWord_176_174_1).trans ((gI_sW).trans ((hF1072.1 174 1 (by decide)).trans ((gI_sW).trans ((gI_sI_ne (by decide)).trans ((gI_sW).trans ((gI_sI_ne (by decide)).trans ((hF1046.1 174 1 mf_X5_step_176_174_1).trans (hF675.1 174 1 mf_X5_isWord_176_174_1))))))))))))).choose_spec o1162; rw [x1190]; rw [show (kX g0 + 1 : Int) = v1056.toInt from by omega] at h6; exact h6.eq (rX.c (b := 2) ((gI_sW))) (rX.c (b := 4) ((gI_sW))) (rX.c (b := 6) ((gI_sW)))⟩⟩
    · have c1043_ : v1042.toInt ≥ 12 := en_i_lt_f c1043
      refine At.enter rfl ?_
      refine r_aload_n rfl ?_
      refine q_inlV 64 rfl [.ref 176] [] (Nat.le_of_ble_eq_true rfl) rfl ?_
      refine Ev.mk rfl rfl ⟨Nat.le_of_ble_eq_true rfl, Or.inr (q_rc hI674.1 kx_176 rfl)⟩ ?_
      show At _ none _ _ (0, [(0, .ref 176)], [], (_, _)) _
      refine At.enter rfl ?_
      refine r_aload_n rfl ?_
      obtain ⟨v1191, hv1191⟩ : ∃ v, gI g0 176 2 = v := ⟨_, rfl⟩
      refine q_getI (Sh.int hI674.1 kx_176 rfl) v1191 ((hF675.1 176 2 mf_X5_isWord_176_176_2).trans hv1191) ?_
      refine r_iconst (-1) rfl ?_
      refine r_ics 8 rfl (fun c1192 => ?_) (fun c1192 => ?_)
      · have c1192_ : v1191.toInt ≠ (-1) := en_i_ne_t c1192
        refine At.enter rfl ?_
        refine q_vret ?_
        refine At.enter rfl ?_
        refine r_vret ?_
        have x1193 := rX.e hI674 (b := 2) (((hF675.1 176 2 mf_X5_isWord_176_176_2).trans hv1191))
        have x1194 := rX.e hI0 (b := 2) (hv1191)
        obtain ⟨v1195, hv1195⟩ : ∃ v, gI g0 176 4 = v := ⟨_, rfl⟩
        have rv1195 := RgF.at hI0.2.1 (p := 176) (b := 4) rfl
        rw [hv1195] at rv1195
        dsimp only at rv1195
        have tv1195 := congrArg Int32.toInt hv1195
        have x1196 := rX.e hI674 (b := 4) (((hF675.1 176 4 mf_X5_isWord_176_176_4).trans hv1195))
        have x1197 := rX.e hI0 (b := 4) (hv1195)
        obtain ⟨v1198, hv1198⟩ : ∃ v, gI g0 176 6 = v := ⟨_, rfl⟩
        have tv1198 := congrArg Int32.toInt hv1198
        have x1199 := rX.e hI674 (b := 6) (((hF675.1 176 6 mf_X5_isWord_176_176_6).trans hv1198))
        have x1200 := rX.e hI0 (b := 6) (hv1198)
        have x1201 := kX.e hI0 (hv1042)
        have x1202 := kX.e hI674 (((hF675.1 177 3 mf_X5_isWord_176_177_3).trans hv1042))
        exact ⟨_, rfl, hI674, hF678, rfl, ⟨(TKX.c hT ((hF675.2.1 175 ma_X5_isWord_176_175)) ((hF675.1 174 1 mf_X5_isWord_176_174_1)) ((hF675.1 176 3 mf_X5_isWord_176_176_3)) ((hF675.1 176 4 mf_X5_isWord_176_176_4)) ((hF675.1 176 5 mf_X5_isWord_176_176_5))), (PRG0.fail 1 (rX.c (b := 4) ((hF675.1 176 4 mf_X5_isWord_176_176_4))) (fun _ => by omega) (fun _ => by omega) (by omega)).le (by omega), fun c0 h => h.fail (fun _ => S.clsF (TKX.some hT).choose_spec (by omega)) (fun _ => by omega) (fun _ => by omega) (by omega)⟩⟩
      · have c1192_ : v1191.toInt = (-1) := en_i_ne_f c1192
        refine At.enter rfl ?_
        refine r_aload_n rfl ?_
        refine r_aload_n rfl ?_
        obtain ⟨v1203, hv1203⟩ : ∃ v, gI g0 176 4 = v := ⟨_, rfl⟩
        have rv1203 := RgF.at hI0.2.1 (p := 176) (b := 4) rfl
        rw [hv1203] at rv1203
        dsimp only at rv1203
        refine q_getI (Sh.int hI674.1 kx_176 rfl) v1203 ((hF675.1 176 4 mf_X5_isWord_176_176_4).trans hv1203) ?_
        refine q_putI (Sh.int hI674.1 kx_176 rfl) rfl ?_
        have hI1204 := HI.wI0 hI674 kx_176 rfl (p := 176) (b := 2) (v := v1203) rfl
        have hF1205 := Fr.wI (p := 176) (b := 2) (v := v1203) hF678 rfl
        refine Ar.fall 16 rfl ?_
        refine At.enter rfl ?_
        refine q_vret ?_
        refine At.enter rfl ?_
        refine r_vret ?_
        have x1206 := rX.e hI1204 (b := 2) ((gI_sI_eq hI674.1 kx_176 rfl _))
        have x1207 := rX.e hI0 (b := 2) (hv1191)
        have x1208 := rX.e hI1204 (b := 4) ((((gI_sI_ne (by decide)).trans (hF675.1 176 4 mf_X5_isWord_176_176_4)).trans hv1203))
        have x1209 := rX.e hI0 (b := 4) (hv1203)
        obtain ⟨v1210, hv1210⟩ : ∃ v, gI g0 176 6 = v := ⟨_, rfl⟩
        have tv1210 := congrArg Int32.toInt hv1210
        have x1211 := rX.e hI1204 (b := 6) ((((gI_sI_ne (by decide)).trans (hF675.1 176 6 mf_X5_isWord_176_176_6)).trans hv1210))
        have x1212 := rX.e hI0 (b := 6) (hv1210)
        have x1213 := kX.e hI0 (hv1042)
        have x1214 := kX.e hI1204 ((((gI_sI_ne (by decide)).trans (hF675.1 177 3 mf_X5_isWord_176_177_3)).trans hv1042))
        exact ⟨_, rfl, hI1204, hF1205, rfl, ⟨(TKX.c hT (((gA_sI).trans (hF675.2.1 175 ma_X5_isWord_176_175))) (((gI_sI_ne (by decide)).trans (hF675.1 174 1 mf_X5_isWord_176_174_1))) (((gI_sI_ne (by decide)).trans (hF675.1 176 3 mf_X5_isWord_176_176_3))) (((gI_sI_ne (by decide)).trans (hF675.1 176 4 mf_X5_isWord_176_176_4))) (((gI_sI_ne (by decide)).trans (hF675.1 176 5 mf_X5_isWord_176_176_5)))), (PRG0.fail 1 (rX.c (b := 4) (((gI_sI_ne (by decide)).trans (hF675.1 176 4 mf_X5_isWord_176_176_4)))) (fun _ => by omega) (fun _ => by omega) (by omega)).le (by omega), fun c0 h => h.fail (fun _ => S.clsF (TKX.some hT).choose_spec (by omega)) (fun _ => by omega) (fun _ => by omega) (by omega)⟩⟩
