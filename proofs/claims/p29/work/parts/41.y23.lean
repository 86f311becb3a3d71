theorem Q_all : ∀ n, QJ n ∧ QP n ∧ QT n := by
  intro n
  induction n with
  | zero => exact ⟨fun e he N g0 hI a1 h1 a2 h2 hm _ => absurd hm (by omega), fun e he N g0 hI a1 h1 hm _ => absurd hm (by omega), fun e he N g0 hI a1 h1 hm _ => absurd hm (by omega)⟩
  | succ n ih => exact ⟨S_X5_readJoined_176 n ih.1 ih.2.1 ih.2.2, S_X5_readPlain_176 n ih.1 ih.2.1 ih.2.2, S_X5_readPart_176 n ih.1 ih.2.1 ih.2.2⟩
theorem T_X5_readJoined_176 (d : Nat) {N : Nat} {g0 : List en_E} (hI0 : HI g0) (a1 : Int32) (h_a1 : 0 ≤ a1.toInt ∧ a1.toInt ≤ 3) (a2 : Int32) (h_a2 : 0 ≤ a2.toInt ∧ a2.toInt ≤ 8) (hT : TKX g0) : Ev (d + 420) 65 [.ref 176, .int a1, .int a2] (g0, N) (fun w h' => ∃ g', h' = (g', N) ∧ HI g' ∧ Fr F_rd A_rd g0 g' ∧ w = none ∧ (JPX g0 g' a1.toInt a2.toInt ∧ GPX (TX g0) (nX g0) g0 g' (t0f a1.toInt) (lev a1.toInt) (t1f a1.toInt) (tyr a1.toInt))) :=
  (Q_all 100).1 (d + 420) (by omega) hI0 a1 h_a1 a2 h_a2 (by omega) hT

def F_X5_readClause_176 : List (Nat × Nat) := [(176, 2), (176, 3), (176, 4), (176, 5), (176, 6), (177, 0), (177, 3), (177, 4)]
def A_X5_readClause_176 : List Nat := [178, 179, 180, 181, 182, 183]
theorem ma_X5_isWord_176_175 : memA A_X5_isWord_176 175 = false := by decide
theorem mf_X5_isWord_176_174_1 : memF F_X5_isWord_176 174 1 = false := by decide
theorem mf_X5_isWord_176_176_3 : memF F_X5_isWord_176 176 3 = false := by decide
theorem mf_X5_isWord_176_176_4 : memF F_X5_isWord_176 176 4 = false := by decide
theorem mf_X5_isWord_176_176_5 : memF F_X5_isWord_176 176 5 = false := by decide
theorem mf_X5_isWord_176_177_3 : memF F_X5_isWord_176 177 3 = false := by decide
theorem mf_X5_isWord_176_176_2 : memF F_X5_isWord_176 176 2 = false := by decide
theorem mf_X5_isWord_176_176_6 : memF F_X5_isWord_176 176 6 = false := by decide
theorem mf_X5_isWord_176_177_4 : memF F_X5_isWord_176 177 4 = false := by decide
theorem ma_X5_isWord_176_180 : memA A_X5_isWord_176 180 = false := by decide
theorem mf_X5_step_176_177_4 : memF F_X5_step_176 177 4 = false := by decide
theorem mf_X5_isWord_176_177_0 : memF F_X5_isWord_176 177 0 = false := by decide
theorem ma_X5_step_176_175 : memA A_X5_step_176 175 = false := by decide
theorem mf_X5_step_176_174_1 : memF F_X5_step_176 174 1 = false := by decide
theorem ma_X5_isWord_176_178 : memA A_X5_isWord_176 178 = false := by decide
theorem ma_X5_isWord_176_179 : memA A_X5_isWord_176 179 = false := by decide
theorem ma_X5_step_176_180 : memA A_X5_step_176 180 = false := by decide
theorem ma_X5_step_176_181 : memA A_X5_step_176 181 = false := by decide
theorem ma_X5_isWord_176_181 : memA A_X5_isWord_176 181 = false := by decide
theorem ma_X5_step_176_182 : memA A_X5_step_176 182 = false := by decide
theorem ma_X5_isWord_176_182 : memA A_X5_isWord_176 182 = false := by decide
theorem ma_X5_step_176_183 : memA A_X5_step_176 183 = false := by decide
theorem ma_X5_isWord_176_183 : memA A_X5_isWord_176 183 = false := by decide
theorem mf_X5_step_176_177_3 : memF F_X5_step_176 177 3 = false := by decide
set_option maxRecDepth 100000 in
set_option maxHeartbeats 4000000 in
theorem T_X5_readClause_176 (d : Nat) {N : Nat} {g0 : List en_E} (hI0 : HI g0) (hT : TKX g0) : Ev (d + 421) 64 [.ref 176] (g0, N) (fun w h' => ∃ g', h' = (g', N) ∧ HI g' ∧ Fr F_X5_readClause_176 A_X5_readClause_176 g0 g' ∧ w = none ∧ (CPX g0 g' ∧ CGX (TX g0) (nX g0) g0 g' ∧ SPP g0 g')) := by
  have hF0 : Fr F_X5_readClause_176 A_X5_readClause_176 g0 g0 := Fr.rf
  refine Ev.mk rfl rfl ⟨Nat.le_of_ble_eq_true rfl, Or.inr (q_rc hI0.1 kx_176 rfl)⟩ ?_
  show At _ none _ _ (0, [(0, .ref 176)], [], (_, _)) _
  refine At.enter rfl ?_
  refine r_aload_n rfl ?_
  refine r_ldcS (by decide) 1 rfl ?_
  refine r_callV 6 rfl [.ref 176, .float 1] [] (Nat.le_of_ble_eq_true rfl) rfl (T_X5_isWord_176 _ hI0 1 (by decide) hT) ?_
  rintro _ _ ⟨g683, rfl, hI684, hF685, v686, rfl, hr687⟩
  refine At.sti ?_
  have hF688 := Fr.tr hF0 hF685 rfl rfl
  have hb689 : BL (CDX g0 = 11) v686.toInt := ISW.code (c := 11) hr687.2 hT (isWC_d (by omega)) (by decide +kernel)
  refine At.enter rfl ?_
  refine r_ifs 9 rfl (fun c690 => ?_) (fun c690 => ?_)
  · have c690_ : v686.toInt = 0 := en_k_eq_t c690
    have i691 := BL.no hb689 (by omega)
    refine At.enter rfl ?_
    refine r_aload_n rfl ?_
    refine r_ldcS (by decide) 2 rfl ?_
    refine r_callV 19 rfl [.ref 176, .float 2] [] (Nat.le_of_ble_eq_true rfl) rfl (T_X5_isWord_176 _ hI684 2 (by decide) (TKX.c hT ((hF685.2.1 175 ma_X5_isWord_176_175)) ((hF685.1 174 1 mf_X5_isWord_176_174_1)) ((hF685.1 176 3 mf_X5_isWord_176_176_3)) ((hF685.1 176 4 mf_X5_isWord_176_176_4)) ((hF685.1 176 5 mf_X5_isWord_176_176_5)))) ?_
    rintro _ _ ⟨g692, rfl, hI693, hF694, v695, rfl, hr696⟩
    refine At.sti ?_
    have hF697 := Fr.tr hF688 hF694 rfl rfl
    have hb698 : BL (CDX g0 = 12) v695.toInt := by have z := ISW.code (c := 12) hr696.2 (TKX.c hT ((hF685.2.1 175 ma_X5_isWord_176_175)) ((hF685.1 174 1 mf_X5_isWord_176_174_1)) ((hF685.1 176 3 mf_X5_isWord_176_176_3)) ((hF685.1 176 4 mf_X5_isWord_176_176_4)) ((hF685.1 176 5 mf_X5_isWord_176_176_5))) (isWC_d (by omega)) (by decide +kernel); rw [CDX.c ((hF685.2.1 175 ma_X5_isWord_176_175)) ((hF685.1 176 3 mf_X5_isWord_176_176_3)) ((hF685.1 176 4 mf_X5_isWord_176_176_4)) ((hF685.1 176 5 mf_X5_isWord_176_176_5))] at z; exact z
    refine At.enter rfl ?_
    refine r_ifs 22 rfl (fun c699 => ?_) (fun c699 => ?_)
    · have c699_ : v695.toInt = 0 := en_k_eq_t c699
      have i700 := BL.no hb698 (by omega)
      refine At.enter rfl ?_
      refine r_aload_n rfl ?_
      refine r_ldcS (by decide) 3 rfl ?_
      refine r_callV 32 rfl [.ref 176, .float 3] [] (Nat.le_of_ble_eq_true rfl) rfl (T_X5_isWord_176 _ hI693 3 (by decide) (TKX.c hT (((hF694.2.1 175 ma_X5_isWord_176_175).trans (hF685.2.1 175 ma_X5_isWord_176_175))) (((hF694.1 174 1 mf_X5_isWord_176_174_1).trans (hF685.1 174 1 mf_X5_isWord_176_174_1))) (((hF694.1 176 3 mf_X5_isWord_176_176_3).trans (hF685.1 176 3 mf_X5_isWord_176_176_3))) (((hF694.1 176 4 mf_X5_isWord_176_176_4).trans (hF685.1 176 4 mf_X5_isWord_176_176_4))) (((hF694.1 176 5 mf_X5_isWord_176_176_5).trans (hF685.1 176 5 mf_X5_isWord_176_176_5))))) ?_
      rintro _ _ ⟨g701, rfl, hI702, hF703, v704, rfl, hr705⟩
      refine At.sti ?_
      have hF706 := Fr.tr hF697 hF703 rfl rfl
      have hb707 : BL (CDX g0 = 13) v704.toInt := by have z := ISW.code (c := 13) hr705.2 (TKX.c hT (((hF694.2.1 175 ma_X5_isWord_176_175).trans (hF685.2.1 175 ma_X5_isWord_176_175))) (((hF694.1 174 1 mf_X5_isWord_176_174_1).trans (hF685.1 174 1 mf_X5_isWord_176_174_1))) (((hF694.1 176 3 mf_X5_isWord_176_176_3).trans (hF685.1 176 3 mf_X5_isWord_176_176_3))) (((hF694.1 176 4 mf_X5_isWord_176_176_4).trans (hF685.1 176 4 mf_X5_isWord_176_176_4))) (((hF694.1 176 5 mf_X5_isWord_176_176_5).trans (hF685.1 176 5 mf_X5_isWord_176_176_5)))) (isWC_d (by omega)) (by decide +kernel); rw [CDX.c (((hF694.2.1 175 ma_X5_isWord_176_175).trans (hF685.2.1 175 ma_X5_isWord_176_175))) (((hF694.1 176 3 mf_X5_isWord_176_176_3).trans (hF685.1 176 3 mf_X5_isWord_176_176_3))) (((hF694.1 176 4 mf_X5_isWord_176_176_4).trans (hF685.1 176 4 mf_X5_isWord_176_176_4))) (((hF694.1 176 5 mf_X5_isWord_176_176_5).trans (hF685.1 176 5 mf_X5_isWord_176_176_5)))] at z; exact z
      refine At.enter rfl ?_
      refine r_ifs 35 rfl (fun c708 => ?_) (fun c708 => ?_)
      · have c708_ : v704.toInt = 0 := en_k_eq_t c708
        have i709 := BL.no hb707 (by omega)
        refine At.enter rfl ?_
        refine r_iconst (-1) rfl ?_
        refine Ar.fall 40 rfl ?_
        refine At.enter rfl ?_
        refine r_istore_n ([(1, .int (-1)), (0, .ref 176)]) rfl ?_
        refine r_aload_n rfl ?_
        refine q_getR (Sh.ref hI702.1 kx_176 rfl) ?_
        obtain ⟨v710, hv710⟩ : ∃ v, gI g0 177 3 = v := ⟨_, rfl⟩
        have rv710 := RgF.at hI0.2.1 (p := 177) (b := 3) rfl
        rw [hv710] at rv710
        dsimp only at rv710
        refine q_getI (Sh.int hI702.1 kx_177 rfl) v710 (((hF703.1 177 3 mf_X5_isWord_176_177_3).trans ((hF694.1 177 3 mf_X5_isWord_176_177_3).trans (hF685.1 177 3 mf_X5_isWord_176_177_3))).trans hv710) ?_
        refine r_istore_n ([(2, .int v710), (1, .int (-1)), (0, .ref 176)]) rfl ?_
        refine r_iload_n rfl ?_
        refine r_iconst (-1) rfl ?_
        refine r_ict (by decide) ?_
        refine At.enter rfl ?_
        refine r_aload_n rfl ?_
        refine q_inlV 64 rfl [.ref 176] [] (Nat.le_of_ble_eq_true rfl) rfl ?_
        refine Ev.mk rfl rfl ⟨Nat.le_of_ble_eq_true rfl, Or.inr (q_rc hI702.1 kx_176 rfl)⟩ ?_
        show At _ none _ _ (0, [(0, .ref 176)], [], (_, _)) _
        refine At.enter rfl ?_
        refine r_aload_n rfl ?_
        obtain ⟨v711, hv711⟩ : ∃ v, gI g0 176 2 = v := ⟨_, rfl⟩
        refine q_getI (Sh.int hI702.1 kx_176 rfl) v711 (((hF703.1 176 2 mf_X5_isWord_176_176_2).trans ((hF694.1 176 2 mf_X5_isWord_176_176_2).trans (hF685.1 176 2 mf_X5_isWord_176_176_2))).trans hv711) ?_
        refine r_iconst (-1) rfl ?_
        refine r_ics 8 rfl (fun c712 => ?_) (fun c712 => ?_)
        · have c712_ : v711.toInt ≠ (-1) := en_i_ne_t c712
          refine At.enter rfl ?_
          refine q_vret ?_
          refine At.enter rfl ?_
          refine r_vret ?_
          have x713 := rX.e hI702 (b := 2) ((((hF703.1 176 2 mf_X5_isWord_176_176_2).trans ((hF694.1 176 2 mf_X5_isWord_176_176_2).trans (hF685.1 176 2 mf_X5_isWord_176_176_2))).trans hv711))
          have x714 := rX.e hI0 (b := 2) (hv711)
          obtain ⟨v715, hv715⟩ : ∃ v, gI g0 176 4 = v := ⟨_, rfl⟩
          have rv715 := RgF.at hI0.2.1 (p := 176) (b := 4) rfl
          rw [hv715] at rv715
          dsimp only at rv715
          have tv715 := congrArg Int32.toInt hv715
          have x716 := rX.e hI702 (b := 4) ((((hF703.1 176 4 mf_X5_isWord_176_176_4).trans ((hF694.1 176 4 mf_X5_isWord_176_176_4).trans (hF685.1 176 4 mf_X5_isWord_176_176_4))).trans hv715))
          have x717 := rX.e hI0 (b := 4) (hv715)
          obtain ⟨v718, hv718⟩ : ∃ v, gI g0 176 6 = v := ⟨_, rfl⟩
          have tv718 := congrArg Int32.toInt hv718
          have x719 := rX.e hI702 (b := 6) ((((hF703.1 176 6 mf_X5_isWord_176_176_6).trans ((hF694.1 176 6 mf_X5_isWord_176_176_6).trans (hF685.1 176 6 mf_X5_isWord_176_176_6))).trans hv718))
          have x720 := rX.e hI0 (b := 6) (hv718)
          have x721 := kX.e hI0 (hv710)
          have x722 := kX.e hI702 ((((hF703.1 177 3 mf_X5_isWord_176_177_3).trans ((hF694.1 177 3 mf_X5_isWord_176_177_3).trans (hF685.1 177 3 mf_X5_isWord_176_177_3))).trans hv710))
          exact ⟨_, rfl, hI702, hF706, rfl, ⟨⟨(TKX.c hT (((hF703.2.1 175 ma_X5_isWord_176_175).trans ((hF694.2.1 175 ma_X5_isWord_176_175).trans (hF685.2.1 175 ma_X5_isWord_176_175)))) (((hF703.1 174 1 mf_X5_isWord_176_174_1).trans ((hF694.1 174 1 mf_X5_isWord_176_174_1).trans (hF685.1 174 1 mf_X5_isWord_176_174_1)))) (((hF703.1 176 3 mf_X5_isWord_176_176_3).trans ((hF694.1 176 3 mf_X5_isWord_176_176_3).trans (hF685.1 176 3 mf_X5_isWord_176_176_3)))) (((hF703.1 176 4 mf_X5_isWord_176_176_4).trans ((hF694.1 176 4 mf_X5_isWord_176_176_4).trans (hF685.1 176 4 mf_X5_isWord_176_176_4)))) (((hF703.1 176 5 mf_X5_isWord_176_176_5).trans ((hF694.1 176 5 mf_X5_isWord_176_176_5).trans (hF685.1 176 5 mf_X5_isWord_176_176_5))))), (PRG0.fail 1 (rX.c (b := 4) (((hF703.1 176 4 mf_X5_isWord_176_176_4).trans ((hF694.1 176 4 mf_X5_isWord_176_176_4).trans (hF685.1 176 4 mf_X5_isWord_176_176_4))))) (fun _ => by omega) (fun _ => by omega) (by omega)).le (by omega), fun c0 h => h.fail (fun _ => S.clsF (TKX.some hT).choose_spec (by omega)) (fun _ => by omega) (fun _ => by omega) (by omega)⟩, (fun hz => absurd hz (by omega)), (SPP_same (((hF703.1 177 4 mf_X5_isWord_176_177_4).trans ((hF694.1 177 4 mf_X5_isWord_176_177_4).trans (hF685.1 177 4 mf_X5_isWord_176_177_4)))) (((hF703.2.1 180 ma_X5_isWord_176_180).trans ((hF694.2.1 180 ma_X5_isWord_176_180).trans (hF685.2.1 180 ma_X5_isWord_176_180)))) (((hF703.1 177 3 mf_X5_isWord_176_177_3).trans ((hF694.1 177 3 mf_X5_isWord_176_177_3).trans (hF685.1 177 3 mf_X5_isWord_176_177_3)))))⟩⟩
        · have c712_ : v711.toInt = (-1) := en_i_ne_f c712
          refine At.enter rfl ?_
          refine r_aload_n rfl ?_
          refine r_aload_n rfl ?_
          obtain ⟨v723, hv723⟩ : ∃ v, gI g0 176 4 = v := ⟨_, rfl⟩
          have rv723 := RgF.at hI0.2.1 (p := 176) (b := 4) rfl
          rw [hv723] at rv723
          dsimp only at rv723
          refine q_getI (Sh.int hI702.1 kx_176 rfl) v723 (((hF703.1 176 4 mf_X5_isWord_176_176_4).trans ((hF694.1 176 4 mf_X5_isWord_176_176_4).trans (hF685.1 176 4 mf_X5_isWord_176_176_4))).trans hv723) ?_
          refine q_putI (Sh.int hI702.1 kx_176 rfl) rfl ?_
          have hI724 := HI.wI0 hI702 kx_176 rfl (p := 176) (b := 2) (v := v723) rfl
          have hF725 := Fr.wI (p := 176) (b := 2) (v := v723) hF706 rfl
          refine Ar.fall 16 rfl ?_
          refine At.enter rfl ?_
          refine q_vret ?_
          refine At.enter rfl ?_
          refine r_vret ?_
          have x726 := rX.e hI724 (b := 2) ((gI_sI_eq hI702.1 kx_176 rfl _))
          have x727 := rX.e hI0 (b := 2) (hv711)
          have x728 := rX.e hI724 (b := 4) ((((gI_sI_ne (by decide)).trans ((hF703.1 176 4 mf_X5_isWord_176_176_4).trans ((hF694.1 176 4 mf_X5_isWord_176_176_4).trans (hF685.1 176 4 mf_X5_isWord_176_176_4)))).trans hv723))
          have x729 := rX.e hI0 (b := 4) (hv723)
          obtain ⟨v730, hv730⟩ : ∃ v, gI g0 176 6 = v := ⟨_, rfl⟩
          have tv730 := congrArg Int32.toInt hv730
          have x731 := rX.e hI724 (b := 6) ((((gI_sI_ne (by decide)).trans ((hF703.1 176 6 mf_X5_isWord_176_176_6).trans ((hF694.1 176 6 mf_X5_isWord_176_176_6).trans (hF685.1 176 6 mf_X5_isWord_176_176_6)))).trans hv730))
          have x732 := rX.e hI0 (b := 6) (hv730)
          have x733 := kX.e hI0 (hv710)
          have x734 := kX.e hI724 ((((gI_sI_ne (by decide)).trans ((hF703.1 177 3 mf_X5_isWord_176_177_3).trans ((hF694.1 177 3 mf_X5_isWord_176_177_3).trans (hF685.1 177 3 mf_X5_isWord_176_177_3)))).trans hv710))
          exact ⟨_, rfl, hI724, hF725, rfl, ⟨⟨(TKX.c hT (((gA_sI).trans ((hF703.2.1 175 ma_X5_isWord_176_175).trans ((hF694.2.1 175 ma_X5_isWord_176_175).trans (hF685.2.1 175 ma_X5_isWord_176_175))))) (((gI_sI_ne (by decide)).trans ((hF703.1 174 1 mf_X5_isWord_176_174_1).trans ((hF694.1 174 1 mf_X5_isWord_176_174_1).trans (hF685.1 174 1 mf_X5_isWord_176_174_1))))) (((gI_sI_ne (by decide)).trans ((hF703.1 176 3 mf_X5_isWord_176_176_3).trans ((hF694.1 176 3 mf_X5_isWord_176_176_3).trans (hF685.1 176 3 mf_X5_isWord_176_176_3))))) (((gI_sI_ne (by decide)).trans ((hF703.1 176 4 mf_X5_isWord_176_176_4).trans ((hF694.1 176 4 mf_X5_isWord_176_176_4).trans (hF685.1 176 4 mf_X5_isWord_176_176_4))))) (((gI_sI_ne (by decide)).trans ((hF703.1 176 5 mf_X5_isWord_176_176_5).trans ((hF694.1 176 5 mf_X5_isWord_176_176_5).trans (hF685.1 176 5 mf_X5_isWord_176_176_5)))))), (PRG0.fail 1 (rX.c (b := 4) (((gI_sI_ne (by decide)).trans ((hF703.1 176 4 mf_X5_isWord_176_176_4).trans ((hF694.1 176 4 mf_X5_isWord_176_176_4).trans (hF685.1 176 4 mf_X5_isWord_176_176_4)))))) (fun _ => by omega) (fun _ => by omega) (by omega)).le (by omega), fun c0 h => h.fail (fun _ => S.clsF (TKX.some hT).choose_spec (by omega)) (fun _ => by omega) (fun _ => by omega) (by omega)⟩, (fun hz => absurd hz (by omega)), (SPP_same (((gI_sI_ne (by decide)).trans ((hF703.1 177 4 mf_X5_isWord_176_177_4).trans ((hF694.1 177 4 mf_X5_isWord_176_177_4).trans (hF685.1 177 4 mf_X5_isWord_176_177_4))))) (((gA_sI).trans ((hF703.2.1 180 ma_X5_isWord_176_180).trans ((hF694.2.1 180 ma_X5_isWord_176_180).trans (hF685.2.1 180 ma_X5_isWord_176_180))))) (((gI_sI_ne (by decide)).trans ((hF703.1 177 3 mf_X5_isWord_176_177_3).trans ((hF694.1 177 3 mf_X5_isWord_176_177_3).trans (hF685.1 177 3 mf_X5_isWord_176_177_3))))))⟩⟩
      · have c708_ : v704.toInt ≠ 0 := en_k_eq_f c708
        have i735 := BL.yes hb707 (by omega)
        refine At.enter rfl ?_
        refine r_iconst 2 rfl ?_
        refine r_goto ?_
        refine At.enter rfl ?_
        refine r_istore_n ([(1, .int 2), (0, .ref 176)]) rfl ?_
        refine r_aload_n rfl ?_
        refine q_getR (Sh.ref hI702.1 kx_176 rfl) ?_
        obtain ⟨v736, hv736⟩ : ∃ v, gI g0 177 3 = v := ⟨_, rfl⟩
        have rv736 := RgF.at hI0.2.1 (p := 177) (b := 3) rfl
        rw [hv736] at rv736
        dsimp only at rv736
        refine q_getI (Sh.int hI702.1 kx_177 rfl) v736 (((hF703.1 177 3 mf_X5_isWord_176_177_3).trans ((hF694.1 177 3 mf_X5_isWord_176_177_3).trans (hF685.1 177 3 mf_X5_isWord_176_177_3))).trans hv736) ?_
        refine r_istore_n ([(2, .int v736), (1, .int 2), (0, .ref 176)]) rfl ?_
        refine r_iload_n rfl ?_
        refine r_iconst (-1) rfl ?_
        refine r_icf 54 rfl (by decide) ?_
        refine At.enter rfl ?_
        refine r_iload_n rfl ?_
        refine r_bipush 12 rfl ?_
        refine r_ics 60 rfl (fun c737 => ?_) (fun c737 => ?_)
        · have c737_ : v736.toInt < 12 := en_i_lt_t c737
          refine At.enter rfl ?_
          refine r_aload_n rfl ?_
          refine r_callV 69 rfl [.ref 176] [] (Nat.le_of_ble_eq_true rfl) rfl (T_X5_step_176 _ hI702 (TKX.c hT (((hF703.2.1 175 ma_X5_isWord_176_175).trans ((hF694.2.1 175 ma_X5_isWord_176_175).trans (hF685.2.1 175 ma_X5_isWord_176_175)))) (((hF703.1 174 1 mf_X5_isWord_176_174_1).trans ((hF694.1 174 1 mf_X5_isWord_176_174_1).trans (hF685.1 174 1 mf_X5_isWord_176_174_1)))) (((hF703.1 176 3 mf_X5_isWord_176_176_3).trans ((hF694.1 176 3 mf_X5_isWord_176_176_3).trans (hF685.1 176 3 mf_X5_isWord_176_176_3)))) (((hF703.1 176 4 mf_X5_isWord_176_176_4).trans ((hF694.1 176 4 mf_X5_isWord_176_176_4).trans (hF685.1 176 4 mf_X5_isWord_176_176_4)))) (((hF703.1 176 5 mf_X5_isWord_176_176_5).trans ((hF694.1 176 5 mf_X5_isWord_176_176_5).trans (hF685.1 176 5 mf_X5_isWord_176_176_5))))).1 (TKX.c hT (((hF703.2.1 175 ma_X5_isWord_176_175).trans ((hF694.2.1 175 ma_X5_isWord_176_175).trans (hF685.2.1 175 ma_X5_isWord_176_175)))) (((hF703.1 174 1 mf_X5_isWord_176_174_1).trans ((hF694.1 174 1 mf_X5_isWord_176_174_1).trans (hF685.1 174 1 mf_X5_isWord_176_174_1)))) (((hF703.1 176 3 mf_X5_isWord_176_176_3).trans ((hF694.1 176 3 mf_X5_isWord_176_176_3).trans (hF685.1 176 3 mf_X5_isWord_176_176_3)))) (((hF703.1 176 4 mf_X5_isWord_176_176_4).trans ((hF694.1 176 4 mf_X5_isWord_176_176_4).trans (hF685.1 176 4 mf_X5_isWord_176_176_4)))) (((hF703.1 176 5 mf_X5_isWord_176_176_5).trans ((hF694.1 176 5 mf_X5_isWord_176_176_5).trans (hF685.1 176 5 mf_X5_isWord_176_176_5))))).2.1.le.2.1) ?_
          rintro _ _ ⟨g738, rfl, hI739, hF740, rfl, hr742⟩
          refine At.stn ?_
          have hF743 := Fr.tr hF706 hF740 rfl rfl
          have tok744_ := hr742.2
          rw [TX.c (((hF703.2.1 175 ma_X5_isWord_176_175).trans ((hF694.2.1 175 ma_X5_isWord_176_175).trans (hF685.2.1 175 ma_X5_isWord_176_175)))), nX.c (((hF703.1 174 1 mf_X5_isWord_176_174_1).trans ((hF694.1 174 1 mf_X5_isWord_176_174_1).trans (hF685.1 174 1 mf_X5_isWord_176_174_1)))), rX.c (b := 5) (((hF703.1 176 5 mf_X5_isWord_176_176_5).trans ((hF694.1 176 5 mf_X5_isWord_176_176_5).trans (hF685.1 176 5 mf_X5_isWord_176_176_5))))] at tok744_
          have tok744 := TKX.tok hT tok744_
          have hT745 := hr742.1
          obtain ⟨v746, hv746⟩ : ∃ v, gI g0 176 4 = v := ⟨_, rfl⟩
          have rv746 := RgF.at hI0.2.1 (p := 176) (b := 4) rfl
          rw [hv746] at rv746
          dsimp only at rv746
          have tv746 := congrArg Int32.toInt hv746
          have x747 := rX.e hI702 (b := 4) ((((hF703.1 176 4 mf_X5_isWord_176_176_4).trans ((hF694.1 176 4 mf_X5_isWord_176_176_4).trans (hF685.1 176 4 mf_X5_isWord_176_176_4))).trans hv746))
          obtain ⟨v748, hv748⟩ : ∃ v, gI g738 176 4 = v := ⟨_, rfl⟩
          have rv748 := RgF.at hI739.2.1 (p := 176) (b := 4) rfl
          rw [hv748] at rv748
          dsimp only at rv748
          have tv748 := congrArg Int32.toInt hv748
          have x749 := rX.e hI739 (b := 4) (hv748)
          refine At.enter rfl ?_
          refine r_aload_n rfl ?_
          refine q_getR (Sh.ref hI739.1 kx_176 rfl) ?_
          refine r_iload_n rfl ?_
          refine r_iconst 1 rfl ?_
          refine q_iadd (v736.toInt + 1) rfl (by omega) (fun v750 hv750 => ?_)
          refine q_putI (Sh.int hI739.1 kx_177 rfl) rfl ?_
          have hI751 := HI.wI1 hI739 kx_177 rfl (p := 177) (b := 3) (v := v750) rfl (by dsimp only; omega)
          have hF752 := Fr.wI (p := 177) (b := 3) (v := v750) hF743 rfl
          refine r_aload_n rfl ?_
          refine q_getR (Sh.ref hI751.1 kx_176 rfl) ?_
          refine q_getR (Sh.ref hI751.1 kx_177 rfl) ?_
          refine r_iload_n rfl ?_
          refine r_iload_n rfl ?_
          refine q_iast (Sh.arr hI751.1 ka_180) (v736.toInt) rfl (by omega) ?_
          have hI753 := HI.wA0 hI751 ka_180 (p := 180) rfl rfl (v736.toInt) (2)
          have hF754 := Fr.wA (p := 180) (j := v736.toInt) (v := 2) hF752 rfl
          refine r_aload_n rfl ?_
          refine q_getR (Sh.ref hI753.1 kx_176 rfl) ?_
          refine r_dup rfl ?_
          obtain ⟨v755, hv755⟩ : ∃ v, gI g0 177 4 = v := ⟨_, rfl⟩
          refine q_getI (Sh.int hI753.1 kx_177 rfl) v755 (((gI_sW).trans ((gI_sI_ne (by decide)).trans ((hF740.1 177 4 mf_X5_step_176_177_4).trans ((hF703.1 177 4 mf_X5_isWord_176_177_4).trans ((hF694.1 177 4 mf_X5_isWord_176_177_4).trans (hF685.1 177 4 mf_X5_isWord_176_177_4)))))).trans hv755) ?_
          refine r_iconst 1 rfl ?_
          refine r_iload_n rfl ?_
          refine r_ishl 4 (by decide) ?_
          refine q_iorO (fun v756 hv756 => ?_)
          refine q_putI (Sh.int hI753.1 kx_177 rfl) rfl ?_
          have hI757 := HI.wI0 hI753 kx_177 rfl (p := 177) (b := 4) (v := v756) rfl
          have hF758 := Fr.wI (p := 177) (b := 4) (v := v756) hF754 rfl
          refine r_aload_n rfl ?_
          refine q_getR (Sh.ref hI757.1 kx_176 rfl) ?_
          refine q_getR (Sh.ref hI757.1 kx_177 rfl) ?_
          refine r_iload_n rfl ?_
          refine r_aload_n rfl ?_
          refine q_getR (Sh.ref hI757.1 kx_176 rfl) ?_
          obtain ⟨v759, hv759⟩ : ∃ v, gI g0 177 0 = v := ⟨_, rfl⟩
          have rv759 := RgF.at hI0.2.1 (p := 177) (b := 0) rfl
          rw [hv759] at rv759
          dsimp only at rv759
          refine q_getI (Sh.int hI757.1 kx_177 rfl) v759 (((gI_sI_ne (by decide)).trans ((gI_sW).trans ((gI_sI_ne (by decide)).trans ((hF740.1 177 0 mf_X5_step_176_177_0).trans ((hF703.1 177 0 mf_X5_isWord_176_177_0).trans ((hF694.1 177 0 mf_X5_isWord_176_177_0).trans (hF685.1 177 0 mf_X5_isWord_176_177_0))))))).trans hv759) ?_
          refine q_iast (Sh.arr hI757.1 ka_181) (v736.toInt) rfl (by omega) ?_
          have hI760 := HI.wA0 hI757 ka_181 (p := 181) rfl rfl (v736.toInt) (v759)
          have hF761 := Fr.wA (p := 181) (j := v736.toInt) (v := v759) hF758 rfl
          refine r_iload_n rfl ?_
          refine r_iconst 2 rfl ?_
          refine r_ict (by decide) ?_
          refine At.enter rfl ?_
          refine r_aload_n rfl ?_
          refine q_getR (Sh.ref hI760.1 kx_176 rfl) ?_
          refine q_getR (Sh.ref hI760.1 kx_177 rfl) ?_
          refine r_iload_n rfl ?_
          refine r_aload_n rfl ?_
          refine q_getR (Sh.ref hI760.1 kx_176 rfl) ?_
          refine q_getI (Sh.int hI760.1 kx_177 rfl) v759 (((gI_sW).trans ((gI_sI_ne (by decide)).trans ((gI_sW).trans ((gI_sI_ne (by decide)).trans ((hF740.1 177 0 mf_X5_step_176_177_0).trans ((hF703.1 177 0 mf_X5_isWord_176_177_0).trans ((hF694.1 177 0 mf_X5_isWord_176_177_0).trans (hF685.1 177 0 mf_X5_isWord_176_177_0)))))))).trans hv759) ?_
          refine q_iast (Sh.arr hI760.1 ka_182) (v736.toInt) rfl (by omega) ?_
          have hI762 := HI.wA0 hI760 ka_182 (p := 182) rfl rfl (v736.toInt) (v759)
          have hF763 := Fr.wA (p := 182) (j := v736.toInt) (v := v759) hF761 rfl
          refine r_aload_n rfl ?_
          obtain ⟨v764, hv764⟩ : ∃ v, gI g0 176 2 = v := ⟨_, rfl⟩
          refine q_getI (Sh.int hI762.1 kx_176 rfl) v764 (((gI_sW).trans ((gI_sW).trans ((gI_sI_ne (by decide)).trans ((gI_sW).trans ((gI_sI_ne (by decide)).trans ((hF740.1 176 2 mf_X5_step_176_176_2).trans ((hF703.1 176 2 mf_X5_isWord_176_176_2).trans ((hF694.1 176 2 mf_X5_isWord_176_176_2).trans (hF685.1 176 2 mf_X5_isWord_176_176_2))))))))).trans hv764) ?_
          refine r_iconst (-1) rfl ?_
          refine r_ics 155 rfl (fun c765 => ?_) (fun c765 => ?_)
          · have c765_ : v764.toInt ≠ (-1) := en_i_ne_t c765
            refine At.enter rfl ?_
            refine r_aload_n rfl ?_
            refine q_getR (Sh.ref hI762.1 kx_176 rfl) ?_
            refine q_getR (Sh.ref hI762.1 kx_177 rfl) ?_
            refine r_iload_n rfl ?_
            refine r_aload_n rfl ?_
            refine q_getR (Sh.ref hI762.1 kx_176 rfl) ?_
            refine q_getI (Sh.int hI762.1 kx_177 rfl) v759 (((gI_sW).trans ((gI_sW).trans ((gI_sI_ne (by decide)).trans ((gI_sW).trans ((gI_sI_ne (by decide)).trans ((hF740.1 177 0 mf_X5_step_176_177_0).trans ((hF703.1 177 0 mf_X5_isWord_176_177_0).trans ((hF694.1 177 0 mf_X5_isWord_176_177_0).trans (hF685.1 177 0 mf_X5_isWord_176_177_0))))))))).trans hv759) ?_
            refine q_iast (Sh.arr hI762.1 ka_183) (v736.toInt) rfl (by omega) ?_
            have hI766 := HI.wA0 hI762 ka_183 (p := 183) rfl rfl (v736.toInt) (v759)
            have hF767 := Fr.wA (p := 183) (j := v736.toInt) (v := v759) hF763 rfl
            refine r_vret ?_
            have x768 := rX.e hI766 (b := 2) ((((gI_sW).trans ((gI_sW).trans ((gI_sW).trans ((gI_sI_ne (by decide)).trans ((gI_sW).trans ((gI_sI_ne (by decide)).trans ((hF740.1 176 2 mf_X5_step_176_176_2).trans ((hF703.1 176 2 mf_X5_isWord_176_176_2).trans ((hF694.1 176 2 mf_X5_isWord_176_176_2).trans (hF685.1 176 2 mf_X5_isWord_176_176_2)))))))))).trans hv764))
            have x769 := rX.e hI0 (b := 2) (hv764)
            have x770 := rX.e hI766 (b := 4) ((((gI_sW).trans ((gI_sW).trans ((gI_sW).trans ((gI_sI_ne (by decide)).trans ((gI_sW).trans (gI_sI_ne (by decide))))))).trans hv748))
            have x771 := rX.e hI0 (b := 4) (hv746)
            obtain ⟨v772, hv772⟩ : ∃ v, gI g0 176 6 = v := ⟨_, rfl⟩
            have tv772 := congrArg Int32.toInt hv772
            have x773 := rX.e hI766 (b := 6) ((((gI_sW).trans ((gI_sW).trans ((gI_sW).trans ((gI_sI_ne (by decide)).trans ((gI_sW).trans ((gI_sI_ne (by decide)).trans ((hF740.1 176 6 mf_X5_step_176_176_6).trans ((hF703.1 176 6 mf_X5_isWord_176_176_6).trans ((hF694.1 176 6 mf_X5_isWord_176_176_6).trans (hF685.1 176 6 mf_X5_isWord_176_176_6)))))))))).trans hv772))
            have x774 := rX.e hI0 (b := 6) (hv772)
            have x775 := rX.e hI739 (b := 2) ((((hF740.1 176 2 mf_X5_step_176_176_2).trans ((hF703.1 176 2 mf_X5_isWord_176_176_2).trans ((hF694.1 176 2 mf_X5_isWord_176_176_2).trans (hF685.1 176 2 mf_X5_isWord_176_176_2)))).trans hv764))
            have x776 := rX.e hI739 (b := 4) (hv748)
            have x777 := kX.e hI0 (hv736)
            have x778 := kX.e hI766 (((gI_sW).trans ((gI_sW).trans ((gI_sW).trans ((gI_sI_ne (by decide)).trans ((gI_sW).trans (gI_sI_eq hI739.1 kx_177 rfl _)))))))
            have x779 := rX.e hI739 (b := 2) ((((hF740.1 176 2 mf_X5_step_176_176_2).trans ((hF703.1 176 2 mf_X5_isWord_176_176_2).trans ((hF694.1 176 2 mf_X5_isWord_176_176_2).trans (hF685.1 176 2 mf_X5_isWord_176_176_2)))).trans hv764))
            have x780 := rX.e hI739 (b := 4) (hv748)
            have x781 := rX.e hI739 (b := 6) ((((hF740.1 176 6 mf_X5_step_176_176_6).trans ((hF703.1 176 6 mf_X5_isWord_176_176_6).trans ((hF694.1 176 6 mf_X5_isWord_176_176_6).trans (hF685.1 176 6 mf_X5_isWord_176_176_6)))).trans hv772))
            have y782 : lX g0 = v759.toInt := congrArg Int32.toInt (hv759)
            have y783 : lX g738 = v759.toInt := congrArg Int32.toInt ((((hF740.1 177 0 mf_X5_step_176_177_0).trans ((hF703.1 177 0 mf_X5_isWord_176_177_0).trans ((hF694.1 177 0 mf_X5_isWord_176_177_0).trans (hF685.1 177 0 mf_X5_isWord_176_177_0)))).trans hv759))
            have y784 := lX.e hI766 ((((gI_sW).trans ((gI_sW).trans ((gI_sW).trans ((gI_sI_ne (by decide)).trans ((gI_sW).trans ((gI_sI_ne (by decide)).trans ((hF740.1 177 0 mf_X5_step_176_177_0).trans ((hF703.1 177 0 mf_X5_isWord_176_177_0).trans ((hF694.1 177 0 mf_X5_isWord_176_177_0).trans (hF685.1 177 0 mf_X5_isWord_176_177_0)))))))))).trans hv759))
            have zv785 : (0 : Int32).toInt = 0 := rfl
            have zv786 : (1 : Int32).toInt = 1 := rfl
            have zv787 : (2 : Int32).toInt = 2 := rfl
            have y788 : (gI g0 177 3).toInt = v736.toInt := congrArg Int32.toInt (hv736)
            have y789 := HI.eqI hI766 (p := 177) (b := 3) (((gI_sW).trans ((gI_sW).trans ((gI_sW).trans ((gI_sI_ne (by decide)).trans ((gI_sW).trans (gI_sI_eq hI739.1 kx_177 rfl _)))))))
            have y790 : (gI g0 177 3).toInt = v736.toInt := congrArg Int32.toInt (hv736)
            have y791 := HI.eqI hI766 (p := 177) (b := 3) (((gI_sW).trans ((gI_sW).trans ((gI_sW).trans ((gI_sI_ne (by decide)).trans ((gI_sW).trans (gI_sI_eq hI739.1 kx_177 rfl _)))))))
            exact ⟨_, rfl, hI766, hF767, rfl, ⟨⟨(TKX.c hT745 (((gA_sA_ne (by decide)).trans ((gA_sA_ne (by decide)).trans ((gA_sA_ne (by decide)).trans ((gA_sI).trans ((gA_sA_ne (by decide)).trans (gA_sI))))))) (((gI_sW).trans ((gI_sW).trans ((gI_sW).trans ((gI_sI_ne (by decide)).trans ((gI_sW).trans (gI_sI_ne (by decide)))))))) (((gI_sW).trans ((gI_sW).trans ((gI_sW).trans ((gI_sI_ne (by decide)).trans ((gI_sW).trans (gI_sI_ne (by decide)))))))) (((gI_sW).trans ((gI_sW).trans ((gI_sW).trans ((gI_sI_ne (by decide)).trans ((gI_sW).trans (gI_sI_ne (by decide)))))))) (((gI_sW).trans ((gI_sW).trans ((gI_sW).trans ((gI_sI_ne (by decide)).trans ((gI_sW).trans (gI_sI_ne (by decide))))))))), ((PRG0.tr (PRG0.step hT tok744_ (rX.c (b := 2) (((hF740.1 176 2 mf_X5_step_176_176_2).trans ((hF703.1 176 2 mf_X5_isWord_176_176_2).trans ((hF694.1 176 2 mf_X5_isWord_176_176_2).trans (hF685.1 176 2 mf_X5_isWord_176_176_2)))))) (by omega)) (PRG0.eq (rX.c (b := 4) (((gI_sW).trans ((gI_sW).trans ((gI_sW).trans ((gI_sI_ne (by decide)).trans ((gI_sW).trans (gI_sI_ne (by decide))))))))) (rX.c (b := 2) (((gI_sW).trans ((gI_sW).trans ((gI_sW).trans ((gI_sI_ne (by decide)).trans ((gI_sW).trans (gI_sI_ne (by decide)))))))))))).le (by omega), fun c0 h => by have h1 : CST (TX g0) (nX g0) c0 g738 7 [] (kX g0 + 1) := CLX.head h (fun _ => S.clsB tok744 (by omega) (by omega) rfl) (rX.c (b := 2) (((hF740.1 176 2 mf_X5_step_176_176_2).trans ((hF703.1 176 2 mf_X5_isWord_176_176_2).trans ((hF694.1 176 2 mf_X5_isWord_176_176_2).trans (hF685.1 176 2 mf_X5_isWord_176_176_2)))))) (rX.c (b := 6) (((hF740.1 176 6 mf_X5_step_176_176_6).trans ((hF703.1 176 6 mf_X5_isWord_176_176_6).trans ((hF694.1 176 6 mf_X5_isWord_176_176_6).trans (hF685.1 176 6 mf_X5_isWord_176_176_6)))))); have h6 : CST (TX g0) (nX g0) c0 g738 8 [] (kX g0 + 1) := (by first | exact h1.bad (by omega) rfl | exact h1.eps (fun _ => S.noif (TKX.someC hT745 (((hF740.2.1 175 ma_X5_step_176_175).trans ((hF703.2.1 175 ma_X5_isWord_176_175).trans ((hF694.2.1 175 ma_X5_isWord_176_175).trans (hF685.2.1 175 ma_X5_isWord_176_175))))) (((hF740.1 174 1 mf_X5_step_176_174_1).trans ((hF703.1 174 1 mf_X5_isWord_176_174_1).trans ((hF694.1 174 1 mf_X5_isWord_176_174_1).trans (hF685.1 174 1 mf_X5_isWord_176_174_1)))))).choose_spec (by omega))); rw [x778]; rw [show (kX g0 + 1 : Int) = v750.toInt from by omega] at h6; exact h6.eq (rX.c (b := 2) (((gI_sW).trans ((gI_sW).trans ((gI_sW).trans ((gI_sI_ne (by decide)).trans ((gI_sW).trans (gI_sI_ne (by decide))))))))) (rX.c (b := 4) (((gI_sW).trans ((gI_sW).trans ((gI_sW).trans ((gI_sI_ne (by decide)).trans ((gI_sW).trans (gI_sI_ne (by decide))))))))) (rX.c (b := 6) (((gI_sW).trans ((gI_sW).trans ((gI_sW).trans ((gI_sI_ne (by decide)).trans ((gI_sW).trans (gI_sI_ne (by decide)))))))))⟩, (by first | exact (fun hz => absurd hz (by omega)) | exact CGX_b tok744 (by omega) (Int.le_of_lt (TOK_lt tok744 (by omega))) (SCX.x (SCX.mk (((hF740.2.1 178 ma_X5_step_176_178).trans ((hF703.2.1 178 ma_X5_isWord_176_178).trans ((hF694.2.1 178 ma_X5_isWord_176_178).trans (hF685.2.1 178 ma_X5_isWord_176_178))))) (((hF740.2.1 179 ma_X5_step_176_179).trans ((hF703.2.1 179 ma_X5_isWord_176_179).trans ((hF694.2.1 179 ma_X5_isWord_176_179).trans (hF685.2.1 179 ma_X5_isWord_176_179))))) (((hF740.1 177 0 mf_X5_step_176_177_0).trans ((hF703.1 177 0 mf_X5_isWord_176_177_0).trans ((hF694.1 177 0 mf_X5_isWord_176_177_0).trans (hF685.1 177 0 mf_X5_isWord_176_177_0)))))) (rX.c (b := 6) (((hF740.1 176 6 mf_X5_step_176_176_6).trans ((hF703.1 176 6 mf_X5_isWord_176_176_6).trans ((hF694.1 176 6 mf_X5_isWord_176_176_6).trans (hF685.1 176 6 mf_X5_isWord_176_176_6))))))) (TKX.someC hT745 (((hF740.2.1 175 ma_X5_step_176_175).trans ((hF703.2.1 175 ma_X5_isWord_176_175).trans ((hF694.2.1 175 ma_X5_isWord_176_175).trans (hF685.2.1 175 ma_X5_isWord_176_175))))) (((hF740.1 174 1 mf_X5_step_176_174_1).trans ((hF703.1 174 1 mf_X5_isWord_176_174_1).trans ((hF694.1 174 1 mf_X5_isWord_176_174_1).trans (hF685.1 174 1 mf_X5_isWord_176_174_1)))))).choose_spec (fun _ => by omega) (SCX.x (SCX.mk (((gA_sA_ne (by decide)).trans ((gA_sA_ne (by decide)).trans ((gA_sA_ne (by decide)).trans ((gA_sI).trans ((gA_sA_ne (by decide)).trans (gA_sI))))))) (((gA_sA_ne (by decide)).trans ((gA_sA_ne (by decide)).trans ((gA_sA_ne (by decide)).trans ((gA_sI).trans ((gA_sA_ne (by decide)).trans (gA_sI))))))) (((gI_sW).trans ((gI_sW).trans ((gI_sW).trans ((gI_sI_ne (by decide)).trans ((gI_sW).trans (gI_sI_ne (by decide))))))))) (rX.c (b := 6) (((gI_sW).trans ((gI_sW).trans ((gI_sW).trans ((gI_sI_ne (by decide)).trans ((gI_sW).trans (gI_sI_ne (by decide)))))))))) (rX.c (b := 4) (((gI_sW).trans ((gI_sW).trans ((gI_sW).trans ((gI_sI_ne (by decide)).trans ((gI_sW).trans (gI_sI_ne (by decide))))))))) (fun _ => ⟨by show (gI _ 177 3).toInt = (gI g0 177 3).toInt + 1; omega, (by show (eA _ 180 (gI g0 177 3).toInt).toInt = _; rw [show (gI g0 177 3).toInt = v736.toInt by omega]; exact (congrArg Int32.toInt (((eA_c (gA_sA_ne (by decide))).trans ((eA_c (gA_sA_ne (by decide))).trans ((eA_c (gA_sA_ne (by decide))).trans ((eA_c gA_sI).trans (eA_sA_eq hI751.1 ka_180 (by first | rfl | omega) (by first | decide | omega) (by first | decide | omega)))))))).trans (by omega)), (by show (eA _ 181 (gI g0 177 3).toInt).toInt = _; rw [show (gI g0 177 3).toInt = v736.toInt by omega]; exact (congrArg Int32.toInt (((eA_c (gA_sA_ne (by decide))).trans ((eA_c (gA_sA_ne (by decide))).trans (eA_sA_eq hI757.1 ka_181 (by first | rfl | omega) (by first | decide | omega) (by first | decide | omega)))))).trans (by omega)), (by show (eA _ 182 (gI g0 177 3).toInt).toInt = _; rw [show (gI g0 177 3).toInt = v736.toInt by omega]; exact (congrArg Int32.toInt (((eA_c (gA_sA_ne (by decide))).trans (eA_sA_eq hI760.1 ka_182 (by first | rfl | omega) (by first | decide | omega) (by first | decide | omega))))).trans (by omega)), (by show (eA _ 183 (gI g0 177 3).toInt).toInt = _; rw [show (gI g0 177 3).toInt = v736.toInt by omega]; exact (congrArg Int32.toInt ((eA_sA_eq hI762.1 ka_183 (by first | rfl | omega) (by first | decide | omega) (by first | decide | omega)))).trans (by omega)), fun i i0 i1 => by have i2 : i < (gI g0 177 3).toInt := i1; exact ⟨(congrArg Int32.toInt (((eA_c (gA_sA_ne (by decide))).trans ((eA_c (gA_sA_ne (by decide))).trans ((eA_c (gA_sA_ne (by decide))).trans ((eA_c gA_sI).trans ((eA_sA_ne (i := i) hI751.1 ka_180 (by omega) (by omega) (by omega)).trans ((eA_c gA_sI).trans ((eA_c (hF740.2.1 180 ma_X5_step_176_180)).trans ((eA_c (hF703.2.1 180 ma_X5_isWord_176_180)).trans ((eA_c (hF694.2.1 180 ma_X5_isWord_176_180)).trans (eA_c (hF685.2.1 180 ma_X5_isWord_176_180))))))))))))), (congrArg Int32.toInt (((eA_c (gA_sA_ne (by decide))).trans ((eA_c (gA_sA_ne (by decide))).trans ((eA_sA_ne (i := i) hI757.1 ka_181 (by omega) (by omega) (by omega)).trans ((eA_c gA_sI).trans ((eA_c (gA_sA_ne (by decide))).trans ((eA_c gA_sI).trans ((eA_c (hF740.2.1 181 ma_X5_step_176_181)).trans ((eA_c (hF703.2.1 181 ma_X5_isWord_176_181)).trans ((eA_c (hF694.2.1 181 ma_X5_isWord_176_181)).trans (eA_c (hF685.2.1 181 ma_X5_isWord_176_181))))))))))))), (congrArg Int32.toInt (((eA_c (gA_sA_ne (by decide))).trans ((eA_sA_ne (i := i) hI760.1 ka_182 (by omega) (by omega) (by omega)).trans ((eA_c (gA_sA_ne (by decide))).trans ((eA_c gA_sI).trans ((eA_c (gA_sA_ne (by decide))).trans ((eA_c gA_sI).trans ((eA_c (hF740.2.1 182 ma_X5_step_176_182)).trans ((eA_c (hF703.2.1 182 ma_X5_isWord_176_182)).trans ((eA_c (hF694.2.1 182 ma_X5_isWord_176_182)).trans (eA_c (hF685.2.1 182 ma_X5_isWord_176_182))))))))))))), (congrArg Int32.toInt (((eA_sA_ne (i := i) hI762.1 ka_183 (by omega) (by omega) (by omega)).trans ((eA_c (gA_sA_ne (by decide))).trans ((eA_c (gA_sA_ne (by decide))).trans ((eA_c gA_sI).trans ((eA_c (gA_sA_ne (by decide))).trans ((eA_c gA_sI).trans ((eA_c (hF740.2.1 183 ma_X5_step_176_183)).trans ((eA_c (hF703.2.1 183 ma_X5_isWord_176_183)).trans ((eA_c (hF694.2.1 183 ma_X5_isWord_176_183)).trans (eA_c (hF685.2.1 183 ma_X5_isWord_176_183)))))))))))))⟩⟩)), (SPP_new (h := (2 : Int32).toInt) hv755 (((gI_sW).trans ((gI_sW).trans ((gI_sW).trans (gI_sI_eq hI753.1 kx_177 rfl _))))) hv756 (by first | exact Or.inl ⟨rfl, rfl⟩ | exact Or.inr (Or.inl ⟨rfl, rfl⟩) | exact Or.inr (Or.inr ⟨rfl, rfl⟩)) (by show (gI _ 177 3).toInt = (gI g0 177 3).toInt + 1; omega) (by show (eA _ 180 (gI g0 177 3).toInt).toInt = _; rw [show (gI g0 177 3).toInt = v736.toInt by omega]; exact congrArg Int32.toInt (((eA_c (gA_sA_ne (by decide))).trans ((eA_c (gA_sA_ne (by decide))).trans ((eA_c (gA_sA_ne (by decide))).trans ((eA_c gA_sI).trans (eA_sA_eq hI751.1 ka_180 (by first | rfl | omega) (by first | decide | omega) (by first | decide | omega)))))))) (fun i i0 i1 => by have i2 : i < (gI g0 177 3).toInt := i1; exact congrArg Int32.toInt (((eA_c (gA_sA_ne (by decide))).trans ((eA_c (gA_sA_ne (by decide))).trans ((eA_c (gA_sA_ne (by decide))).trans ((eA_c gA_sI).trans ((eA_sA_ne (i := i) hI751.1 ka_180 (by omega) (by omega) (by omega)).trans ((eA_c gA_sI).trans ((eA_c (hF740.2.1 180 ma_X5_step_176_180)).trans ((eA_c (hF703.2.1 180 ma_X5_isWord_176_180)).trans ((eA_c (hF694.2.1 180 ma_X5_isWord_176_180)).trans (eA_c (hF685.2.1 180 ma_X5_isWord_176_180))))))))))))))⟩⟩
          · have c765_ : v764.toInt = (-1) := en_i_ne_f c765
            refine At.enter rfl ?_
            refine r_aload_n rfl ?_
            refine r_ldcS (by decide) 17 rfl ?_
            refine r_callV 161 rfl [.ref 176, .float 17] [] (Nat.le_of_ble_eq_true rfl) rfl (T_X5_isWord_176 _ hI762 17 (by decide) (TKX.c hT745 (((gA_sA_ne (by decide)).trans ((gA_sA_ne (by decide)).trans ((gA_sI).trans ((gA_sA_ne (by decide)).trans (gA_sI)))))) (((gI_sW).trans ((gI_sW).trans ((gI_sI_ne (by decide)).trans ((gI_sW).trans (gI_sI_ne (by decide))))))) (((gI_sW).trans ((gI_sW).trans ((gI_sI_ne (by decide)).trans ((gI_sW).trans (gI_sI_ne (by decide))))))) (((gI_sW).trans ((gI_sW).trans ((gI_sI_ne (by decide)).trans ((gI_sW).trans (gI_sI_ne (by decide))))))) (((gI_sW).trans ((gI_sW).trans ((gI_sI_ne (by decide)).trans ((gI_sW).trans (gI_sI_ne (by decide))))))))) ?_
            rintro _ _ ⟨g792, rfl, hI793, hF794, v795, rfl, hr796⟩
            refine At.sti ?_
            have hF797 := Fr.tr hF763 hF794 rfl rfl
            have hb798 : BL (CDX g738 = 10) v795.toInt := by have z := ISW.code (c := 10) hr796.2 (TKX.c hT745 (((gA_sA_ne (by decide)).trans ((gA_sA_ne (by decide)).trans ((gA_sI).trans ((gA_sA_ne (by decide)).trans (gA_sI)))))) (((gI_sW).trans ((gI_sW).trans ((gI_sI_ne (by decide)).trans ((gI_sW).trans (gI_sI_ne (by decide))))))) (((gI_sW).trans ((gI_sW).trans ((gI_sI_ne (by decide)).trans ((gI_sW).trans (gI_sI_ne (by decide))))))) (((gI_sW).trans ((gI_sW).trans ((gI_sI_ne (by decide)).trans ((gI_sW).trans (gI_sI_ne (by decide))))))) (((gI_sW).trans ((gI_sW).trans ((gI_sI_ne (by decide)).trans ((gI_sW).trans (gI_sI_ne (by decide)))))))) (isWC_d (by omega)) (by decide +kernel); rw [CDX.c (((gA_sA_ne (by decide)).trans ((gA_sA_ne (by decide)).trans ((gA_sI).trans ((gA_sA_ne (by decide)).trans (gA_sI)))))) (((gI_sW).trans ((gI_sW).trans ((gI_sI_ne (by decide)).trans ((gI_sW).trans (gI_sI_ne (by decide))))))) (((gI_sW).trans ((gI_sW).trans ((gI_sI_ne (by decide)).trans ((gI_sW).trans (gI_sI_ne (by decide))))))) (((gI_sW).trans ((gI_sW).trans ((gI_sI_ne (by decide)).trans ((gI_sW).trans (gI_sI_ne (by decide)))))))] at z; exact z
            refine At.enter rfl ?_
            refine r_ifs 164 rfl (fun c799 => ?_) (fun c799 => ?_)
            · have c799_ : v795.toInt = 0 := en_k_eq_t c799
              have i800 := BL.no hb798 (by omega)
              refine At.enter rfl ?_
              refine r_aload_n rfl ?_
              refine q_getR (Sh.ref hI793.1 kx_176 rfl) ?_
              refine q_getR (Sh.ref hI793.1 kx_177 rfl) ?_
              refine r_iload_n rfl ?_
              refine r_aload_n rfl ?_
              refine q_getR (Sh.ref hI793.1 kx_176 rfl) ?_
              refine q_getI (Sh.int hI793.1 kx_177 rfl) v759 (((hF794.1 177 0 mf_X5_isWord_176_177_0).trans ((gI_sW).trans ((gI_sW).trans ((gI_sI_ne (by decide)).trans ((gI_sW).trans ((gI_sI_ne (by decide)).trans ((hF740.1 177 0 mf_X5_step_176_177_0).trans ((hF703.1 177 0 mf_X5_isWord_176_177_0).trans ((hF694.1 177 0 mf_X5_isWord_176_177_0).trans (hF685.1 177 0 mf_X5_isWord_176_177_0)))))))))).trans hv759) ?_
              refine q_iast (Sh.arr hI793.1 ka_183) (v736.toInt) rfl (by omega) ?_
              have hI801 := HI.wA0 hI793 ka_183 (p := 183) rfl rfl (v736.toInt) (v759)
              have hF802 := Fr.wA (p := 183) (j := v736.toInt) (v := v759) hF797 rfl
              refine r_vret ?_
              have x803 := rX.e hI801 (b := 2) ((((gI_sW).trans ((hF794.1 176 2 mf_X5_isWord_176_176_2).trans ((gI_sW).trans ((gI_sW).trans ((gI_sI_ne (by decide)).trans ((gI_sW).trans ((gI_sI_ne (by decide)).trans ((hF740.1 176 2 mf_X5_step_176_176_2).trans ((hF703.1 176 2 mf_X5_isWord_176_176_2).trans ((hF694.1 176 2 mf_X5_isWord_176_176_2).trans (hF685.1 176 2 mf_X5_isWord_176_176_2))))))))))).trans hv764))
              have x804 := rX.e hI0 (b := 2) (hv764)
              have x805 := rX.e hI801 (b := 4) ((((gI_sW).trans ((hF794.1 176 4 mf_X5_isWord_176_176_4).trans ((gI_sW).trans ((gI_sW).trans ((gI_sI_ne (by decide)).trans ((gI_sW).trans (gI_sI_ne (by decide)))))))).trans hv748))
              have x806 := rX.e hI0 (b := 4) (hv746)
              obtain ⟨v807, hv807⟩ : ∃ v, gI g0 176 6 = v := ⟨_, rfl⟩
              have tv807 := congrArg Int32.toInt hv807
              have x808 := rX.e hI801 (b := 6) ((((gI_sW).trans ((hF794.1 176 6 mf_X5_isWord_176_176_6).trans ((gI_sW).trans ((gI_sW).trans ((gI_sI_ne (by decide)).trans ((gI_sW).trans ((gI_sI_ne (by decide)).trans ((hF740.1 176 6 mf_X5_step_176_176_6).trans ((hF703.1 176 6 mf_X5_isWord_176_176_6).trans ((hF694.1 176 6 mf_X5_isWord_176_176_6).trans (hF685.1 176 6 mf_X5_isWord_176_176_6))))))))))).trans hv807))
              have x809 := rX.e hI0 (b := 6) (hv807)
              have x810 := rX.e hI739 (b := 2) ((((hF740.1 176 2 mf_X5_step_176_176_2).trans ((hF703.1 176 2 mf_X5_isWord_176_176_2).trans ((hF694.1 176 2 mf_X5_isWord_176_176_2).trans (hF685.1 176 2 mf_X5_isWord_176_176_2)))).trans hv764))
              have x811 := rX.e hI739 (b := 4) (hv748)
              have x812 := kX.e hI0 (hv736)
              have x813 := kX.e hI801 (((gI_sW).trans ((hF794.1 177 3 mf_X5_isWord_176_177_3).trans ((gI_sW).trans ((gI_sW).trans ((gI_sI_ne (by decide)).trans ((gI_sW).trans (gI_sI_eq hI739.1 kx_177 rfl _))))))))
              have x814 := rX.e hI739 (b := 2) ((((hF740.1 176 2 mf_X5_step_176_176_2).trans ((hF703.1 176 2 mf_X5_isWord_176_176_2).trans ((hF694.1 176 2 mf_X5_isWord_176_176_2).trans (hF685.1 176 2 mf_X5_isWord_176_176_2)))).trans hv764))
              have x815 := rX.e hI739 (b := 4) (hv748)
              have x816 := rX.e hI739 (b := 6) ((((hF740.1 176 6 mf_X5_step_176_176_6).trans ((hF703.1 176 6 mf_X5_isWord_176_176_6).trans ((hF694.1 176 6 mf_X5_isWord_176_176_6).trans (hF685.1 176 6 mf_X5_isWord_176_176_6)))).trans hv807))
              have y817 : lX g0 = v759.toInt := congrArg Int32.toInt (hv759)
              have y818 : lX g738 = v759.toInt := congrArg Int32.toInt ((((hF740.1 177 0 mf_X5_step_176_177_0).trans ((hF703.1 177 0 mf_X5_isWord_176_177_0).trans ((hF694.1 177 0 mf_X5_isWord_176_177_0).trans (hF685.1 177 0 mf_X5_isWord_176_177_0)))).trans hv759))
              have y819 := lX.e hI801 ((((gI_sW).trans ((hF794.1 177 0 mf_X5_isWord_176_177_0).trans ((gI_sW).trans ((gI_sW).trans ((gI_sI_ne (by decide)).trans ((gI_sW).trans ((gI_sI_ne (by decide)).trans ((hF740.1 177 0 mf_X5_step_176_177_0).trans ((hF703.1 177 0 mf_X5_isWord_176_177_0).trans ((hF694.1 177 0 mf_X5_isWord_176_177_0).trans (hF685.1 177 0 mf_X5_isWord_176_177_0))))))))))).trans hv759))
              have zv820 : (0 : Int32).toInt = 0 := rfl
              have zv821 : (1 : Int32).toInt = 1 := rfl
              have zv822 : (2 : Int32).toInt = 2 := rfl
              have y823 : (gI g0 177 3).toInt = v736.toInt := congrArg Int32.toInt (hv736)
              have y824 := HI.eqI hI801 (p := 177) (b := 3) (((gI_sW).trans ((hF794.1 177 3 mf_X5_isWord_176_177_3).trans ((gI_sW).trans ((gI_sW).trans ((gI_sI_ne (by decide)).trans ((gI_sW).trans (gI_sI_eq hI739.1 kx_177 rfl _))))))))
              have y825 : (gI g0 177 3).toInt = v736.toInt := congrArg Int32.toInt (hv736)
              have y826 := HI.eqI hI801 (p := 177) (b := 3) (((gI_sW).trans ((hF794.1 177 3 mf_X5_isWord_176_177_3).trans ((gI_sW).trans ((gI_sW).trans ((gI_sI_ne (by decide)).trans ((gI_sW).trans (gI_sI_eq hI739.1 kx_177 rfl _))))))))
              exact ⟨_, rfl, hI801, hF802, rfl, ⟨⟨(TKX.c hT745 (((gA_sA_ne (by decide)).trans ((hF794.2.1 175 ma_X5_isWord_176_175).trans ((gA_sA_ne (by decide)).trans ((gA_sA_ne (by decide)).trans ((gA_sI).trans ((gA_sA_ne (by decide)).trans (gA_sI)))))))) (((gI_sW).trans ((hF794.1 174 1 mf_X5_isWord_176_174_1).trans ((gI_sW).trans ((gI_sW).trans ((gI_sI_ne (by decide)).trans ((gI_sW).trans (gI_sI_ne (by decide))))))))) (((gI_sW).trans ((hF794.1 176 3 mf_X5_isWord_176_176_3).trans ((gI_sW).trans ((gI_sW).trans ((gI_sI_ne (by decide)).trans ((gI_sW).trans (gI_sI_ne (by decide))))))))) (((gI_sW).trans ((hF794.1 176 4 mf_X5_isWord_176_176_4).trans ((gI_sW).trans ((gI_sW).trans ((gI_sI_ne (by decide)).trans ((gI_sW).trans (gI_sI_ne (by decide))))))))) (((gI_sW).trans ((hF794.1 176 5 mf_X5_isWord_176_176_5).trans ((gI_sW).trans ((gI_sW).trans ((gI_sI_ne (by decide)).trans ((gI_sW).trans (gI_sI_ne (by decide)))))))))), ((PRG0.tr (PRG0.step hT tok744_ (rX.c (b := 2) (((hF740.1 176 2 mf_X5_step_176_176_2).trans ((hF703.1 176 2 mf_X5_isWord_176_176_2).trans ((hF694.1 176 2 mf_X5_isWord_176_176_2).trans (hF685.1 176 2 mf_X5_isWord_176_176_2)))))) (by omega)) (PRG0.eq (rX.c (b := 4) (((gI_sW).trans ((hF794.1 176 4 mf_X5_isWord_176_176_4).trans ((gI_sW).trans ((gI_sW).trans ((gI_sI_ne (by decide)).trans ((gI_sW).trans (gI_sI_ne (by decide)))))))))) (rX.c (b := 2) (((gI_sW).trans ((hF794.1 176 2 mf_X5_isWord_176_176_2).trans ((gI_sW).trans ((gI_sW).trans ((gI_sI_ne (by decide)).trans ((gI_sW).trans (gI_sI_ne (by decide))))))))))))).le (by omega), fun c0 h => by have h1 : CST (TX g0) (nX g0) c0 g738 7 [] (kX g0 + 1) := CLX.head h (fun _ => S.clsB tok744 (by omega) (by omega) rfl) (rX.c (b := 2) (((hF740.1 176 2 mf_X5_step_176_176_2).trans ((hF703.1 176 2 mf_X5_isWord_176_176_2).trans ((hF694.1 176 2 mf_X5_isWord_176_176_2).trans (hF685.1 176 2 mf_X5_isWord_176_176_2)))))) (rX.c (b := 6) (((hF740.1 176 6 mf_X5_step_176_176_6).trans ((hF703.1 176 6 mf_X5_isWord_176_176_6).trans ((hF694.1 176 6 mf_X5_isWord_176_176_6).trans (hF685.1 176 6 mf_X5_isWord_176_176_6)))))); have h6 : CST (TX g0) (nX g0) c0 g738 8 [] (kX g0 + 1) := (by first | exact h1.bad (by omega) rfl | exact h1.eps (fun _ => S.noif (TKX.someC hT745 (((hF740.2.1 175 ma_X5_step_176_175).trans ((hF703.2.1 175 ma_X5_isWord_176_175).trans ((hF694.2.1 175 ma_X5_isWord_176_175).trans (hF685.2.1 175 ma_X5_isWord_176_175))))) (((hF740.1 174 1 mf_X5_step_176_174_1).trans ((hF703.1 174 1 mf_X5_isWord_176_174_1).trans ((hF694.1 174 1 mf_X5_isWord_176_174_1).trans (hF685.1 174 1 mf_X5_isWord_176_174_1)))))).choose_spec (by omega))); rw [x813]; rw [show (kX g0 + 1 : Int) = v750.toInt from by omega] at h6; exact h6.eq (rX.c (b := 2) (((gI_sW).trans ((hF794.1 176 2 mf_X5_isWord_176_176_2).trans ((gI_sW).trans ((gI_sW).trans ((gI_sI_ne (by decide)).trans ((gI_sW).trans (gI_sI_ne (by decide)))))))))) (rX.c (b := 4) (((gI_sW).trans ((hF794.1 176 4 mf_X5_isWord_176_176_4).trans ((gI_sW).trans ((gI_sW).trans ((gI_sI_ne (by decide)).trans ((gI_sW).trans (gI_sI_ne (by decide)))))))))) (rX.c (b := 6) (((gI_sW).trans ((hF794.1 176 6 mf_X5_isWord_176_176_6).trans ((gI_sW).trans ((gI_sW).trans ((gI_sI_ne (by decide)).trans ((gI_sW).trans (gI_sI_ne (by decide))))))))))⟩, (by first | exact (fun hz => absurd hz (by omega)) | exact CGX_b tok744 (by omega) (Int.le_of_lt (TOK_lt tok744 (by omega))) (SCX.x (SCX.mk (((hF740.2.1 178 ma_X5_step_176_178).trans ((hF703.2.1 178 ma_X5_isWord_176_178).trans ((hF694.2.1 178 ma_X5_isWord_176_178).trans (hF685.2.1 178 ma_X5_isWord_176_178))))) (((hF740.2.1 179 ma_X5_step_176_179).trans ((hF703.2.1 179 ma_X5_isWord_176_179).trans ((hF694.2.1 179 ma_X5_isWord_176_179).trans (hF685.2.1 179 ma_X5_isWord_176_179))))) (((hF740.1 177 0 mf_X5_step_176_177_0).trans ((hF703.1 177 0 mf_X5_isWord_176_177_0).trans ((hF694.1 177 0 mf_X5_isWord_176_177_0).trans (hF685.1 177 0 mf_X5_isWord_176_177_0)))))) (rX.c (b := 6) (((hF740.1 176 6 mf_X5_step_176_176_6).trans ((hF703.1 176 6 mf_X5_isWord_176_176_6).trans ((hF694.1 176 6 mf_X5_isWord_176_176_6).trans (hF685.1 176 6 mf_X5_isWord_176_176_6))))))) (TKX.someC hT745 (((hF740.2.1 175 ma_X5_step_176_175).trans ((hF703.2.1 175 ma_X5_isWord_176_175).trans ((hF694.2.1 175 ma_X5_isWord_176_175).trans (hF685.2.1 175 ma_X5_isWord_176_175))))) (((hF740.1 174 1 mf_X5_step_176_174_1).trans ((hF703.1 174 1 mf_X5_isWord_176_174_1).trans ((hF694.1 174 1 mf_X5_isWord_176_174_1).trans (hF685.1 174 1 mf_X5_isWord_176_174_1)))))).choose_spec (fun _ => by omega) (SCX.x (SCX.mk (((gA_sA_ne (by decide)).trans ((hF794.2.1 178 ma_X5_isWord_176_178).trans ((gA_sA_ne (by decide)).trans ((gA_sA_ne (by decide)).trans ((gA_sI).trans ((gA_sA_ne (by decide)).trans (gA_sI)))))))) (((gA_sA_ne (by decide)).trans ((hF794.2.1 179 ma_X5_isWord_176_179).trans ((gA_sA_ne (by decide)).trans ((gA_sA_ne (by decide)).trans ((gA_sI).trans ((gA_sA_ne (by decide)).trans (gA_sI)))))))) (((gI_sW).trans ((hF794.1 177 0 mf_X5_isWord_176_177_0).trans ((gI_sW).trans ((gI_sW).trans ((gI_sI_ne (by decide)).trans ((gI_sW).trans (gI_sI_ne (by decide)))))))))) (rX.c (b := 6) (((gI_sW).trans ((hF794.1 176 6 mf_X5_isWord_176_176_6).trans ((gI_sW).trans ((gI_sW).trans ((gI_sI_ne (by decide)).trans ((gI_sW).trans (gI_sI_ne (by decide))))))))))) (rX.c (b := 4) (((gI_sW).trans ((hF794.1 176 4 mf_X5_isWord_176_176_4).trans ((gI_sW).trans ((gI_sW).trans ((gI_sI_ne (by decide)).trans ((gI_sW).trans (gI_sI_ne (by decide)))))))))) (fun _ => ⟨by show (gI _ 177 3).toInt = (gI g0 177 3).toInt + 1; omega, (by show (eA _ 180 (gI g0 177 3).toInt).toInt = _; rw [show (gI g0 177 3).toInt = v736.toInt by omega]; exact (congrArg Int32.toInt (((eA_c (gA_sA_ne (by decide))).trans ((eA_c (hF794.2.1 180 ma_X5_isWord_176_180)).trans ((eA_c (gA_sA_ne (by decide))).trans ((eA_c (gA_sA_ne (by decide))).trans ((eA_c gA_sI).trans (eA_sA_eq hI751.1 ka_180 (by first | rfl | omega) (by first | decide | omega) (by first | decide | omega))))))))).trans (by omega)), (by show (eA _ 181 (gI g0 177 3).toInt).toInt = _; rw [show (gI g0 177 3).toInt = v736.toInt by omega]; exact (congrArg Int32.toInt (((eA_c (gA_sA_ne (by decide))).trans ((eA_c (hF794.2.1 181 ma_X5_isWord_176_181)).trans ((eA_c (gA_sA_ne (by decide))).trans (eA_sA_eq hI757.1 ka_181 (by first | rfl | omega) (by first | decide | omega) (by first | decide | omega))))))).trans (by omega)), (by show (eA _ 182 (gI g0 177 3).toInt).toInt = _; rw [show (gI g0 177 3).toInt = v736.toInt by omega]; exact (congrArg Int32.toInt (((eA_c (gA_sA_ne (by decide))).trans ((eA_c (hF794.2.1 182 ma_X5_isWord_176_182)).trans (eA_sA_eq hI760.1 ka_182 (by first | rfl | omega) (by first | decide | omega) (by first | decide | omega)))))).trans (by omega)), (by show (eA _ 183 (gI g0 177 3).toInt).toInt = _; rw [show (gI g0 177 3).toInt = v736.toInt by omega]; exact (congrArg Int32.toInt ((eA_sA_eq hI793.1 ka_183 (by first | rfl | omega) (by first | decide | omega) (by first | decide | omega)))).trans (by omega)), fun i i0 i1 => by have i2 : i < (gI g0 177 3).toInt := i1; exact ⟨(congrArg Int32.toInt (((eA_c (gA_sA_ne (by decide))).trans ((eA_c (hF794.2.1 180 ma_X5_isWord_176_180)).trans ((eA_c (gA_sA_ne (by decide))).trans ((eA_c (gA_sA_ne (by decide))).trans ((eA_c gA_sI).trans ((eA_sA_ne (i := i) hI751.1 ka_180 (by omega) (by omega) (by omega)).trans ((eA_c gA_sI).trans ((eA_c (hF740.2.1 180 ma_X5_step_176_180)).trans ((eA_c (hF703.2.1 180 ma_X5_isWord_176_180)).trans ((eA_c (hF694.2.1 180 ma_X5_isWord_176_180)).trans (eA_c (hF685.2.1 180 ma_X5_isWord_176_180)))))))))))))), (congrArg Int32.toInt (((eA_c (gA_sA_ne (by decide))).trans ((eA_c (hF794.2.1 181 ma_X5_isWord_176_181)).trans ((eA_c (gA_sA_ne (by decide))).trans ((eA_sA_ne (i := i) hI757.1 ka_181 (by omega) (by omega) (by omega)).trans ((eA_c gA_sI).trans ((eA_c (gA_sA_ne (by decide))).trans ((eA_c gA_sI).trans ((eA_c (hF740.2.1 181 ma_X5_step_176_181)).trans ((eA_c (hF703.2.1 181 ma_X5_isWord_176_181)).trans ((eA_c (hF694.2.1 181 ma_X5_isWord_176_181)).trans (eA_c (hF685.2.1 181 ma_X5_isWord_176_181)))))))))))))), (congrArg Int32.toInt (((eA_c (gA_sA_ne (by decide))).trans ((eA_c (hF794.2.1 182 ma_X5_isWord_176_182)).trans ((eA_sA_ne (i := i) hI760.1 ka_182 (by omega) (by omega) (by omega)).trans ((eA_c (gA_sA_ne (by decide))).trans ((eA_c gA_sI).trans ((eA_c (gA_sA_ne (by decide))).trans ((eA_c gA_sI).trans ((eA_c (hF740.2.1 182 ma_X5_step_176_182)).trans ((eA_c (hF703.2.1 182 ma_X5_isWord_176_182)).trans ((eA_c (hF694.2.1 182 ma_X5_isWord_176_182)).trans (eA_c (hF685.2.1 182 ma_X5_isWord_176_182)))))))))))))), (congrArg Int32.toInt (((eA_sA_ne (i := i) hI793.1 ka_183 (by omega) (by omega) (by omega)).trans ((eA_c (hF794.2.1 183 ma_X5_isWord_176_183)).trans ((eA_c (gA_sA_ne (by decide))).trans ((eA_c (gA_sA_ne (by decide))).trans ((eA_c gA_sI).trans ((eA_c (gA_sA_ne (by decide))).trans ((eA_c gA_sI).trans ((eA_c (hF740.2.1 183 ma_X5_step_176_183)).trans ((eA_c (hF703.2.1 183 ma_X5_isWord_176_183)).trans ((eA_c (hF694.2.1 183 ma_X5_isWord_176_183)).trans (eA_c (hF685.2.1 183 ma_X5_isWord_176_183))))))))))))))⟩⟩)), (SPP_new (h := (2 : Int32).toInt) hv755 (((gI_sW).trans ((hF794.1 177 4 mf_X5_isWord_176_177_4).trans ((gI_sW).trans ((gI_sW).trans (gI_sI_eq hI753.1 kx_177 rfl _)))))) hv756 (by first | exact Or.inl ⟨rfl, rfl⟩ | exact Or.inr (Or.inl ⟨rfl, rfl⟩) | exact Or.inr (Or.inr ⟨rfl, rfl⟩)) (by show (gI _ 177 3).toInt = (gI g0 177 3).toInt + 1; omega) (by show (eA _ 180 (gI g0 177 3).toInt).toInt = _; rw [show (gI g0 177 3).toInt = v736.toInt by omega]; exact congrArg Int32.toInt (((eA_c (gA_sA_ne (by decide))).trans ((eA_c (hF794.2.1 180 ma_X5_isWord_176_180)).trans ((eA_c (gA_sA_ne (by decide))).trans ((eA_c (gA_sA_ne (by decide))).trans ((eA_c gA_sI).trans (eA_sA_eq hI751.1 ka_180 (by first | rfl | omega) (by first | decide | omega) (by first | decide | omega))))))))) (fun i i0 i1 => by have i2 : i < (gI g0 177 3).toInt := i1; exact congrArg Int32.toInt (((eA_c (gA_sA_ne (by decide))).trans ((eA_c (hF794.2.1 180 ma_X5_isWord_176_180)).trans ((eA_c (gA_sA_ne (by decide))).trans ((eA_c (gA_sA_ne (by decide))).trans ((eA_c gA_sI).trans ((eA_sA_ne (i := i) hI751.1 ka_180 (by omega) (by omega) (by omega)).trans ((eA_c gA_sI).trans ((eA_c (hF740.2.1 180 ma_X5_step_176_180)).trans ((eA_c (hF703.2.1 180 ma_X5_isWord_176_180)).trans ((eA_c (hF694.2.1 180 ma_X5_isWord_176_180)).trans (eA_c (hF685.2.1 180 ma_X5_isWord_176_180)))))))))))))))⟩⟩
            · have c799_ : v795.toInt ≠ 0 := en_k_eq_f c799
              have i827 := BL.yes hb798 (by omega)
              refine At.enter rfl ?_
              refine r_aload_n rfl ?_
              refine r_callV 168 rfl [.ref 176] [] (Nat.le_of_ble_eq_true rfl) rfl (T_X5_step_176 _ hI793 (TKX.c hT745 (((hF794.2.1 175 ma_X5_isWord_176_175).trans ((gA_sA_ne (by decide)).trans ((gA_sA_ne (by decide)).trans ((gA_sI).trans ((gA_sA_ne (by decide)).trans (gA_sI))))))) (((hF794.1 174 1 mf_X5_isWord_176_174_1).trans ((gI_sW).trans ((gI_sW).trans ((gI_sI_ne (by decide)).trans ((gI_sW).trans (gI_sI_ne (by decide)))))))) (((hF794.1 176 3 mf_X5_isWord_176_176_3).trans ((gI_sW).trans ((gI_sW).trans ((gI_sI_ne (by decide)).trans ((gI_sW).trans (gI_sI_ne (by decide)))))))) (((hF794.1 176 4 mf_X5_isWord_176_176_4).trans ((gI_sW).trans ((gI_sW).trans ((gI_sI_ne (by decide)).trans ((gI_sW).trans (gI_sI_ne (by decide)))))))) (((hF794.1 176 5 mf_X5_isWord_176_176_5).trans ((gI_sW).trans ((gI_sW).trans ((gI_sI_ne (by decide)).trans ((gI_sW).trans (gI_sI_ne (by decide))))))))).1 (TKX.c hT745 (((hF794.2.1 175 ma_X5_isWord_176_175).trans ((gA_sA_ne (by decide)).trans ((gA_sA_ne (by decide)).trans ((gA_sI).trans ((gA_sA_ne (by decide)).trans (gA_sI))))))) (((hF794.1 174 1 mf_X5_isWord_176_174_1).trans ((gI_sW).trans ((gI_sW).trans ((gI_sI_ne (by decide)).trans ((gI_sW).trans (gI_sI_ne (by decide)))))))) (((hF794.1 176 3 mf_X5_isWord_176_176_3).trans ((gI_sW).trans ((gI_sW).trans ((gI_sI_ne (by decide)).trans ((gI_sW).trans (gI_sI_ne (by decide)))))))) (((hF794.1 176 4 mf_X5_isWord_176_176_4).trans ((gI_sW).trans ((gI_sW).trans ((gI_sI_ne (by decide)).trans ((gI_sW).trans (gI_sI_ne (by decide)))))))) (((hF794.1 176 5 mf_X5_isWord_176_176_5).trans ((gI_sW).trans ((gI_sW).trans ((gI_sI_ne (by decide)).trans ((gI_sW).trans (gI_sI_ne (by decide))))))))).2.1.le.2.1) ?_
              rintro _ _ ⟨g828, rfl, hI829, hF830, rfl, hr832⟩
              refine At.stn ?_
              have hF833 := Fr.tr hF797 hF830 rfl rfl
              have tok834_ := hr832.2
              rw [TX.c (((hF794.2.1 175 ma_X5_isWord_176_175).trans ((gA_sA_ne (by decide)).trans ((gA_sA_ne (by decide)).trans ((gA_sI).trans ((gA_sA_ne (by decide)).trans (gA_sI))))))), nX.c (((hF794.1 174 1 mf_X5_isWord_176_174_1).trans ((gI_sW).trans ((gI_sW).trans ((gI_sI_ne (by decide)).trans ((gI_sW).trans (gI_sI_ne (by decide)))))))), rX.c (b := 5) (((hF794.1 176 5 mf_X5_isWord_176_176_5).trans ((gI_sW).trans ((gI_sW).trans ((gI_sI_ne (by decide)).trans ((gI_sW).trans (gI_sI_ne (by decide))))))))] at tok834_
              have tok834 := TKX.tok hT745 tok834_
              rw [TX.c (((hF740.2.1 175 ma_X5_step_176_175).trans ((hF703.2.1 175 ma_X5_isWord_176_175).trans ((hF694.2.1 175 ma_X5_isWord_176_175).trans (hF685.2.1 175 ma_X5_isWord_176_175))))), nX.c (((hF740.1 174 1 mf_X5_step_176_174_1).trans ((hF703.1 174 1 mf_X5_isWord_176_174_1).trans ((hF694.1 174 1 mf_X5_isWord_176_174_1).trans (hF685.1 174 1 mf_X5_isWord_176_174_1)))))] at tok834
              have hT835 := hr832.1
              have x836 := rX.e hI793 (b := 4) ((((hF794.1 176 4 mf_X5_isWord_176_176_4).trans ((gI_sW).trans ((gI_sW).trans ((gI_sI_ne (by decide)).trans ((gI_sW).trans (gI_sI_ne (by decide))))))).trans hv748))
              obtain ⟨v837, hv837⟩ : ∃ v, gI g828 176 4 = v := ⟨_, rfl⟩
              have rv837 := RgF.at hI829.2.1 (p := 176) (b := 4) rfl
              rw [hv837] at rv837
              dsimp only at rv837
              have tv837 := congrArg Int32.toInt hv837
              have x838 := rX.e hI829 (b := 4) (hv837)
              refine At.enter rfl ?_
              refine r_aload_n rfl ?_
              refine r_iconst 0 rfl ?_
              refine r_iconst 0 rfl ?_
              have zv839 : (0 : Int32).toInt = 0 := rfl
              have zv840 : (0 : Int32).toInt = 0 := rfl
              refine r_callV 174 rfl [.ref 176, .int 0, .int 0] [] (Nat.le_of_ble_eq_true rfl) rfl (T_X5_readJoined_176 _ hI829 0 (by decide) 0 (by decide) hT835) ?_
              rintro _ _ ⟨g841, rfl, hI842, hF843, rfl, hr845⟩
              refine At.stn ?_
              have hF846 := Fr.tr hF833 hF843 rfl rfl
              have zv847 : (0 : Int32).toInt = 0 := rfl
              have zv848 : (0 : Int32).toInt = 0 := rfl
              have x853 := rX.e hI829 (b := 2) ((((hF830.1 176 2 mf_X5_step_176_176_2).trans ((hF794.1 176 2 mf_X5_isWord_176_176_2).trans ((gI_sW).trans ((gI_sW).trans ((gI_sI_ne (by decide)).trans ((gI_sW).trans ((gI_sI_ne (by decide)).trans ((hF740.1 176 2 mf_X5_step_176_176_2).trans ((hF703.1 176 2 mf_X5_isWord_176_176_2).trans ((hF694.1 176 2 mf_X5_isWord_176_176_2).trans (hF685.1 176 2 mf_X5_isWord_176_176_2))))))))))).trans hv764))
              have x854 := rX.e hI829 (b := 4) (hv837)
              obtain ⟨o849, o850, o851, o852⟩ := hr845.1
              have gx855 := hr845.2
              rw [TX.ci hI829 (((hF830.2.1 175 ma_X5_step_176_175).trans ((hF794.2.1 175 ma_X5_isWord_176_175).trans ((gA_sA_ne (by decide)).trans ((gA_sA_ne (by decide)).trans ((gA_sI).trans ((gA_sA_ne (by decide)).trans ((gA_sI).trans ((hF740.2.1 175 ma_X5_step_176_175).trans ((hF703.2.1 175 ma_X5_isWord_176_175).trans ((hF694.2.1 175 ma_X5_isWord_176_175).trans (hF685.2.1 175 ma_X5_isWord_176_175)))))))))))), nX.ci hI829 (((hF830.1 174 1 mf_X5_step_176_174_1).trans ((hF794.1 174 1 mf_X5_isWord_176_174_1).trans ((gI_sW).trans ((gI_sW).trans ((gI_sI_ne (by decide)).trans ((gI_sW).trans ((gI_sI_ne (by decide)).trans ((hF740.1 174 1 mf_X5_step_176_174_1).trans ((hF703.1 174 1 mf_X5_isWord_176_174_1).trans ((hF694.1 174 1 mf_X5_isWord_176_174_1).trans (hF685.1 174 1 mf_X5_isWord_176_174_1))))))))))))] at gx855
              have o856 := OPD.tc o851 (((hF830.2.1 175 ma_X5_step_176_175).trans ((hF794.2.1 175 ma_X5_isWord_176_175).trans ((gA_sA_ne (by decide)).trans ((gA_sA_ne (by decide)).trans ((gA_sI).trans ((gA_sA_ne (by decide)).trans ((gA_sI).trans ((hF740.2.1 175 ma_X5_step_176_175).trans ((hF703.2.1 175 ma_X5_isWord_176_175).trans ((hF694.2.1 175 ma_X5_isWord_176_175).trans (hF685.2.1 175 ma_X5_isWord_176_175)))))))))))) (((hF830.1 174 1 mf_X5_step_176_174_1).trans ((hF794.1 174 1 mf_X5_isWord_176_174_1).trans ((gI_sW).trans ((gI_sW).trans ((gI_sI_ne (by decide)).trans ((gI_sW).trans ((gI_sI_ne (by decide)).trans ((hF740.1 174 1 mf_X5_step_176_174_1).trans ((hF703.1 174 1 mf_X5_isWord_176_174_1).trans ((hF694.1 174 1 mf_X5_isWord_176_174_1).trans (hF685.1 174 1 mf_X5_isWord_176_174_1))))))))))))
              obtain ⟨v857, hv857⟩ : ∃ v, gI g841 176 2 = v := ⟨_, rfl⟩
              have tv857 := congrArg Int32.toInt hv857
              have x858 := rX.e hI842 (b := 2) (hv857)
              obtain ⟨v859, hv859⟩ : ∃ v, gI g841 176 4 = v := ⟨_, rfl⟩
              have rv859 := RgF.at hI842.2.1 (p := 176) (b := 4) rfl
              rw [hv859] at rv859
              dsimp only at rv859
              have tv859 := congrArg Int32.toInt hv859
              have x860 := rX.e hI842 (b := 4) (hv859)
              refine At.enter rfl ?_
              refine r_aload_n rfl ?_
              refine q_getR (Sh.ref hI842.1 kx_176 rfl) ?_
              refine q_getR (Sh.ref hI842.1 kx_177 rfl) ?_
              refine r_iload_n rfl ?_
              refine r_aload_n rfl ?_
              refine q_getR (Sh.ref hI842.1 kx_176 rfl) ?_
              obtain ⟨v861, hv861⟩ : ∃ v, gI g841 177 0 = v := ⟨_, rfl⟩
              have rv861 := RgF.at hI842.2.1 (p := 177) (b := 0) rfl
              rw [hv861] at rv861
              dsimp only at rv861
              refine q_getI (Sh.int hI842.1 kx_177 rfl) v861 hv861 ?_
              refine q_iast (Sh.arr hI842.1 ka_183) (v736.toInt) rfl (by omega) ?_
              have hI862 := HI.wA0 hI842 ka_183 (p := 183) rfl rfl (v736.toInt) (v861)
              have hF863 := Fr.wA (p := 183) (j := v736.toInt) (v := v861) hF846 rfl
              refine r_vret ?_
              have x864 := rX.e hI862 (b := 2) (((gI_sW).trans hv857))
              have x865 := rX.e hI0 (b := 2) (hv764)
              have x866 := rX.e hI862 (b := 4) (((gI_sW).trans hv859))
              have x867 := rX.e hI0 (b := 4) (hv746)
              obtain ⟨v868, hv868⟩ : ∃ v, gI g841 176 6 = v := ⟨_, rfl⟩
              have tv868 := congrArg Int32.toInt hv868
              have x869 := rX.e hI862 (b := 6) (((gI_sW).trans hv868))
              obtain ⟨v870, hv870⟩ : ∃ v, gI g0 176 6 = v := ⟨_, rfl⟩
              have tv870 := congrArg Int32.toInt hv870
              have x871 := rX.e hI0 (b := 6) (hv870)
              have x872 := rX.e hI739 (b := 2) ((((hF740.1 176 2 mf_X5_step_176_176_2).trans ((hF703.1 176 2 mf_X5_isWord_176_176_2).trans ((hF694.1 176 2 mf_X5_isWord_176_176_2).trans (hF685.1 176 2 mf_X5_isWord_176_176_2)))).trans hv764))
              have x873 := rX.e hI739 (b := 4) (hv748)
              have x874 := rX.e hI829 (b := 2) ((((hF830.1 176 2 mf_X5_step_176_176_2).trans ((hF794.1 176 2 mf_X5_isWord_176_176_2).trans ((gI_sW).trans ((gI_sW).trans ((gI_sI_ne (by decide)).trans ((gI_sW).trans ((gI_sI_ne (by decide)).trans ((hF740.1 176 2 mf_X5_step_176_176_2).trans ((hF703.1 176 2 mf_X5_isWord_176_176_2).trans ((hF694.1 176 2 mf_X5_isWord_176_176_2).trans (hF685.1 176 2 mf_X5_isWord_176_176_2))))))))))).trans hv764))
              have x875 := rX.e hI829 (b := 4) (hv837)
              have x876 := rX.e hI842 (b := 2) (hv857)
              have x877 := rX.e hI842 (b := 4) (hv859)
              have x878 := kX.e hI0 (hv736)
              have x879 := kX.e hI862 (((gI_sW).trans ((hF843.1 177 3 (by decide)).trans ((hF830.1 177 3 mf_X5_step_176_177_3).trans ((hF794.1 177 3 mf_X5_isWord_176_177_3).trans ((gI_sW).trans ((gI_sW).trans ((gI_sI_ne (by decide)).trans ((gI_sW).trans (gI_sI_eq hI739.1 kx_177 rfl _))))))))))
              have pr880 : _ ∧ _ ∧ _ := o850
              have x881 := rX.e hI739 (b := 2) ((((hF740.1 176 2 mf_X5_step_176_176_2).trans ((hF703.1 176 2 mf_X5_isWord_176_176_2).trans ((hF694.1 176 2 mf_X5_isWord_176_176_2).trans (hF685.1 176 2 mf_X5_isWord_176_176_2)))).trans hv764))
              have x882 := rX.e hI739 (b := 4) (hv748)
              have x883 := rX.e hI739 (b := 6) ((((hF740.1 176 6 mf_X5_step_176_176_6).trans ((hF703.1 176 6 mf_X5_isWord_176_176_6).trans ((hF694.1 176 6 mf_X5_isWord_176_176_6).trans (hF685.1 176 6 mf_X5_isWord_176_176_6)))).trans hv870))
              have x884 := rX.e hI829 (b := 2) ((((hF830.1 176 2 mf_X5_step_176_176_2).trans ((hF794.1 176 2 mf_X5_isWord_176_176_2).trans ((gI_sW).trans ((gI_sW).trans ((gI_sI_ne (by decide)).trans ((gI_sW).trans ((gI_sI_ne (by decide)).trans ((hF740.1 176 2 mf_X5_step_176_176_2).trans ((hF703.1 176 2 mf_X5_isWord_176_176_2).trans ((hF694.1 176 2 mf_X5_isWord_176_176_2).trans (hF685.1 176 2 mf_X5_isWord_176_176_2))))))))))).trans hv764))
              have x885 := rX.e hI829 (b := 4) (hv837)
              have x886 := rX.e hI829 (b := 6) ((((hF830.1 176 6 mf_X5_step_176_176_6).trans ((hF794.1 176 6 mf_X5_isWord_176_176_6).trans ((gI_sW).trans ((gI_sW).trans ((gI_sI_ne (by decide)).trans ((gI_sW).trans ((gI_sI_ne (by decide)).trans ((hF740.1 176 6 mf_X5_step_176_176_6).trans ((hF703.1 176 6 mf_X5_isWord_176_176_6).trans ((hF694.1 176 6 mf_X5_isWord_176_176_6).trans (hF685.1 176 6 mf_X5_isWord_176_176_6))))))))))).trans hv870))
              have x887 := rX.e hI842 (b := 2) (hv857)
              have x888 := rX.e hI842 (b := 4) (hv859)
              have x889 := rX.e hI842 (b := 6) (hv868)
              have y890 : lX g0 = v759.toInt := congrArg Int32.toInt (hv759)
              have y891 : lX g738 = v759.toInt := congrArg Int32.toInt ((((hF740.1 177 0 mf_X5_step_176_177_0).trans ((hF703.1 177 0 mf_X5_isWord_176_177_0).trans ((hF694.1 177 0 mf_X5_isWord_176_177_0).trans (hF685.1 177 0 mf_X5_isWord_176_177_0)))).trans hv759))
              have y892 : lX g828 = v759.toInt := congrArg Int32.toInt ((((hF830.1 177 0 mf_X5_step_176_177_0).trans ((hF794.1 177 0 mf_X5_isWord_176_177_0).trans ((gI_sW).trans ((gI_sW).trans ((gI_sI_ne (by decide)).trans ((gI_sW).trans ((gI_sI_ne (by decide)).trans ((hF740.1 177 0 mf_X5_step_176_177_0).trans ((hF703.1 177 0 mf_X5_isWord_176_177_0).trans ((hF694.1 177 0 mf_X5_isWord_176_177_0).trans (hF685.1 177 0 mf_X5_isWord_176_177_0))))))))))).trans hv759))
              have y893 : lX g841 = v861.toInt := congrArg Int32.toInt (hv861)
              have y894 := lX.e hI862 (((gI_sW).trans hv861))
              have zv895 : (0 : Int32).toInt = 0 := rfl
              have zv896 : (1 : Int32).toInt = 1 := rfl
              have zv897 : (2 : Int32).toInt = 2 := rfl
              have y898 : (gI g0 177 3).toInt = v736.toInt := congrArg Int32.toInt (hv736)
              have y899 := HI.eqI hI862 (p := 177) (b := 3) (((gI_sW).trans ((hF843.1 177 3 (by decide)).trans ((hF830.1 177 3 mf_X5_step_176_177_3).trans ((hF794.1 177 3 mf_X5_isWord_176_177_3).trans ((gI_sW).trans ((gI_sW).trans ((gI_sI_ne (by decide)).trans ((gI_sW).trans (gI_sI_eq hI739.1 kx_177 rfl _))))))))))
              have y900 : (gI g0 177 3).toInt = v736.toInt := congrArg Int32.toInt (hv736)
              have y901 := HI.eqI hI862 (p := 177) (b := 3) (((gI_sW).trans ((hF843.1 177 3 (by decide)).trans ((hF830.1 177 3 mf_X5_step_176_177_3).trans ((hF794.1 177 3 mf_X5_isWord_176_177_3).trans ((gI_sW).trans ((gI_sW).trans ((gI_sI_ne (by decide)).trans ((gI_sW).trans (gI_sI_eq hI739.1 kx_177 rfl _))))))))))
              exact ⟨_, rfl, hI862, hF863, rfl, ⟨⟨(TKX.c o849 ((gA_sA_ne (by decide))) ((gI_sW)) ((gI_sW)) ((gI_sW)) ((gI_sW))), ((PRG0.tr ((PRG0.tr ((PRG0.tr (PRG0.step hT tok744_ (rX.c (b := 2) (((hF740.1 176 2 mf_X5_step_176_176_2).trans ((hF703.1 176 2 mf_X5_isWord_176_176_2).trans ((hF694.1 176 2 mf_X5_isWord_176_176_2).trans (hF685.1 176 2 mf_X5_isWord_176_176_2)))))) (by omega)) (PRG0.step hT745 tok834_ (rX.c (b := 2) (((hF830.1 176 2 mf_X5_step_176_176_2).trans ((hF794.1 176 2 mf_X5_isWord_176_176_2).trans ((gI_sW).trans ((gI_sW).trans ((gI_sI_ne (by decide)).trans ((gI_sW).trans (gI_sI_ne (by decide)))))))))) (by omega)))) (o850))) (PRG0.eq (rX.c (b := 4) ((gI_sW))) (rX.c (b := 2) ((gI_sW)))))).le (by omega), fun c0 h => by have h1 : CST (TX g0) (nX g0) c0 g738 7 [] (kX g0 + 1) := CLX.head h (fun _ => S.clsB tok744 (by omega) (by omega) rfl) (rX.c (b := 2) (((hF740.1 176 2 mf_X5_step_176_176_2).trans ((hF703.1 176 2 mf_X5_isWord_176_176_2).trans ((hF694.1 176 2 mf_X5_isWord_176_176_2).trans (hF685.1 176 2 mf_X5_isWord_176_176_2)))))) (rX.c (b := 6) (((hF740.1 176 6 mf_X5_step_176_176_6).trans ((hF703.1 176 6 mf_X5_isWord_176_176_6).trans ((hF694.1 176 6 mf_X5_isWord_176_176_6).trans (hF685.1 176 6 mf_X5_isWord_176_176_6)))))); have h4 := CLX.head h1 (fun _ => S.if_ tok834 (by omega)) (rX.c (b := 2) (((hF830.1 176 2 mf_X5_step_176_176_2).trans ((hF794.1 176 2 mf_X5_isWord_176_176_2).trans ((gI_sW).trans ((gI_sW).trans ((gI_sI_ne (by decide)).trans ((gI_sW).trans (gI_sI_ne (by decide)))))))))) (rX.c (b := 6) (((hF830.1 176 6 mf_X5_step_176_176_6).trans ((hF794.1 176 6 mf_X5_isWord_176_176_6).trans ((gI_sW).trans ((gI_sW).trans ((gI_sI_ne (by decide)).trans ((gI_sW).trans (gI_sI_ne (by decide)))))))))); have h6 := CLX.test o856 h4 (TKX.someC o849 (((hF843.2.1 175 (by decide)).trans ((hF830.2.1 175 ma_X5_step_176_175).trans ((hF794.2.1 175 ma_X5_isWord_176_175).trans ((gA_sA_ne (by decide)).trans ((gA_sA_ne (by decide)).trans ((gA_sI).trans ((gA_sA_ne (by decide)).trans ((gA_sI).trans ((hF740.2.1 175 ma_X5_step_176_175).trans ((hF703.2.1 175 ma_X5_isWord_176_175).trans ((hF694.2.1 175 ma_X5_isWord_176_175).trans (hF685.2.1 175 ma_X5_isWord_176_175))))))))))))) (((hF843.1 174 1 (by decide)).trans ((hF830.1 174 1 mf_X5_step_176_174_1).trans ((hF794.1 174 1 mf_X5_isWord_176_174_1).trans ((gI_sW).trans ((gI_sW).trans ((gI_sI_ne (by decide)).trans ((gI_sW).trans ((gI_sI_ne (by decide)).trans ((hF740.1 174 1 mf_X5_step_176_174_1).trans ((hF703.1 174 1 mf_X5_isWord_176_174_1).trans ((hF694.1 174 1 mf_X5_isWord_176_174_1).trans (hF685.1 174 1 mf_X5_isWord_176_174_1)))))))))))))).choose_spec o852; rw [x879]; rw [show (kX g0 + 1 : Int) = v750.toInt from by omega] at h6; exact h6.eq (rX.c (b := 2) ((gI_sW))) (rX.c (b := 4) ((gI_sW))) (rX.c (b := 6) ((gI_sW)))⟩, (by first | exact (fun hz => absurd hz (by omega)) | exact CGX_bt tok744 (by omega) (Int.le_of_lt (TOK_lt tok744 (by omega))) (SCX.x (SCX.mk (((hF740.2.1 178 ma_X5_step_176_178).trans ((hF703.2.1 178 ma_X5_isWord_176_178).trans ((hF694.2.1 178 ma_X5_isWord_176_178).trans (hF685.2.1 178 ma_X5_isWord_176_178))))) (((hF740.2.1 179 ma_X5_step_176_179).trans ((hF703.2.1 179 ma_X5_isWord_176_179).trans ((hF694.2.1 179 ma_X5_isWord_176_179).trans (hF685.2.1 179 ma_X5_isWord_176_179))))) (((hF740.1 177 0 mf_X5_step_176_177_0).trans ((hF703.1 177 0 mf_X5_isWord_176_177_0).trans ((hF694.1 177 0 mf_X5_isWord_176_177_0).trans (hF685.1 177 0 mf_X5_isWord_176_177_0)))))) (rX.c (b := 6) (((hF740.1 176 6 mf_X5_step_176_176_6).trans ((hF703.1 176 6 mf_X5_isWord_176_176_6).trans ((hF694.1 176 6 mf_X5_isWord_176_176_6).trans (hF685.1 176 6 mf_X5_isWord_176_176_6))))))) tok834 (by omega) (Int.le_of_lt (TOK_lt tok834 (by omega))) (SCX.x (SCX.mk (((hF830.2.1 178 ma_X5_step_176_178).trans ((hF794.2.1 178 ma_X5_isWord_176_178).trans ((gA_sA_ne (by decide)).trans ((gA_sA_ne (by decide)).trans ((gA_sI).trans ((gA_sA_ne (by decide)).trans (gA_sI)))))))) (((hF830.2.1 179 ma_X5_step_176_179).trans ((hF794.2.1 179 ma_X5_isWord_176_179).trans ((gA_sA_ne (by decide)).trans ((gA_sA_ne (by decide)).trans ((gA_sI).trans ((gA_sA_ne (by decide)).trans (gA_sI)))))))) (((hF830.1 177 0 mf_X5_step_176_177_0).trans ((hF794.1 177 0 mf_X5_isWord_176_177_0).trans ((gI_sW).trans ((gI_sW).trans ((gI_sI_ne (by decide)).trans ((gI_sW).trans (gI_sI_ne (by decide)))))))))) (rX.c (b := 6) (((hF830.1 176 6 mf_X5_step_176_176_6).trans ((hF794.1 176 6 mf_X5_isWord_176_176_6).trans ((gI_sW).trans ((gI_sW).trans ((gI_sI_ne (by decide)).trans ((gI_sW).trans (gI_sI_ne (by decide))))))))))) (GPX.k gx855 (by decide) (by decide) (by decide) (by decide)) (TKX.someC o849 (((hF843.2.1 175 (by decide)).trans ((hF830.2.1 175 ma_X5_step_176_175).trans ((hF794.2.1 175 ma_X5_isWord_176_175).trans ((gA_sA_ne (by decide)).trans ((gA_sA_ne (by decide)).trans ((gA_sI).trans ((gA_sA_ne (by decide)).trans ((gA_sI).trans ((hF740.2.1 175 ma_X5_step_176_175).trans ((hF703.2.1 175 ma_X5_isWord_176_175).trans ((hF694.2.1 175 ma_X5_isWord_176_175).trans (hF685.2.1 175 ma_X5_isWord_176_175))))))))))))) (((hF843.1 174 1 (by decide)).trans ((hF830.1 174 1 mf_X5_step_176_174_1).trans ((hF794.1 174 1 mf_X5_isWord_176_174_1).trans ((gI_sW).trans ((gI_sW).trans ((gI_sI_ne (by decide)).trans ((gI_sW).trans ((gI_sI_ne (by decide)).trans ((hF740.1 174 1 mf_X5_step_176_174_1).trans ((hF703.1 174 1 mf_X5_isWord_176_174_1).trans ((hF694.1 174 1 mf_X5_isWord_176_174_1).trans (hF685.1 174 1 mf_X5_isWord_176_174_1)))))))))))))).choose_spec (fun hz => (o852 hz).1 rfl) (SCX.x (SCX.mk ((gA_sA_ne (by decide))) ((gA_sA_ne (by decide))) ((gI_sW))) (rX.c (b := 6) ((gI_sW)))) (rX.c (b := 4) ((gI_sW))) (rX.c (b := 6) ((gI_sW))) (fun z => by omega) (fun _ => ⟨by show (gI _ 177 3).toInt = (gI g0 177 3).toInt + 1; omega, (by show (eA _ 180 (gI g0 177 3).toInt).toInt = _; rw [show (gI g0 177 3).toInt = v736.toInt by omega]; exact (congrArg Int32.toInt (((eA_c (gA_sA_ne (by decide))).trans ((eA_c (hF843.2.1 180 (by decide))).trans ((eA_c (hF830.2.1 180 ma_X5_step_176_180)).trans ((eA_c (hF794.2.1 180 ma_X5_isWord_176_180)).trans ((eA_c (gA_sA_ne (by decide))).trans ((eA_c (gA_sA_ne (by decide))).trans ((eA_c gA_sI).trans (eA_sA_eq hI751.1 ka_180 (by first | rfl | omega) (by first | decide | omega) (by first | decide | omega))))))))))).trans (by omega)), (by show (eA _ 181 (gI g0 177 3).toInt).toInt = _; rw [show (gI g0 177 3).toInt = v736.toInt by omega]; exact (congrArg Int32.toInt (((eA_c (gA_sA_ne (by decide))).trans ((eA_c (hF843.2.1 181 (by decide))).trans ((eA_c (hF830.2.1 181 ma_X5_step_176_181)).trans ((eA_c (hF794.2.1 181 ma_X5_isWord_176_181)).trans ((eA_c (gA_sA_ne (by decide))).trans (eA_sA_eq hI757.1 ka_181 (by first | rfl | omega) (by first | decide | omega) (by first | decide | omega))))))))).trans (by omega)), (by show (eA _ 182 (gI g0 177 3).toInt).toInt = _; rw [show (gI g0 177 3).toInt = v736.toInt by omega]; exact (congrArg Int32.toInt (((eA_c (gA_sA_ne (by decide))).trans ((eA_c (hF843.2.1 182 (by decide))).trans ((eA_c (hF830.2.1 182 ma_X5_step_176_182)).trans ((eA_c (hF794.2.1 182 ma_X5_isWord_176_182)).trans (eA_sA_eq hI760.1 ka_182 (by first | rfl | omega) (by first | decide | omega) (by first | decide | omega)))))))).trans (by omega)), (by show (eA _ 183 (gI g0 177 3).toInt).toInt = _; rw [show (gI g0 177 3).toInt = v736.toInt by omega]; exact (congrArg Int32.toInt ((eA_sA_eq hI842.1 ka_183 (by first | rfl | omega) (by first | decide | omega) (by first | decide | omega)))).trans (by omega)), fun i i0 i1 => by have i2 : i < (gI g0 177 3).toInt := i1; exact ⟨(congrArg Int32.toInt (((eA_c (gA_sA_ne (by decide))).trans ((eA_c (hF843.2.1 180 (by decide))).trans ((eA_c (hF830.2.1 180 ma_X5_step_176_180)).trans ((eA_c (hF794.2.1 180 ma_X5_isWord_176_180)).trans ((eA_c (gA_sA_ne (by decide))).trans ((eA_c (gA_sA_ne (by decide))).trans ((eA_c gA_sI).trans ((eA_sA_ne (i := i) hI751.1 ka_180 (by omega) (by omega) (by omega)).trans ((eA_c gA_sI).trans ((eA_c (hF740.2.1 180 ma_X5_step_176_180)).trans ((eA_c (hF703.2.1 180 ma_X5_isWord_176_180)).trans ((eA_c (hF694.2.1 180 ma_X5_isWord_176_180)).trans (eA_c (hF685.2.1 180 ma_X5_isWord_176_180)))))))))))))))), (congrArg Int32.toInt (((eA_c (gA_sA_ne (by decide))).trans ((eA_c (hF843.2.1 181 (by decide))).trans ((eA_c (hF830.2.1 181 ma_X5_step_176_181)).trans ((eA_c (hF794.2.1 181 ma_X5_isWord_176_181)).trans ((eA_c (gA_sA_ne (by decide))).trans ((eA_sA_ne (i := i) hI757.1 ka_181 (by omega) (by omega) (by omega)).trans ((eA_c gA_sI).trans ((eA_c (gA_sA_ne (by decide))).trans ((eA_c gA_sI).trans ((eA_c (hF740.2.1 181 ma_X5_step_176_181)).trans ((eA_c (hF703.2.1 181 ma_X5_isWord_176_181)).trans ((eA_c (hF694.2.1 181 ma_X5_isWord_176_181)).trans (eA_c (hF685.2.1 181 ma_X5_isWord_176_181)))))))))))))))), (congrArg Int32.toInt (((eA_c (gA_sA_ne (by decide))).trans ((eA_c (hF843.2.1 182 (by decide))).trans ((eA_c (hF830.2.1 182 ma_X5_step_176_182)).trans ((eA_c (hF794.2.1 182 ma_X5_isWord_176_182)).trans ((eA_sA_ne (i := i) hI760.1 ka_182 (by omega) (by omega) (by omega)).trans ((eA_c (gA_sA_ne (by decide))).trans ((eA_c gA_sI).trans ((eA_c (gA_sA_ne (by decide))).trans ((eA_c gA_sI).trans ((eA_c (hF740.2.1 182 ma_X5_step_176_182)).trans ((eA_c (hF703.2.1 182 ma_X5_isWord_176_182)).trans ((eA_c (hF694.2.1 182 ma_X5_isWord_176_182)).trans (eA_c (hF685.2.1 182 ma_X5_isWord_176_182)))))))))))))))), (congrArg Int32.toInt (((eA_sA_ne (i := i) hI842.1 ka_183 (by omega) (by omega) (by omega)).trans ((eA_c (hF843.2.1 183 (by decide))).trans ((eA_c (hF830.2.1 183 ma_X5_step_176_183)).trans ((eA_c (hF794.2.1 183 ma_X5_isWord_176_183)).trans ((eA_c (gA_sA_ne (by decide))).trans ((eA_c (gA_sA_ne (by decide))).trans ((eA_c gA_sI).trans ((eA_c (gA_sA_ne (by decide))).trans ((eA_c gA_sI).trans ((eA_c (hF740.2.1 183 ma_X5_step_176_183)).trans ((eA_c (hF703.2.1 183 ma_X5_isWord_176_183)).trans ((eA_c (hF694.2.1 183 ma_X5_isWord_176_183)).trans (eA_c (hF685.2.1 183 ma_X5_isWord_176_183))))))))))))))))⟩⟩)), (SPP_new (h := (2 : Int32).toInt) hv755 (((gI_sW).trans ((hF843.1 177 4 (by decide)).trans ((hF830.1 177 4 mf_X5_step_176_177_4).trans ((hF794.1 177 4 mf_X5_isWord_176_177_4).trans ((gI_sW).trans ((gI_sW).trans (gI_sI_eq hI753.1 kx_177 rfl _)))))))) hv756 (by first | exact Or.inl ⟨rfl, rfl⟩ | exact Or.inr (Or.inl ⟨rfl, rfl⟩) | exact Or.inr (Or.inr ⟨rfl, rfl⟩)) (by show (gI _ 177 3).toInt = (gI g0 177 3).toInt + 1; omega) (by show (eA _ 180 (gI g0 177 3).toInt).toInt = _; rw [show (gI g0 177 3).toInt = v736.toInt by omega]; exact congrArg Int32.toInt (((eA_c (gA_sA_ne (by decide))).trans ((eA_c (hF843.2.1 180 (by decide))).trans ((eA_c (hF830.2.1 180 ma_X5_step_176_180)).trans ((eA_c (hF794.2.1 180 ma_X5_isWord_176_180)).trans ((eA_c (gA_sA_ne (by decide))).trans ((eA_c (gA_sA_ne (by decide))).trans ((eA_c gA_sI).trans (eA_sA_eq hI751.1 ka_180 (by first | rfl | omega) (by first | decide | omega) (by first | decide | omega))))))))))) (fun i i0 i1 => by have i2 : i < (gI g0 177 3).toInt := i1; exact congrArg Int32.toInt (((eA_c (gA_sA_ne (by decide))).trans ((eA_c (hF843.2.1 180 (by decide))).trans ((eA_c (hF830.2.1 180 ma_X5_step_176_180)).trans ((eA_c (hF794.2.1 180 ma_X5_isWord_176_180)).trans ((eA_c (gA_sA_ne (by decide))).trans ((eA_c (gA_sA_ne (by decide))).trans ((eA_c gA_sI).trans ((eA_sA_ne (i := i) hI751.1 ka_180 (by omega) (by omega) (by omega)).trans ((eA_c gA_sI).trans ((eA_c (hF740.2.1 180 ma_X5_step_176_180)).trans ((eA_c (hF703.2.1 180 ma_X5_isWord_176_180)).trans ((eA_c (hF694.2.1 180 ma_X5_isWord_176_180)).trans (eA_c (hF685.2.1 180 ma_X5_isWord_176_180)))))))))))))))))⟩⟩
        · have c737_ : v736.toInt ≥ 12 := en_i_lt_f c737
          refine At.enter rfl ?_
          refine r_aload_n rfl ?_
          refine q_inlV 64 rfl [.ref 176] [] (Nat.le_of_ble_eq_true rfl) rfl ?_
          refine Ev.mk rfl rfl ⟨Nat.le_of_ble_eq_true rfl, Or.inr (q_rc hI702.1 kx_176 rfl)⟩ ?_
          show At _ none _ _ (0, [(0, .ref 176)], [], (_, _)) _
          refine At.enter rfl ?_
          refine r_aload_n rfl ?_
          obtain ⟨v902, hv902⟩ : ∃ v, gI g0 176 2 = v := ⟨_, rfl⟩
          refine q_getI (Sh.int hI702.1 kx_176 rfl) v902 (((hF703.1 176 2 mf_X5_isWord_176_176_2).trans ((hF694.1 176 2 mf_X5_isWord_176_176_2).trans (hF685.1 176 2 mf_X5_isWord_176_176_2))).trans hv902) ?_
          refine r_iconst (-1) rfl ?_
          refine r_ics 8 rfl (fun c903 => ?_) (fun c903 => ?_)
          · have c903_ : v902.toInt ≠ (-1) := en_i_ne_t c903
            refine At.enter rfl ?_
            refine q_vret ?_
            refine At.enter rfl ?_
            refine r_vret ?_
            have x904 := rX.e hI702 (b := 2) ((((hF703.1 176 2 mf_X5_isWord_176_176_2).trans ((hF694.1 176 2 mf_X5_isWord_176_176_2).trans (hF685.1 176 2 mf_X5_isWord_176_176_2))).trans hv902))
            have x905 := rX.e hI0 (b := 2) (hv902)
            obtain ⟨v906, hv906⟩ : ∃ v, gI g0 176 4 = v := ⟨_, rfl⟩
            have rv906 := RgF.at hI0.2.1 (p := 176) (b := 4) rfl
            rw [hv906] at rv906
            dsimp only at rv906
            have tv906 := congrArg Int32.toInt hv906
            have x907 := rX.e hI702 (b := 4) ((((hF703.1 176 4 mf_X5_isWord_176_176_4).trans ((hF694.1 176 4 mf_X5_isWord_176_176_4).trans (hF685.1 176 4 mf_X5_isWord_176_176_4))).trans hv906))
            have x908 := rX.e hI0 (b := 4) (hv906)
            obtain ⟨v909, hv909⟩ : ∃ v, gI g0 176 6 = v := ⟨_, rfl⟩
            have tv909 := congrArg Int32.toInt hv909
            have x910 := rX.e hI702 (b := 6) ((((hF703.1 176 6 mf_X5_isWord_176_176_6).trans ((hF694.1 176 6 mf_X5_isWord_176_176_6).trans (hF685.1 176 6 mf_X5_isWord_176_176_6))).trans hv909))
            have x911 := rX.e hI0 (b := 6) (hv909)
            have x912 := kX.e hI0 (hv736)
            have x913 := kX.e hI702 ((((hF703.1 177 3 mf_X5_isWord_176_177_3).trans ((hF694.1 177 3 mf_X5_isWord_176_177_3).trans (hF685.1 177 3 mf_X5_isWord_176_177_3))).trans hv736))
            exact ⟨_, rfl, hI702, hF706, rfl, ⟨⟨(TKX.c hT (((hF703.2.1 175 ma_X5_isWord_176_175).trans ((hF694.2.1 175 ma_X5_isWord_176_175).trans (hF685.2.1 175 ma_X5_isWord_176_175)))) (((hF703.1 174 1 mf_X5_isWord_176_174_1).trans ((hF694.1 174 1 mf_X5_isWord_176_174_1).trans (hF685.1 174 1 mf_X5_isWord_176_174_1)))) (((hF703.1 176 3 mf_X5_isWord_176_176_3).trans ((hF694.1 176 3 mf_X5_isWord_176_176_3).trans (hF685.1 176 3 mf_X5_isWord_176_176_3)))) (((hF703.1 176 4 mf_X5_isWord_176_176_4).trans ((hF694.1 176 4 mf_X5_isWord_176_176_4).trans (hF685.1 176 4 mf_X5_isWord_176_176_4)))) (((hF703.1 176 5 mf_X5_isWord_176_176_5).trans ((hF694.1 176 5 mf_X5_isWord_176_176_5).trans (hF685.1 176 5 mf_X5_isWord_176_176_5))))), (PRG0.fail 1 (rX.c (b := 4) (((hF703.1 176 4 mf_X5_isWord_176_176_4).trans ((hF694.1 176 4 mf_X5_isWord_176_176_4).trans (hF685.1 176 4 mf_X5_isWord_176_176_4))))) (fun _ => by omega) (fun _ => by omega) (by omega)).le (by omega), fun c0 h => h.fail (fun _ => S.clsF (TKX.some hT).choose_spec (by omega)) (fun _ => by omega) (fun _ => by omega) (by omega)⟩, (fun hz => absurd hz (by omega)), (SPP_same (((hF703.1 177 4 mf_X5_isWord_176_177_4).trans ((hF694.1 177 4 mf_X5_isWord_176_177_4).trans (hF685.1 177 4 mf_X5_isWord_176_177_4)))) (((hF703.2.1 180 ma_X5_isWord_176_180).trans ((hF694.2.1 180 ma_X5_isWord_176_180).trans (hF685.2.1 180 ma_X5_isWord_176_180)))) (((hF703.1 177 3 mf_X5_isWord_176_177_3).trans ((hF694.1 177 3 mf_X5_isWord_176_177_3).trans (hF685.1 177 3 mf_X5_isWord_176_177_3)))))⟩⟩
          · have c903_ : v902.toInt = (-1) := en_i_ne_f c903
            refine At.enter rfl ?_
            refine r_aload_n rfl ?_
            refine r_aload_n rfl ?_
            obtain ⟨v914, hv914⟩ : ∃ v, gI g0 176 4 = v := ⟨_, rfl⟩
            have rv914 := RgF.at hI0.2.1 (p := 176) (b := 4) rfl
            rw [hv914] at rv914
            dsimp only at rv914
            refine q_getI (Sh.int hI702.1 kx_176 rfl) v914 (((hF703.1 176 4 mf_X5_isWord_176_176_4).trans ((hF694.1 176 4 mf_X5_isWord_176_176_4).trans (hF685.1 176 4 mf_X5_isWord_176_176_4))).trans hv914) ?_
            refine q_putI (Sh.int hI702.1 kx_176 rfl) rfl ?_
            have hI915 := HI.wI0 hI702 kx_176 rfl (p := 176) (b := 2) (v := v914) rfl
            have hF916 := Fr.wI (p := 176) (b := 2) (v := v914) hF706 rfl
            refine Ar.fall 16 rfl ?_
            refine At.enter rfl ?_
            refine q_vret ?_
            refine At.enter rfl ?_
            refine r_vret ?_
            have x917 := rX.e hI915 (b := 2) ((gI_sI_eq hI702.1 kx_176 rfl _))
            have x918 := rX.e hI0 (b := 2) (hv902)
            have x919 := rX.e hI915 (b := 4) ((((gI_sI_ne (by decide)).trans ((hF703.1 176 4 mf_X5_isWord_176_176_4).trans ((hF694.1 176 4 mf_X5_isWord_176_176_4).trans (hF685.1 176 4 mf_X5_isWord_176_176_4)))).trans hv914))
            have x920 := rX.e hI0 (b := 4) (hv914)
            obtain ⟨v921, hv921⟩ : ∃ v, gI g0 176 6 = v := ⟨_, rfl⟩
            have tv921 := congrArg Int32.toInt hv921
            have x922 := rX.e hI915 (b := 6) ((((gI_sI_ne (by decide)).trans ((hF703.1 176 6 mf_X5_isWord_176_176_6).trans ((hF694.1 176 6 mf_X5_isWord_176_176_6).trans (hF685.1 176 6 mf_X5_isWord_176_176_6)))).trans hv921))
            have x923 := rX.e hI0 (b := 6) (hv921)
            have x924 := kX.e hI0 (hv736)
            have x925 := kX.e hI915 ((((gI_sI_ne (by decide)).trans ((hF703.1 177 3 mf_X5_isWord_176_177_3).trans ((hF694.1 177 3 mf_X5_isWord_176_177_3).trans (hF685.1 177 3 mf_X5_isWord_176_177_3)))).trans hv736))
            exact ⟨_, rfl, hI915, hF916, rfl, ⟨⟨(TKX.c hT (((gA_sI).trans ((hF703.2.1 175 ma_X5_isWord_176_175).trans ((hF694.2.1 175 ma_X5_isWord_176_175).trans (hF685.2.1 175 ma_X5_isWord_176_175))))) (((gI_sI_ne (by decide)).trans ((hF703.1 174 1 mf_X5_isWord_176_174_1).trans ((hF694.1 174 1 mf_X5_isWord_176_174_1).trans (hF685.1 174 1 mf_X5_isWord_176_174_1))))) (((gI_sI_ne (by decide)).trans ((hF703.1 176 3 mf_X5_isWord_176_176_3).trans ((hF694.1 176 3 mf_X5_isWord_176_176_3).trans (hF685.1 176 3 mf_X5_isWord_176_176_3))))) (((gI_sI_ne (by decide)).trans ((hF703.1 176 4 mf_X5_isWord_176_176_4).trans ((hF694.1 176 4 mf_X5_isWord_176_176_4).trans (hF685.1 176 4 mf_X5_isWord_176_176_4))))) (((gI_sI_ne (by decide)).trans ((hF703.1 176 5 mf_X5_isWord_176_176_5).trans ((hF694.1 176 5 mf_X5_isWord_176_176_5).trans (hF685.1 176 5 mf_X5_isWord_176_176_5)))))), (PRG0.fail 1 (rX.c (b := 4) (((gI_sI_ne (by decide)).trans ((hF703.1 176 4 mf_X5_isWord_176_176_4).trans ((hF694.1 176 4 mf_X5_isWord_176_176_4).trans (hF685.1 176 4 mf_X5_isWord_176_176_4)))))) (fun _ => by omega) (fun _ => by omega) (by omega)).le (by omega), fun c0 h => h.fail (fun _ => S.clsF (TKX.some hT).choose_spec (by omega)) (fun _ => by omega) (fun _ => by omega) (by omega)⟩, (fun hz => absurd hz (by omega)), (SPP_same (((gI_sI_ne (by decide)).trans ((hF703.1 177 4 mf_X5_isWord_176_177_4).trans ((hF694.1 177 4 mf_X5_isWord_176_177_4).trans (hF685.1 177 4 mf_X5_isWord_176_177_4))))) (((gA_sI).trans ((hF703.2.1 180 ma_X5_isWord_176_180).trans ((hF694.2.1 180 ma_X5_isWord_176_180).trans (hF685.2.1 180 ma_X5_isWord_176_180))))) (((gI_sI_ne (by decide)).trans ((hF703.1 177 3 mf_X5_isWord_176_177_3).trans ((hF694.1 177 3 mf_X5_isWord_176_177_3).trans (hF685.1 177 3 mf_X5_isWord_176_177_3))))))⟩⟩
    · have c699_ : v695.toInt ≠ 0 := en_k_eq_f c699
      have i926 := BL.yes hb698 (by omega)
      refine At.enter rfl ?_
      refine r_iconst 1 rfl ?_
      refine r_goto ?_
      refine At.enter rfl ?_
      refine r_istore_n ([(1, .int 1), (0, .ref 176)]) rfl ?_
      refine r_aload_n rfl ?_
      refine q_getR (Sh.ref hI693.1 kx_176 rfl) ?_
      obtain ⟨v927, hv927⟩ : ∃ v, gI g0 177 3 = v := ⟨_, rfl⟩
      have rv927 := RgF.at hI0.2.1 (p := 177) (b := 3) rfl
      rw [hv927] at rv927
      dsimp only at rv927
      refine q_getI (Sh.int hI693.1 kx_177 rfl) v927 (((hF694.1 177 3 mf_X5_isWord_176_177_3).trans (hF685.1 177 3 mf_X5_isWord_176_177_3)).trans hv927) ?_
      refine r_istore_n ([(2, .int v927), (1, .int 1), (0, .ref 176)]) rfl ?_
      refine r_iload_n rfl ?_
      refine r_iconst (-1) rfl ?_
      refine r_icf 54 rfl (by decide) ?_
      refine At.enter rfl ?_
      refine r_iload_n rfl ?_
      refine r_bipush 12 rfl ?_
      refine r_ics 60 rfl (fun c928 => ?_) (fun c928 => ?_)
      · have c928_ : v927.toInt < 12 := en_i_lt_t c928
        refine At.enter rfl ?_
        refine r_aload_n rfl ?_
        refine r_callV 69 rfl [.ref 176] [] (Nat.le_of_ble_eq_true rfl) rfl (T_X5_step_176 _ hI693 (TKX.c hT (((hF694.2.1 175 ma_X5_isWord_176_175).trans (hF685.2.1 175 ma_X5_isWord_176_175))) (((hF694.1 174 1 mf_X5_isWord_176_174_1).trans (hF685.1 174 1 mf_X5_isWord_176_174_1))) (((hF694.1 176 3 mf_X5_isWord_176_176_3).trans (hF685.1 176 3 mf_X5_isWord_176_176_3))) (((hF694.1 176 4 mf_X5_isWord_176_176_4).trans (hF685.1 176 4 mf_X5_isWord_176_176_4))) (((hF694.1 176 5 mf_X5_isWord_176_176_5).trans (hF685.1 176 5 mf_X5_isWord_176_176_5)))).1 (TKX.c hT (((hF694.2.1 175 ma_X5_isWord_176_175).trans (hF685.2.1 175 ma_X5_isWord_176_175))) (((hF694.1 174 1 mf_X5_isWord_176_174_1).trans (hF685.1 174 1 mf_X5_isWord_176_174_1))) (((hF694.1 176 3 mf_X5_isWord_176_176_3).trans (hF685.1 176 3 mf_X5_isWord_176_176_3))) (((hF694.1 176 4 mf_X5_isWord_176_176_4).trans (hF685.1 176 4 mf_X5_isWord_176_176_4))) (((hF694.1 176 5 mf_X5_isWord_176_176_5).trans (hF685.1 176 5 mf_X5_isWord_176_176_5)))).2.1.le.2.1) ?_
        rintro _ _ ⟨g929, rfl, hI930, hF931, rfl, hr933⟩
        refine At.stn ?_
        have hF934 := Fr.tr hF697 hF931 rfl rfl
        have tok935_ := hr933.2
        rw [TX.c (((hF694.2.1 175 ma_X5_isWord_176_175).trans (hF685.2.1 175 ma_X5_isWord_176_175))), nX.c (((hF694.1 174 1 mf_X5_isWord_176_174_1).trans (hF685.1 174 1 mf_X5_isWord_176_174_1))), rX.c (b := 5) (((hF694.1 176 5 mf_X5_isWord_176_176_5).trans (hF685.1 176 5 mf_X5_isWord_176_176_5)))] at tok935_
        have tok935 := TKX.tok hT tok935_
        have hT936 := hr933.1
        obtain ⟨v937, hv937⟩ : ∃ v, gI g0 176 4 = v := ⟨_, rfl⟩
        have rv937 := RgF.at hI0.2.1 (p := 176) (b := 4) rfl
        rw [hv937] at rv937
        dsimp only at rv937
        have tv937 := congrArg Int32.toInt hv937
        have x938 := rX.e hI693 (b := 4) ((((hF694.1 176 4 mf_X5_isWord_176_176_4).trans (hF685.1 176 4 mf_X5_isWord_176_176_4)).trans hv937))
        obtain ⟨v939, hv939⟩ : ∃ v, gI g929 176 4 = v := ⟨_, rfl⟩
        have rv939 := RgF.at hI930.2.1 (p := 176) (b := 4) rfl
        rw [hv939] at rv939
        dsimp only at rv939
        have tv939 := congrArg Int32.toInt hv939
        have x940 := rX.e hI930 (b := 4) (hv939)
        refine At.enter rfl ?_
        refine r_aload_n rfl ?_
        refine q_getR (Sh.ref hI930.1 kx_176 rfl) ?_
        refine r_iload_n rfl ?_
        refine r_iconst 1 rfl ?_
        refine q_iadd (v927.toInt + 1) rfl (by omega) (fun v941 hv941 => ?_)
        refine q_putI (Sh.int hI930.1 kx_177 rfl) rfl ?_
        have hI942 := HI.wI1 hI930 kx_177 rfl (p := 177) (b := 3) (v := v941) rfl (by dsimp only; omega)
        have hF943 := Fr.wI (p := 177) (b := 3) (v := v941) hF934 rfl
        refine r_aload_n rfl ?_
        refine q_getR (Sh.ref hI942.1 kx_176 rfl) ?_
        refine q_getR (Sh.ref hI942.1 kx_177 rfl) ?_
        refine r_iload_n rfl ?_
        refine r_iload_n rfl ?_
        refine q_iast (Sh.arr hI942.1 ka_180) (v927.toInt) rfl (by omega) ?_
        have hI944 := HI.wA0 hI942 ka_180 (p := 180) rfl rfl (v927.toInt) (1)
        have hF945 := Fr.wA (p := 180) (j := v927.toInt) (v := 1) hF943 rfl
        refine r_aload_n rfl ?_
        refine q_getR (Sh.ref hI944.1 kx_176 rfl) ?_
        refine r_dup rfl ?_
        obtain ⟨v946, hv946⟩ : ∃ v, gI g0 177 4 = v := ⟨_, rfl⟩
        refine q_getI (Sh.int hI944.1 kx_177 rfl) v946 (((gI_sW).trans ((gI_sI_ne (by decide)).trans ((hF931.1 177 4 mf_X5_step_176_177_4).trans ((hF694.1 177 4 mf_X5_isWord_176_177_4).trans (hF685.1 177 4 mf_X5_isWord_176_177_4))))).trans hv946) ?_
        refine r_iconst 1 rfl ?_
        refine r_iload_n rfl ?_
        refine r_ishl 2 (by decide) ?_
        refine q_iorO (fun v947 hv947 => ?_)
        refine q_putI (Sh.int hI944.1 kx_177 rfl) rfl ?_
        have hI948 := HI.wI0 hI944 kx_177 rfl (p := 177) (b := 4) (v := v947) rfl
        have hF949 := Fr.wI (p := 177) (b := 4) (v := v947) hF945 rfl
        refine r_aload_n rfl ?_
        refine q_getR (Sh.ref hI948.1 kx_176 rfl) ?_
        refine q_getR (Sh.ref hI948.1 kx_177 rfl) ?_
        refine r_iload_n rfl ?_
        refine r_aload_n rfl ?_
        refine q_getR (Sh.ref hI948.1 kx_176 rfl) ?_
        obtain ⟨v950, hv950⟩ : ∃ v, gI g0 177 0 = v := ⟨_, rfl⟩
        have rv950 := RgF.at hI0.2.1 (p := 177) (b := 0) rfl
        rw [hv950] at rv950
        dsimp only at rv950
        refine q_getI (Sh.int hI948.1 kx_177 rfl) v950 (((gI_sI_ne (by decide)).trans ((gI_sW).trans ((gI_sI_ne (by decide)).trans ((hF931.1 177 0 mf_X5_step_176_177_0).trans ((hF694.1 177 0 mf_X5_isWord_176_177_0).trans (hF685.1 177 0 mf_X5_isWord_176_177_0)))))).trans hv950) ?_
        refine q_iast (Sh.arr hI948.1 ka_181) (v927.toInt) rfl (by omega) ?_
        have hI951 := HI.wA0 hI948 ka_181 (p := 181) rfl rfl (v927.toInt) (v950)
        have hF952 := Fr.wA (p := 181) (j := v927.toInt) (v := v950) hF949 rfl
        refine r_iload_n rfl ?_
        refine r_iconst 2 rfl ?_
        refine r_icf 125 rfl (by decide) ?_
        refine At.enter rfl ?_
        refine r_aload_n rfl ?_
        refine r_iconst 2 rfl ?_
        refine r_iconst 0 rfl ?_
        have zv953 : (2 : Int32).toInt = 2 := rfl
        have zv954 : (0 : Int32).toInt = 0 := rfl
        refine r_callV 131 rfl [.ref 176, .int 2, .int 0] [] (Nat.le_of_ble_eq_true rfl) rfl (T_X5_readJoined_176 _ hI951 2 (by decide) 0 (by decide) (TKX.c hT936 (((gA_sA_ne (by decide)).trans ((gA_sI).trans ((gA_sA_ne (by decide)).trans (gA_sI))))) (((gI_sW).trans ((gI_sI_ne (by decide)).trans ((gI_sW).trans (gI_sI_ne (by decide)))))) (((gI_sW).trans ((gI_sI_ne (by decide)).trans ((gI_sW).trans (gI_sI_ne (by decide)))))) (((gI_sW).trans ((gI_sI_ne (by decide)).trans ((gI_sW).trans (gI_sI_ne (by decide)))))) (((gI_sW).trans ((gI_sI_ne (by decide)).trans ((gI_sW).trans (gI_sI_ne (by decide)))))))) ?_
        rintro _ _ ⟨g955, rfl, hI956, hF957, rfl, hr959⟩
        refine At.stn ?_
        have hF960 := Fr.tr hF952 hF957 rfl rfl
        have zv961 : (2 : Int32).toInt = 2 := rfl
        have zv962 : (0 : Int32).toInt = 0 := rfl
        obtain ⟨v967, hv967⟩ : ∃ v, gI g0 176 2 = v := ⟨_, rfl⟩
        have tv967 := congrArg Int32.toInt hv967
        have x968 := rX.e hI951 (b := 2) ((((gI_sW).trans ((gI_sI_ne (by decide)).trans ((gI_sW).trans ((gI_sI_ne (by decide)).trans ((hF931.1 176 2 mf_X5_step_176_176_2).trans ((hF694.1 176 2 mf_X5_isWord_176_176_2).trans (hF685.1 176 2 mf_X5_isWord_176_176_2))))))).trans hv967))
        have x969 := rX.e hI951 (b := 4) ((((gI_sW).trans ((gI_sI_ne (by decide)).trans ((gI_sW).trans (gI_sI_ne (by decide))))).trans hv939))
        obtain ⟨o963, o964, o965, o966⟩ := hr959.1
        have gx970 := GPX.fr hr959.2 (((gA_sA_ne (by decide)).trans ((gA_sI).trans ((gA_sA_ne (by decide)).trans (gA_sI))))) (((gA_sA_ne (by decide)).trans ((gA_sI).trans ((gA_sA_ne (by decide)).trans (gA_sI))))) (((gI_sW).trans ((gI_sI_ne (by decide)).trans ((gI_sW).trans (gI_sI_ne (by decide)))))) (rX.c (b := 4) (((gI_sW).trans ((gI_sI_ne (by decide)).trans ((gI_sW).trans (gI_sI_ne (by decide))))))) (rX.c (b := 6) (((gI_sW).trans ((gI_sI_ne (by decide)).trans ((gI_sW).trans (gI_sI_ne (by decide)))))))
        rw [TX.ci hI951 (((gA_sA_ne (by decide)).trans ((gA_sI).trans ((gA_sA_ne (by decide)).trans ((gA_sI).trans ((hF931.2.1 175 ma_X5_step_176_175).trans ((hF694.2.1 175 ma_X5_isWord_176_175).trans (hF685.2.1 175 ma_X5_isWord_176_175)))))))), nX.ci hI951 (((gI_sW).trans ((gI_sI_ne (by decide)).trans ((gI_sW).trans ((gI_sI_ne (by decide)).trans ((hF931.1 174 1 mf_X5_step_176_174_1).trans ((hF694.1 174 1 mf_X5_isWord_176_174_1).trans (hF685.1 174 1 mf_X5_isWord_176_174_1))))))))] at gx970
        have o971 := OPD.tc o965 (((gA_sA_ne (by decide)).trans ((gA_sI).trans ((gA_sA_ne (by decide)).trans ((gA_sI).trans ((hF931.2.1 175 ma_X5_step_176_175).trans ((hF694.2.1 175 ma_X5_isWord_176_175).trans (hF685.2.1 175 ma_X5_isWord_176_175)))))))) (((gI_sW).trans ((gI_sI_ne (by decide)).trans ((gI_sW).trans ((gI_sI_ne (by decide)).trans ((hF931.1 174 1 mf_X5_step_176_174_1).trans ((hF694.1 174 1 mf_X5_isWord_176_174_1).trans (hF685.1 174 1 mf_X5_isWord_176_174_1))))))))
        have o972 := PRG0.fr o964 (rX.c (b := 2) (((gI_sW).trans ((gI_sI_ne (by decide)).trans ((gI_sW).trans (gI_sI_ne (by decide))))))) (rX.c (b := 4) (((gI_sW).trans ((gI_sI_ne (by decide)).trans ((gI_sW).trans (gI_sI_ne (by decide)))))))
        have o973 := OPD.fr o971 (rX.c (b := 2) (((gI_sW).trans ((gI_sI_ne (by decide)).trans ((gI_sW).trans (gI_sI_ne (by decide))))))) (rX.c (b := 4) (((gI_sW).trans ((gI_sI_ne (by decide)).trans ((gI_sW).trans (gI_sI_ne (by decide))))))) (rX.c (b := 6) (((gI_sW).trans ((gI_sI_ne (by decide)).trans ((gI_sW).trans (gI_sI_ne (by decide)))))))
        obtain ⟨v974, hv974⟩ : ∃ v, gI g955 176 2 = v := ⟨_, rfl⟩
        have tv974 := congrArg Int32.toInt hv974
        have x975 := rX.e hI956 (b := 2) (hv974)
        obtain ⟨v976, hv976⟩ : ∃ v, gI g955 176 4 = v := ⟨_, rfl⟩
        have rv976 := RgF.at hI956.2.1 (p := 176) (b := 4) rfl
        rw [hv976] at rv976
        dsimp only at rv976
        have tv976 := congrArg Int32.toInt hv976
        have x977 := rX.e hI956 (b := 4) (hv976)
        refine At.enter rfl ?_
        refine r_aload_n rfl ?_
        refine q_getR (Sh.ref hI956.1 kx_176 rfl) ?_
        refine q_getR (Sh.ref hI956.1 kx_177 rfl) ?_
        refine r_iload_n rfl ?_
        refine r_aload_n rfl ?_
        refine q_getR (Sh.ref hI956.1 kx_176 rfl) ?_
        obtain ⟨v978, hv978⟩ : ∃ v, gI g955 177 0 = v := ⟨_, rfl⟩
        have rv978 := RgF.at hI956.2.1 (p := 177) (b := 0) rfl
        rw [hv978] at rv978
        dsimp only at rv978
        refine q_getI (Sh.int hI956.1 kx_177 rfl) v978 hv978 ?_
        refine q_iast (Sh.arr hI956.1 ka_182) (v927.toInt) rfl (by omega) ?_
        have hI979 := HI.wA0 hI956 ka_182 (p := 182) rfl rfl (v927.toInt) (v978)
        have hF980 := Fr.wA (p := 182) (j := v927.toInt) (v := v978) hF960 rfl
        refine r_aload_n rfl ?_
        refine q_getI (Sh.int hI979.1 kx_176 rfl) v974 ((gI_sW).trans hv974) ?_
        refine r_iconst (-1) rfl ?_
        refine r_ics 155 rfl (fun c981 => ?_) (fun c981 => ?_)
        · have c981_ : v974.toInt ≠ (-1) := en_i_ne_t c981
          refine At.enter rfl ?_
          refine r_aload_n rfl ?_
          refine q_getR (Sh.ref hI979.1 kx_176 rfl) ?_
          refine q_getR (Sh.ref hI979.1 kx_177 rfl) ?_
          refine r_iload_n rfl ?_
          refine r_aload_n rfl ?_
          refine q_getR (Sh.ref hI979.1 kx_176 rfl) ?_
          refine q_getI (Sh.int hI979.1 kx_177 rfl) v978 ((gI_sW).trans hv978) ?_
          refine q_iast (Sh.arr hI979.1 ka_183) (v927.toInt) rfl (by omega) ?_
          have hI982 := HI.wA0 hI979 ka_183 (p := 183) rfl rfl (v927.toInt) (v978)
          have hF983 := Fr.wA (p := 183) (j := v927.toInt) (v := v978) hF980 rfl
          refine r_vret ?_
          have x984 := rX.e hI982 (b := 2) ((((gI_sW).trans (gI_sW)).trans hv974))
          have x985 := rX.e hI0 (b := 2) (hv967)
          have x986 := rX.e hI982 (b := 4) ((((gI_sW).trans (gI_sW)).trans hv976))
          have x987 := rX.e hI0 (b := 4) (hv937)
          obtain ⟨v988, hv988⟩ : ∃ v, gI g955 176 6 = v := ⟨_, rfl⟩
          have tv988 := congrArg Int32.toInt hv988
          have x989 := rX.e hI982 (b := 6) ((((gI_sW).trans (gI_sW)).trans hv988))
          obtain ⟨v990, hv990⟩ : ∃ v, gI g0 176 6 = v := ⟨_, rfl⟩
          have tv990 := congrArg Int32.toInt hv990
          have x991 := rX.e hI0 (b := 6) (hv990)
          have x992 := rX.e hI930 (b := 2) ((((hF931.1 176 2 mf_X5_step_176_176_2).trans ((hF694.1 176 2 mf_X5_isWord_176_176_2).trans (hF685.1 176 2 mf_X5_isWord_176_176_2))).trans hv967))
          have x993 := rX.e hI930 (b := 4) (hv939)
          have x994 := rX.e hI956 (b := 2) (hv974)
          have x995 := rX.e hI956 (b := 4) (hv976)
          have x996 := kX.e hI0 (hv927)
          have x997 := kX.e hI982 (((gI_sW).trans ((gI_sW).trans ((hF957.1 177 3 (by decide)).trans ((gI_sW).trans ((gI_sI_ne (by decide)).trans ((gI_sW).trans (gI_sI_eq hI930.1 kx_177 rfl _))))))))
          have pr998 : _ ∧ _ ∧ _ := o972
          have x999 := rX.e hI930 (b := 2) ((((hF931.1 176 2 mf_X5_step_176_176_2).trans ((hF694.1 176 2 mf_X5_isWord_176_176_2).trans (hF685.1 176 2 mf_X5_isWord_176_176_2))).trans hv967))
          have x1000 := rX.e hI930 (b := 4) (hv939)
          have x1001 := rX.e hI930 (b := 6) ((((hF931.1 176 6 mf_X5_step_176_176_6).trans ((hF694.1 176 6 mf_X5_isWord_176_176_6).trans (hF685.1 176 6 mf_X5_isWord_176_176_6))).trans hv990))
          have x1002 := rX.e hI956 (b := 2) (hv974)
          have x1003 := rX.e hI956 (b := 4) (hv976)
          have x1004 := rX.e hI956 (b := 6) (hv988)
          have y1005 : lX g0 = v950.toInt := congrArg Int32.toInt (hv950)
          have y1006 : lX g929 = v950.toInt := congrArg Int32.toInt ((((hF931.1 177 0 mf_X5_step_176_177_0).trans ((hF694.1 177 0 mf_X5_isWord_176_177_0).trans (hF685.1 177 0 mf_X5_isWord_176_177_0))).trans hv950))
          have y1007 : lX g955 = v978.toInt := congrArg Int32.toInt (hv978)
          have y1008 := lX.e hI982 ((((gI_sW).trans (gI_sW)).trans hv978))
          have zv1009 : (0 : Int32).toInt = 0 := rfl
          have zv1010 : (1 : Int32).toInt = 1 := rfl
          have zv1011 : (2 : Int32).toInt = 2 := rfl
          have y1012 : (gI g0 177 3).toInt = v927.toInt := congrArg Int32.toInt (hv927)
          have y1013 := HI.eqI hI982 (p := 177) (b := 3) (((gI_sW).trans ((gI_sW).trans ((hF957.1 177 3 (by decide)).trans ((gI_sW).trans ((gI_sI_ne (by decide)).trans ((gI_sW).trans (gI_sI_eq hI930.1 kx_177 rfl _))))))))
          have y1014 : (gI g0 177 3).toInt = v927.toInt := congrArg Int32.toInt (hv927)
          have y1015 := HI.eqI hI982 (p := 177) (b := 3) (((gI_sW).trans ((gI_sW).trans ((hF957.1 177 3 (by decide)).trans ((gI_sW).trans ((gI_sI_ne (by decide)).trans ((gI_sW).trans (gI_sI_eq hI930.1 kx_177 rfl _))))))))
          exact ⟨_, rfl, hI982, hF983, rfl, ⟨⟨(TKX.c o963 (((gA_sA_ne (by decide)).trans (gA_sA_ne (by decide)))) (((gI_sW).trans (gI_sW))) (((gI_sW).trans (gI_sW))) (((gI_sW).trans (gI_sW))) (((gI_sW).trans (gI_sW)))), ((PRG0.tr ((PRG0.tr (PRG0.step hT tok935_ (rX.c (b := 2) (((hF931.1 176 2 mf_X5_step_176_176_2).trans ((hF694.1 176 2 mf_X5_isWord_176_176_2).trans (hF685.1 176 2 mf_X5_isWord_176_176_2))))) (by omega)) (o972))) (PRG0.eq (rX.c (b := 4) (((gI_sW).trans (gI_sW)))) (rX.c (b := 2) (((gI_sW).trans (gI_sW))))))).le (by omega), fun c0 h => by have h1 : CST (TX g0) (nX g0) c0 g929 1 [3] (kX g0 + 1) := CLX.head h (fun _ => S.cls tok935 (by omega) (by omega) rfl) (rX.c (b := 2) (((hF931.1 176 2 mf_X5_step_176_176_2).trans ((hF694.1 176 2 mf_X5_isWord_176_176_2).trans (hF685.1 176 2 mf_X5_isWord_176_176_2))))) (rX.c (b := 6) (((hF931.1 176 6 mf_X5_step_176_176_6).trans ((hF694.1 176 6 mf_X5_isWord_176_176_6).trans (hF685.1 176 6 mf_X5_isWord_176_176_6))))); have h3 := CLX.sum o973 h1 (TKX.someC o963 (((hF957.2.1 175 (by decide)).trans ((gA_sA_ne (by decide)).trans ((gA_sI).trans ((gA_sA_ne (by decide)).trans ((gA_sI).trans ((hF931.2.1 175 ma_X5_step_176_175).trans ((hF694.2.1 175 ma_X5_isWord_176_175).trans (hF685.2.1 175 ma_X5_isWord_176_175))))))))) (((hF957.1 174 1 (by decide)).trans ((gI_sW).trans ((gI_sI_ne (by decide)).trans ((gI_sW).trans ((gI_sI_ne (by decide)).trans ((hF931.1 174 1 mf_X5_step_176_174_1).trans ((hF694.1 174 1 mf_X5_isWord_176_174_1).trans (hF685.1 174 1 mf_X5_isWord_176_174_1)))))))))).choose_spec o966; have h6 : CST (TX g0) (nX g0) c0 g955 8 [] (kX g0 + 1) := (by first | exact h3.bad (by omega) rfl | exact h3.eps (fun _ => S.noif (TKX.someC o963 (((hF957.2.1 175 (by decide)).trans ((gA_sA_ne (by decide)).trans ((gA_sI).trans ((gA_sA_ne (by decide)).trans ((gA_sI).trans ((hF931.2.1 175 ma_X5_step_176_175).trans ((hF694.2.1 175 ma_X5_isWord_176_175).trans (hF685.2.1 175 ma_X5_isWord_176_175))))))))) (((hF957.1 174 1 (by decide)).trans ((gI_sW).trans ((gI_sI_ne (by decide)).trans ((gI_sW).trans ((gI_sI_ne (by decide)).trans ((hF931.1 174 1 mf_X5_step_176_174_1).trans ((hF694.1 174 1 mf_X5_isWord_176_174_1).trans (hF685.1 174 1 mf_X5_isWord_176_174_1)))))))))).choose_spec (by omega))); rw [x997]; rw [show (kX g0 + 1 : Int) = v941.toInt from by omega] at h6; exact h6.eq (rX.c (b := 2) (((gI_sW).trans (gI_sW)))) (rX.c (b := 4) (((gI_sW).trans (gI_sW)))) (rX.c (b := 6) (((gI_sW).trans (gI_sW))))⟩, (by first | exact (fun hz => absurd hz (by omega)) | exact CGX_s tok935 (by omega) (Int.le_of_lt (TOK_lt tok935 (by omega))) (SCX.x (SCX.mk (((hF931.2.1 178 ma_X5_step_176_178).trans ((hF694.2.1 178 ma_X5_isWord_176_178).trans (hF685.2.1 178 ma_X5_isWord_176_178)))) (((hF931.2.1 179 ma_X5_step_176_179).trans ((hF694.2.1 179 ma_X5_isWord_176_179).trans (hF685.2.1 179 ma_X5_isWord_176_179)))) (((hF931.1 177 0 mf_X5_step_176_177_0).trans ((hF694.1 177 0 mf_X5_isWord_176_177_0).trans (hF685.1 177 0 mf_X5_isWord_176_177_0))))) (rX.c (b := 6) (((hF931.1 176 6 mf_X5_step_176_176_6).trans ((hF694.1 176 6 mf_X5_isWord_176_176_6).trans (hF685.1 176 6 mf_X5_isWord_176_176_6)))))) (GPX.k gx970 (by decide) (by decide) (by decide) (by decide)) (TKX.someC o963 (((hF957.2.1 175 (by decide)).trans ((gA_sA_ne (by decide)).trans ((gA_sI).trans ((gA_sA_ne (by decide)).trans ((gA_sI).trans ((hF931.2.1 175 ma_X5_step_176_175).trans ((hF694.2.1 175 ma_X5_isWord_176_175).trans (hF685.2.1 175 ma_X5_isWord_176_175))))))))) (((hF957.1 174 1 (by decide)).trans ((gI_sW).trans ((gI_sI_ne (by decide)).trans ((gI_sW).trans ((gI_sI_ne (by decide)).trans ((hF931.1 174 1 mf_X5_step_176_174_1).trans ((hF694.1 174 1 mf_X5_isWord_176_174_1).trans (hF685.1 174 1 mf_X5_isWord_176_174_1)))))))))).choose_spec (fun hz => (o966 hz).2.2.1 rfl) (fun _ => by omega) (SCX.x (SCX.mk (((gA_sA_ne (by decide)).trans (gA_sA_ne (by decide)))) (((gA_sA_ne (by decide)).trans (gA_sA_ne (by decide)))) (((gI_sW).trans (gI_sW)))) (rX.c (b := 6) (((gI_sW).trans (gI_sW))))) (rX.c (b := 4) (((gI_sW).trans (gI_sW)))) (rX.c (b := 6) (((gI_sW).trans (gI_sW)))) (fun z => by omega) (fun _ => ⟨by show (gI _ 177 3).toInt = (gI g0 177 3).toInt + 1; omega, (by show (eA _ 180 (gI g0 177 3).toInt).toInt = _; rw [show (gI g0 177 3).toInt = v927.toInt by omega]; exact (congrArg Int32.toInt (((eA_c (gA_sA_ne (by decide))).trans ((eA_c (gA_sA_ne (by decide))).trans ((eA_c (hF957.2.1 180 (by decide))).trans ((eA_c (gA_sA_ne (by decide))).trans ((eA_c gA_sI).trans (eA_sA_eq hI942.1 ka_180 (by first | rfl | omega) (by first | decide | omega) (by first | decide | omega))))))))).trans (by omega)), (by show (eA _ 181 (gI g0 177 3).toInt).toInt = _; rw [show (gI g0 177 3).toInt = v927.toInt by omega]; exact (congrArg Int32.toInt (((eA_c (gA_sA_ne (by decide))).trans ((eA_c (gA_sA_ne (by decide))).trans ((eA_c (hF957.2.1 181 (by decide))).trans (eA_sA_eq hI948.1 ka_181 (by first | rfl | omega) (by first | decide | omega) (by first | decide | omega))))))).trans (by omega)), (by show (eA _ 182 (gI g0 177 3).toInt).toInt = _; rw [show (gI g0 177 3).toInt = v927.toInt by omega]; exact (congrArg Int32.toInt (((eA_c (gA_sA_ne (by decide))).trans (eA_sA_eq hI956.1 ka_182 (by first | rfl | omega) (by first | decide | omega) (by first | decide | omega))))).trans (by omega)), (by show (eA _ 183 (gI g0 177 3).toInt).toInt = _; rw [show (gI g0 177 3).toInt = v927.toInt by omega]; exact (congrArg Int32.toInt ((eA_sA_eq hI979.1 ka_183 (by first | rfl | omega) (by first | decide | omega) (by first | decide | omega)))).trans (by omega)), fun i i0 i1 => by have i2 : i < (gI g0 177 3).toInt := i1; exact ⟨(congrArg Int32.toInt (((eA_c (gA_sA_ne (by decide))).trans ((eA_c (gA_sA_ne (by decide))).trans ((eA_c (hF957.2.1 180 (by decide))).trans ((eA_c (gA_sA_ne (by decide))).trans ((eA_c gA_sI).trans ((eA_sA_ne (i := i) hI942.1 ka_180 (by omega) (by omega) (by omega)).trans ((eA_c gA_sI).trans ((eA_c (hF931.2.1 180 ma_X5_step_176_180)).trans ((eA_c (hF694.2.1 180 ma_X5_isWord_176_180)).trans (eA_c (hF685.2.1 180 ma_X5_isWord_176_180))))))))))))), (congrArg Int32.toInt (((eA_c (gA_sA_ne (by decide))).trans ((eA_c (gA_sA_ne (by decide))).trans ((eA_c (hF957.2.1 181 (by decide))).trans ((eA_sA_ne (i := i) hI948.1 ka_181 (by omega) (by omega) (by omega)).trans ((eA_c gA_sI).trans ((eA_c (gA_sA_ne (by decide))).trans ((eA_c gA_sI).trans ((eA_c (hF931.2.1 181 ma_X5_step_176_181)).trans ((eA_c (hF694.2.1 181 ma_X5_isWord_176_181)).trans (eA_c (hF685.2.1 181 ma_X5_isWord_176_181))))))))))))), (congrArg Int32.toInt (((eA_c (gA_sA_ne (by decide))).trans ((eA_sA_ne (i := i) hI956.1 ka_182 (by omega) (by omega) (by omega)).trans ((eA_c (hF957.2.1 182 (by decide))).trans ((eA_c (gA_sA_ne (by decide))).trans ((eA_c gA_sI).trans ((eA_c (gA_sA_ne (by decide))).trans ((eA_c gA_sI).trans ((eA_c (hF931.2.1 182 ma_X5_step_176_182)).trans ((eA_c (hF694.2.1 182 ma_X5_isWord_176_182)).trans (eA_c (hF685.2.1 182 ma_X5_isWord_176_182))))))))))))), (congrArg Int32.toInt (((eA_sA_ne (i := i) hI979.1 ka_183 (by omega) (by omega) (by omega)).trans ((eA_c (gA_sA_ne (by decide))).trans ((eA_c (hF957.2.1 183 (by decide))).trans ((eA_c (gA_sA_ne (by decide))).trans ((eA_c gA_sI).trans ((eA_c (gA_sA_ne (by decide))).trans ((eA_c gA_sI).trans ((eA_c (hF931.2.1 183 ma_X5_step_176_183)).trans ((eA_c (hF694.2.1 183 ma_X5_isWord_176_183)).trans (eA_c (hF685.2.1 183 ma_X5_isWord_176_183)))))))))))))⟩⟩)), (SPP_new (h := (1 : Int32).toInt) hv946 (((gI_sW).trans ((gI_sW).trans ((hF957.1 177 4 (by decide)).trans ((gI_sW).trans (gI_sI_eq hI944.1 kx_177 rfl _)))))) hv947 (by first | exact Or.inl ⟨rfl, rfl⟩ | exact Or.inr (Or.inl ⟨rfl, rfl⟩) | exact Or.inr (Or.inr ⟨rfl, rfl⟩)) (by show (gI _ 177 3).toInt = (gI g0 177 3).toInt + 1; omega) (by show (eA _ 180 (gI g0 177 3).toInt).toInt = _; rw [show (gI g0 177 3).toInt = v927.toInt by omega]; exact congrArg Int32.toInt (((eA_c (gA_sA_ne (by decide))).trans ((eA_c (gA_sA_ne (by decide))).trans ((eA_c (hF957.2.1 180 (by decide))).trans ((eA_c (gA_sA_ne (by decide))).trans ((eA_c gA_sI).trans (eA_sA_eq hI942.1 ka_180 (by first | rfl | omega) (by first | decide | omega) (by first | decide | omega))))))))) (fun i i0 i1 => by have i2 : i < (gI g0 177 3).toInt := i1; exact congrArg Int32.toInt (((eA_c (gA_sA_ne (by decide))).trans ((eA_c (gA_sA_ne (by decide))).trans ((eA_c (hF957.2.1 180 (by decide))).trans ((eA_c (gA_sA_ne (by decide))).trans ((eA_c gA_sI).trans ((eA_sA_ne (i := i) hI942.1 ka_180 (by omega) (by omega) (by omega)).trans ((eA_c gA_sI).trans ((eA_c (hF931.2.1 180 ma_X5_step_176_180)).trans ((eA_c (hF694.2.1 180 ma_X5_isWord_176_180)).trans (eA_c (hF685.2.1 180 ma_X5_isWord_176_180))))))))))))))⟩⟩
        · have c981_ : v974.toInt = (-1) := en_i_ne_f c981
          refine At.enter rfl ?_
          refine r_aload_n rfl ?_
          refine r_ldcS (by decide) 17 rfl ?_
          refine r_callV 161 rfl [.ref 176, .float 17] [] (Nat.le_of_ble_eq_true rfl) rfl (T_X5_isWord_176 _ hI979 17 (by decide) (TKX.c o963 ((gA_sA_ne (by decide))) ((gI_sW)) ((gI_sW)) ((gI_sW)) ((gI_sW)))) ?_
          rintro _ _ ⟨g1016, rfl, hI1017, hF1018, v1019, rfl, hr1020⟩
          refine At.sti ?_
          have hF1021 := Fr.tr hF980 hF1018 rfl rfl
          have hb1022 : BL (CDX g955 = 10) v1019.toInt := by have z := ISW.code (c := 10) hr1020.2 (TKX.c o963 ((gA_sA_ne (by decide))) ((gI_sW)) ((gI_sW)) ((gI_sW)) ((gI_sW))) (isWC_d (by omega)) (by decide +kernel); rw [CDX.c ((gA_sA_ne (by decide))) ((gI_sW)) ((gI_sW)) ((gI_sW))] at z; exact z
          refine At.enter rfl ?_
          refine r_ifs 164 rfl (fun c1023 => ?_) (fun c1023 => ?_)
          · have c1023_ : v1019.toInt = 0 := en_k_eq_t c1023
            have i1024 := BL.no hb1022 (by omega)
            refine At.enter rfl ?_
            refine r_aload_n rfl ?_
            refine q_getR (Sh.ref hI1017.1 kx_176 rfl) ?_
            refine q_getR (Sh.ref hI1017.1 kx_177 rfl) ?_
            refine r_iload_n rfl ?_
            refine r_aload_n rfl ?_
            refine q_getR (Sh.ref hI1017.1 kx_176 rfl) ?_
            refine q_getI (Sh.int hI1017.1 kx_177 rfl) v978 (((hF1018.1 177 0 mf_X5_isWord_176_177_0).trans (gI_sW)).trans hv978) ?_
            refine q_iast (Sh.arr hI1017.1 ka_183) (v927.toInt) rfl (by omega) ?_
            have hI1025 := HI.wA0 hI1017 ka_183 (p := 183) rfl rfl (v927.toInt) (v978)
            have hF1026 := Fr.wA (p := 183) (j := v927.toInt) (v := v978) hF1021 rfl
            refine r_vret ?_
            have x1027 := rX.e hI1025 (b := 2) ((((gI_sW).trans ((hF1018.1 176 2 mf_X5_isWord_176_176_2).trans (gI_sW))).trans hv974))
            have x1028 := rX.e hI0 (b := 2) (hv967)
            have x1029 := rX.e hI1025 (b := 4) ((((gI_sW).trans ((hF1018.1 176 4 mf_X5_isWord_176_176_4).trans (gI_sW))).trans hv976))
            have x1030 := rX.e hI0 (b := 4) (hv937)
            obtain ⟨v1031, hv1031⟩ : ∃ v, gI g955 176 6 = v := ⟨_, rfl⟩
            have tv1031 := congrArg Int32.toInt hv1031
            have x1032 := rX.e hI1025 (b := 6) ((((gI_sW).trans ((hF1018.1 176 6 mf_X5_isWord_176_176_6).trans (gI_sW))).trans hv1031))
            obtain ⟨v1033, hv1033⟩ : ∃ v, gI g0 176 6 = v := ⟨_, rfl⟩
            have tv1033 := congrArg Int32.toInt hv1033
            have x1034 := rX.e hI0 (b := 6) (hv1033)
            have x1035 := rX.e hI930 (b := 2) ((((hF931.1 176 2 mf_X5_step_176_176_2).trans ((hF694.1 176 2 mf_X5_isWord_176_176_2).trans (hF685.1 176 2 mf_X5_isWord_176_176_2))).trans hv967))
            have x1036 := rX.e hI930 (b := 4) (hv939)
            have x1037 := rX.e hI956 (b := 2) (hv974)
            have x1038 := rX.e hI956 (b := 4) (hv976)
            have x1039 := kX.e hI0 (hv927)
            have x1040 := kX.e hI1025 (((gI_sW).trans ((hF1018.1 177 3 mf_X5_isWord_176_177_3).trans ((gI_sW).trans ((hF957.1 177 3 (by decide)).trans ((gI_sW).trans ((gI_sI_ne (by decide)).trans ((gI_sW).trans (gI_sI_eq hI930.1 kx_177 rfl _)))))))))
            have pr1041 : _ ∧ _ ∧ _ := o972
            have x1042 := rX.e hI930 (b := 2) ((((hF931.1 176 2 mf_X5_step_176_176_2).trans ((hF694.1 176 2 mf_X5_isWord_176_176_2).trans (hF685.1 176 2 mf_X5_isWord_176_176_2))).trans hv967))
            have x1043 := rX.e hI930 (b := 4) (hv939)
            have x1044 := rX.e hI930 (b := 6) ((((hF931.1 176 6 mf_X5_step_176_176_6).trans ((hF694.1 176 6 mf_X5_isWord_176_176_6).trans (hF685.1 176 6 mf_X5_isWord_176_176_6))).trans hv1033))
            have x1045 := rX.e hI956 (b := 2) (hv974)
            have x1046 := rX.e hI956 (b := 4) (hv976)
            have x1047 := rX.e hI956 (b := 6) (hv1031)
            have y1048 : lX g0 = v950.toInt := congrArg Int32.toInt (hv950)
            have y1049 : lX g929 = v950.toInt := congrArg Int32.toInt ((((hF931.1 177 0 mf_X5_step_176_177_0).trans ((hF694.1 177 0 mf_X5_isWord_176_177_0).trans (hF685.1 177 0 mf_X5_isWord_176_177_0))).trans hv950))
            have y1050 : lX g955 = v978.toInt := congrArg Int32.toInt (hv978)
            have y1051 := lX.e hI1025 ((((gI_sW).trans ((hF1018.1 177 0 mf_X5_isWord_176_177_0).trans (gI_sW))).trans hv978))
            have zv1052 : (0 : Int32).toInt = 0 := rfl
            have zv1053 : (1 : Int32).toInt = 1 := rfl
            have zv1054 : (2 : Int32).toInt = 2 := rfl
            have y1055 : (gI g0 177 3).toInt = v927.toInt := congrArg Int32.toInt (hv927)
            have y1056 := HI.eqI hI1025 (p := 177) (b := 3) (((gI_sW).trans ((hF1018.1 177 3 mf_X5_isWord_176_177_3).trans ((gI_sW).trans ((hF957.1 177 3 (by decide)).trans ((gI_sW).trans ((gI_sI_ne (by decide)).trans ((gI_sW).trans (gI_sI_eq hI930.1 kx_177 rfl _)))))))))
            have y1057 : (gI g0 177 3).toInt = v927.toInt := congrArg Int32.toInt (hv927)
            have y1058 := HI.eqI hI1025 (p := 177) (b := 3) (((gI_sW).trans ((hF1018.1 177 3 mf_X5_isWord_176_177_3).trans ((gI_sW).trans ((hF957.1 177 3 (by decide)).trans ((gI_sW).trans ((gI_sI_ne (by decide)).trans ((gI_sW).trans (gI_sI_eq hI930.1 kx_177 rfl _)))))))))
            exact ⟨_, rfl, hI1025, hF1026, rfl, ⟨⟨(TKX.c o963 (((gA_sA_ne (by decide)).trans ((hF1018.2.1 175 ma_X5_isWord_176_175).trans (gA_sA_ne (by decide))))) (((gI_sW).trans ((hF1018.1 174 1 mf_X5_isWord_176_174_1).trans (gI_sW)))) (((gI_sW).trans ((hF1018.1 176 3 mf_X5_isWord_176_176_3).trans (gI_sW)))) (((gI_sW).trans ((hF1018.1 176 4 mf_X5_isWord_176_176_4).trans (gI_sW)))) (((gI_sW).trans ((hF1018.1 176 5 mf_X5_isWord_176_176_5).trans (gI_sW))))), ((PRG0.tr ((PRG0.tr (PRG0.step hT tok935_ (rX.c (b := 2) (((hF931.1 176 2 mf_X5_step_176_176_2).trans ((hF694.1 176 2 mf_X5_isWord_176_176_2).trans (hF685.1 176 2 mf_X5_isWord_176_176_2))))) (by omega)) (o972))) (PRG0.eq (rX.c (b := 4) (((gI_sW).trans ((hF1018.1 176 4 mf_X5_isWord_176_176_4).trans (gI_sW))))) (rX.c (b := 2) (((gI_sW).trans ((hF1018.1 176 2 mf_X5_isWord_176_176_2).trans (gI_sW)))))))).le (by omega), fun c0 h => by have h1 : CST (TX g0) (nX g0) c0 g929 1 [3] (kX g0 + 1) := CLX.head h (fun _ => S.cls tok935 (by omega) (by omega) rfl) (rX.c (b := 2) (((hF931.1 176 2 mf_X5_step_176_176_2).trans ((hF694.1 176 2 mf_X5_isWord_176_176_2).trans (hF685.1 176 2 mf_X5_isWord_176_176_2))))) (rX.c (b := 6) (((hF931.1 176 6 mf_X5_step_176_176_6).trans ((hF694.1 176 6 mf_X5_isWord_176_176_6).trans (hF685.1 176 6 mf_X5_isWord_176_176_6))))); have h3 := CLX.sum o973 h1 (TKX.someC o963 (((hF957.2.1 175 (by decide)).trans ((gA_sA_ne (by decide)).trans ((gA_sI).trans ((gA_sA_ne (by decide)).trans ((gA_sI).trans ((hF931.2.1 175 ma_X5_step_176_175).trans ((hF694.2.1 175 ma_X5_isWord_176_175).trans (hF685.2.1 175 ma_X5_isWord_176_175))))))))) (((hF957.1 174 1 (by decide)).trans ((gI_sW).trans ((gI_sI_ne (by decide)).trans ((gI_sW).trans ((gI_sI_ne (by decide)).trans ((hF931.1 174 1 mf_X5_step_176_174_1).trans ((hF694.1 174 1 mf_X5_isWord_176_174_1).trans (hF685.1 174 1 mf_X5_isWord_176_174_1)))))))))).choose_spec o966; have h6 : CST (TX g0) (nX g0) c0 g955 8 [] (kX g0 + 1) := (by first | exact h3.bad (by omega) rfl | exact h3.eps (fun _ => S.noif (TKX.someC o963 (((hF957.2.1 175 (by decide)).trans ((gA_sA_ne (by decide)).trans ((gA_sI).trans ((gA_sA_ne (by decide)).trans ((gA_sI).trans ((hF931.2.1 175 ma_X5_step_176_175).trans ((hF694.2.1 175 ma_X5_isWord_176_175).trans (hF685.2.1 175 ma_X5_isWord_176_175))))))))) (((hF957.1 174 1 (by decide)).trans ((gI_sW).trans ((gI_sI_ne (by decide)).trans ((gI_sW).trans ((gI_sI_ne (by decide)).trans ((hF931.1 174 1 mf_X5_step_176_174_1).trans ((hF694.1 174 1 mf_X5_isWord_176_174_1).trans (hF685.1 174 1 mf_X5_isWord_176_174_1)))))))))).choose_spec (by omega))); rw [x1040]; rw [show (kX g0 + 1 : Int) = v941.toInt from by omega] at h6; exact h6.eq (rX.c (b := 2) (((gI_sW).trans ((hF1018.1 176 2 mf_X5_isWord_176_176_2).trans (gI_sW))))) (rX.c (b := 4) (((gI_sW).trans ((hF1018.1 176 4 mf_X5_isWord_176_176_4).trans (gI_sW))))) (rX.c (b := 6) (((gI_sW).trans ((hF1018.1 176 6 mf_X5_isWord_176_176_6).trans (gI_sW)))))⟩, (by first | exact (fun hz => absurd hz (by omega)) | exact CGX_s tok935 (by omega) (Int.le_of_lt (TOK_lt tok935 (by omega))) (SCX.x (SCX.mk (((hF931.2.1 178 ma_X5_step_176_178).trans ((hF694.2.1 178 ma_X5_isWord_176_178).trans (hF685.2.1 178 ma_X5_isWord_176_178)))) (((hF931.2.1 179 ma_X5_step_176_179).trans ((hF694.2.1 179 ma_X5_isWord_176_179).trans (hF685.2.1 179 ma_X5_isWord_176_179)))) (((hF931.1 177 0 mf_X5_step_176_177_0).trans ((hF694.1 177 0 mf_X5_isWord_176_177_0).trans (hF685.1 177 0 mf_X5_isWord_176_177_0))))) (rX.c (b := 6) (((hF931.1 176 6 mf_X5_step_176_176_6).trans ((hF694.1 176 6 mf_X5_isWord_176_176_6).trans (hF685.1 176 6 mf_X5_isWord_176_176_6)))))) (GPX.k gx970 (by decide) (by decide) (by decide) (by decide)) (TKX.someC o963 (((hF957.2.1 175 (by decide)).trans ((gA_sA_ne (by decide)).trans ((gA_sI).trans ((gA_sA_ne (by decide)).trans ((gA_sI).trans ((hF931.2.1 175 ma_X5_step_176_175).trans ((hF694.2.1 175 ma_X5_isWord_176_175).trans (hF685.2.1 175 ma_X5_isWord_176_175))))))))) (((hF957.1 174 1 (by decide)).trans ((gI_sW).trans ((gI_sI_ne (by decide)).trans ((gI_sW).trans ((gI_sI_ne (by decide)).trans ((hF931.1 174 1 mf_X5_step_176_174_1).trans ((hF694.1 174 1 mf_X5_isWord_176_174_1).trans (hF685.1 174 1 mf_X5_isWord_176_174_1)))))))))).choose_spec (fun hz => (o966 hz).2.2.1 rfl) (fun _ => by omega) (SCX.x (SCX.mk (((gA_sA_ne (by decide)).trans ((hF1018.2.1 178 ma_X5_isWord_176_178).trans (gA_sA_ne (by decide))))) (((gA_sA_ne (by decide)).trans ((hF1018.2.1 179 ma_X5_isWord_176_179).trans (gA_sA_ne (by decide))))) (((gI_sW).trans ((hF1018.1 177 0 mf_X5_isWord_176_177_0).trans (gI_sW))))) (rX.c (b := 6) (((gI_sW).trans ((hF1018.1 176 6 mf_X5_isWord_176_176_6).trans (gI_sW)))))) (rX.c (b := 4) (((gI_sW).trans ((hF1018.1 176 4 mf_X5_isWord_176_176_4).trans (gI_sW))))) (rX.c (b := 6) (((gI_sW).trans ((hF1018.1 176 6 mf_X5_isWord_176_176_6).trans (gI_sW))))) (fun z => by omega) (fun _ => ⟨by show (gI _ 177 3).toInt = (gI g0 177 3).toInt + 1; omega, (by show (eA _ 180 (gI g0 177 3).toInt).toInt = _; rw [show (gI g0 177 3).toInt = v927.toInt by omega]; exact (congrArg Int32.toInt (((eA_c (gA_sA_ne (by decide))).trans ((eA_c (hF1018.2.1 180 ma_X5_isWord_176_180)).trans ((eA_c (gA_sA_ne (by decide))).trans ((eA_c (hF957.2.1 180 (by decide))).trans ((eA_c (gA_sA_ne (by decide))).trans ((eA_c gA_sI).trans (eA_sA_eq hI942.1 ka_180 (by first | rfl | omega) (by first | decide | omega) (by first | decide | omega)))))))))).trans (by omega)), (by show (eA _ 181 (gI g0 177 3).toInt).toInt = _; rw [show (gI g0 177 3).toInt = v927.toInt by omega]; exact (congrArg Int32.toInt (((eA_c (gA_sA_ne (by decide))).trans ((eA_c (hF1018.2.1 181 ma_X5_isWord_176_181)).trans ((eA_c (gA_sA_ne (by decide))).trans ((eA_c (hF957.2.1 181 (by decide))).trans (eA_sA_eq hI948.1 ka_181 (by first | rfl | omega) (by first | decide | omega) (by first | decide | omega)))))))).trans (by omega)), (by show (eA _ 182 (gI g0 177 3).toInt).toInt = _; rw [show (gI g0 177 3).toInt = v927.toInt by omega]; exact (congrArg Int32.toInt (((eA_c (gA_sA_ne (by decide))).trans ((eA_c (hF1018.2.1 182 ma_X5_isWord_176_182)).trans (eA_sA_eq hI956.1 ka_182 (by first | rfl | omega) (by first | decide | omega) (by first | decide | omega)))))).trans (by omega)), (by show (eA _ 183 (gI g0 177 3).toInt).toInt = _; rw [show (gI g0 177 3).toInt = v927.toInt by omega]; exact (congrArg Int32.toInt ((eA_sA_eq hI1017.1 ka_183 (by first | rfl | omega) (by first | decide | omega) (by first | decide | omega)))).trans (by omega)), fun i i0 i1 => by have i2 : i < (gI g0 177 3).toInt := i1; exact ⟨(congrArg Int32.toInt (((eA_c (gA_sA_ne (by decide))).trans ((eA_c (hF1018.2.1 180 ma_X5_isWord_176_180)).trans ((eA_c (gA_sA_ne (by decide))).trans ((eA_c (hF957.2.1 180 (by decide))).trans ((eA_c (gA_sA_ne (by decide))).trans ((eA_c gA_sI).trans ((eA_sA_ne (i := i) hI942.1 ka_180 (by omega) (by omega) (by omega)).trans ((eA_c gA_sI).trans ((eA_c (hF931.2.1 180 ma_X5_step_176_180)).trans ((eA_c (hF694.2.1 180 ma_X5_isWord_176_180)).trans (eA_c (hF685.2.1 180 ma_X5_isWord_176_180)))))))))))))), (congrArg Int32.toInt (((eA_c (gA_sA_ne (by decide))).trans ((eA_c (hF1018.2.1 181 ma_X5_isWord_176_181)).trans ((eA_c (gA_sA_ne (by decide))).trans ((eA_c (hF957.2.1 181 (by decide))).trans ((eA_sA_ne (i := i) hI948.1 ka_181 (by omega) (by omega) (by omega)).trans ((eA_c gA_sI).trans ((eA_c (gA_sA_ne (by decide))).trans ((eA_c gA_sI).trans ((eA_c (hF931.2.1 181 ma_X5_step_176_181)).trans ((eA_c (hF694.2.1 181 ma_X5_isWord_176_181)).trans (eA_c (hF685.2.1 181 ma_X5_isWord_176_181)))))))))))))), (congrArg Int32.toInt (((eA_c (gA_sA_ne (by decide))).trans ((eA_c (hF1018.2.1 182 ma_X5_isWord_176_182)).trans ((eA_sA_ne (i := i) hI956.1 ka_182 (by omega) (by omega) (by omega)).trans ((eA_c (hF957.2.1 182 (by decide))).trans ((eA_c (gA_sA_ne (by decide))).trans ((eA_c gA_sI).trans ((eA_c (gA_sA_ne (by decide))).trans ((eA_c gA_sI).trans ((eA_c (hF931.2.1 182 ma_X5_step_176_182)).trans ((eA_c (hF694.2.1 182 ma_X5_isWord_176_182)).trans (eA_c (hF685.2.1 182 ma_X5_isWord_176_182)))))))))))))), (congrArg Int32.toInt (((eA_sA_ne (i := i) hI1017.1 ka_183 (by omega) (by omega) (by omega)).trans ((eA_c (hF1018.2.1 183 ma_X5_isWord_176_183)).trans ((eA_c (gA_sA_ne (by decide))).trans ((eA_c (hF957.2.1 183 (by decide))).trans ((eA_c (gA_sA_ne (by decide))).trans ((eA_c gA_sI).trans ((eA_c (gA_sA_ne (by decide))).trans ((eA_c gA_sI).trans ((eA_c (hF931.2.1 183 ma_X5_step_176_183)).trans ((eA_c (hF694.2.1 183 ma_X5_isWord_176_183)).trans (eA_c (hF685.2.1 183 ma_X5_isWord_176_183))))))))))))))⟩⟩)), (SPP_new (h := (1 : Int32).toInt) hv946 (((gI_sW).trans ((hF1018.1 177 4 mf_X5_isWord_176_177_4).trans ((gI_sW).trans ((hF957.1 177 4 (by decide)).trans ((gI_sW).trans (gI_sI_eq hI944.1 kx_177 rfl _))))))) hv947 (by first | exact Or.inl ⟨rfl, rfl⟩ | exact Or.inr (Or.inl ⟨rfl, rfl⟩) | exact Or.inr (Or.inr ⟨rfl, rfl⟩)) (by show (gI _ 177 3).toInt = (gI g0 177 3).toInt + 1; omega) (by show (eA _ 180 (gI g0 177 3).toInt).toInt = _; rw [show (gI g0 177 3).toInt = v927.toInt by omega]; exact congrArg Int32.toInt (((eA_c (gA_sA_ne (by decide))).trans ((eA_c (hF1018.2.1 180 ma_X5_isWord_176_180)).trans ((eA_c (gA_sA_ne (by decide))).trans ((eA_c (hF957.2.1 180 (by decide))).trans ((eA_c (gA_sA_ne (by decide))).trans ((eA_c gA_sI).trans (eA_sA_eq hI942.1 ka_180 (by first | rfl | omega) (by first | decide | omega) (by first | decide | omega)))))))))) (fun i i0 i1 => by have i2 : i < (gI g0 177 3).toInt := i1; exact congrArg Int32.toInt (((eA_c (gA_sA_ne (by decide))).trans ((eA_c (hF1018.2.1 180 ma_X5_isWord_176_180)).trans ((eA_c (gA_sA_ne (by decide))).trans ((eA_c (hF957.2.1 180 (by decide))).trans ((eA_c (gA_sA_ne (by decide))).trans ((eA_c gA_sI).trans ((eA_sA_ne (i := i) hI942.1 ka_180 (by omega) (by omega) (by omega)).trans ((eA_c gA_sI).trans ((eA_c (hF931.2.1 180 ma_X5_step_176_180)).trans ((eA_c (hF694.2.1 180 ma_X5_isWord_176_180)).trans (eA_c (hF685.2.1 180 ma_X5_isWord_176_180)))))))))))))))⟩⟩
          · have c1023_ : v1019.toInt ≠ 0 := en_k_eq_f c1023
            have i1059 := BL.yes hb1022 (by omega)
            refine At.enter rfl ?_
            refine r_aload_n rfl ?_
            refine r_callV 168 rfl [.ref 176] [] (Nat.le_of_ble_eq_true rfl) rfl (T_X5_step_176 _ hI1017 (TKX.c o963 (((hF1018.2.1 175 ma_X5_isWord_176_175).trans (gA_sA_ne (by decide)))) (((hF1018.1 174 1 mf_X5_isWord_176_174_1).trans (gI_sW))) (((hF1018.1 176 3 mf_X5_isWord_176_176_3).trans (gI_sW))) (((hF1018.1 176 4 mf_X5_isWord_176_176_4).trans (gI_sW))) (((hF1018.1 176 5 mf_X5_isWord_176_176_5).trans (gI_sW)))).1 (TKX.c o963 (((hF1018.2.1 175 ma_X5_isWord_176_175).trans (gA_sA_ne (by decide)))) (((hF1018.1 174 1 mf_X5_isWord_176_174_1).trans (gI_sW))) (((hF1018.1 176 3 mf_X5_isWord_176_176_3).trans (gI_sW))) (((hF1018.1 176 4 mf_X5_isWord_176_176_4).trans (gI_sW))) (((hF1018.1 176 5 mf_X5_isWord_176_176_5).trans (gI_sW)))).2.1.le.2.1) ?_
            rintro _ _ ⟨g1060, rfl, hI1061, hF1062, rfl, hr1064⟩
            refine At.stn ?_
            have hF1065 := Fr.tr hF1021 hF1062 rfl rfl
            have tok1066_ := hr1064.2
            rw [TX.c (((hF1018.2.1 175 ma_X5_isWord_176_175).trans (gA_sA_ne (by decide)))), nX.c (((hF1018.1 174 1 mf_X5_isWord_176_174_1).trans (gI_sW))), rX.c (b := 5) (((hF1018.1 176 5 mf_X5_isWord_176_176_5).trans (gI_sW)))] at tok1066_
            have tok1066 := TKX.tok o963 tok1066_
            rw [TX.c (((hF957.2.1 175 (by decide)).trans ((gA_sA_ne (by decide)).trans ((gA_sI).trans ((gA_sA_ne (by decide)).trans ((gA_sI).trans ((hF931.2.1 175 ma_X5_step_176_175).trans ((hF694.2.1 175 ma_X5_isWord_176_175).trans (hF685.2.1 175 ma_X5_isWord_176_175))))))))), nX.c (((hF957.1 174 1 (by decide)).trans ((gI_sW).trans ((gI_sI_ne (by decide)).trans ((gI_sW).trans ((gI_sI_ne (by decide)).trans ((hF931.1 174 1 mf_X5_step_176_174_1).trans ((hF694.1 174 1 mf_X5_isWord_176_174_1).trans (hF685.1 174 1 mf_X5_isWord_176_174_1)))))))))] at tok1066
            have hT1067 := hr1064.1
            have x1068 := rX.e hI1017 (b := 4) ((((hF1018.1 176 4 mf_X5_isWord_176_176_4).trans (gI_sW)).trans hv976))
            obtain ⟨v1069, hv1069⟩ : ∃ v, gI g1060 176 4 = v := ⟨_, rfl⟩
            have rv1069 := RgF.at hI1061.2.1 (p := 176) (b := 4) rfl
            rw [hv1069] at rv1069
            dsimp only at rv1069
            have tv1069 := congrArg Int32.toInt hv1069
            have x1070 := rX.e hI1061 (b := 4) (hv1069)
            refine At.enter rfl ?_
            refine r_aload_n rfl ?_
            refine r_iconst 0 rfl ?_
            refine r_iconst 0 rfl ?_
            have zv1071 : (0 : Int32).toInt = 0 := rfl
            have zv1072 : (0 : Int32).toInt = 0 := rfl
            refine r_callV 174 rfl [.ref 176, .int 0, .int 0] [] (Nat.le_of_ble_eq_true rfl) rfl (T_X5_readJoined_176 _ hI1061 0 (by decide) 0 (by decide) hT1067) ?_
            rintro _ _ ⟨g1073, rfl, hI1074, hF1075, rfl, hr1077⟩
            refine At.stn ?_
            have hF1078 := Fr.tr hF1065 hF1075 rfl rfl
            have zv1079 : (0 : Int32).toInt = 0 := rfl
            have zv1080 : (0 : Int32).toInt = 0 := rfl
            have x1085 := rX.e hI1061 (b := 2) ((((hF1062.1 176 2 mf_X5_step_176_176_2).trans ((hF1018.1 176 2 mf_X5_isWord_176_176_2).trans (gI_sW))).trans hv974))
            have x1086 := rX.e hI1061 (b := 4) (hv1069)
            obtain ⟨o1081, o1082, o1083, o1084⟩ := hr1077.1
            have gx1087 := hr1077.2
            rw [TX.ci hI1061 (((hF1062.2.1 175 ma_X5_step_176_175).trans ((hF1018.2.1 175 ma_X5_isWord_176_175).trans ((gA_sA_ne (by decide)).trans ((hF957.2.1 175 (by decide)).trans ((gA_sA_ne (by decide)).trans ((gA_sI).trans ((gA_sA_ne (by decide)).trans ((gA_sI).trans ((hF931.2.1 175 ma_X5_step_176_175).trans ((hF694.2.1 175 ma_X5_isWord_176_175).trans (hF685.2.1 175 ma_X5_isWord_176_175)))))))))))), nX.ci hI1061 (((hF1062.1 174 1 mf_X5_step_176_174_1).trans ((hF1018.1 174 1 mf_X5_isWord_176_174_1).trans ((gI_sW).trans ((hF957.1 174 1 (by decide)).trans ((gI_sW).trans ((gI_sI_ne (by decide)).trans ((gI_sW).trans ((gI_sI_ne (by decide)).trans ((hF931.1 174 1 mf_X5_step_176_174_1).trans ((hF694.1 174 1 mf_X5_isWord_176_174_1).trans (hF685.1 174 1 mf_X5_isWord_176_174_1))))))))))))] at gx1087
            have o1088 := OPD.tc o1083 (((hF1062.2.1 175 ma_X5_step_176_175).trans ((hF1018.2.1 175 ma_X5_isWord_176_175).trans ((gA_sA_ne (by decide)).trans ((hF957.2.1 175 (by decide)).trans ((gA_sA_ne (by decide)).trans ((gA_sI).trans ((gA_sA_ne (by decide)).trans ((gA_sI).trans ((hF931.2.1 175 ma_X5_step_176_175).trans ((hF694.2.1 175 ma_X5_isWord_176_175).trans (hF685.2.1 175 ma_X5_isWord_176_175)))))))))))) (((hF1062.1 174 1 mf_X5_step_176_174_1).trans ((hF1018.1 174 1 mf_X5_isWord_176_174_1).trans ((gI_sW).trans ((hF957.1 174 1 (by decide)).trans ((gI_sW).trans ((gI_sI_ne (by decide)).trans ((gI_sW).trans ((gI_sI_ne (by decide)).trans ((hF931.1 174 1 mf_X5_step_176_174_1).trans ((hF694.1 174 1 mf_X5_isWord_176_174_1).trans (hF685.1 174 1 mf_X5_isWord_176_174_1))))))))))))
            obtain ⟨v1089, hv1089⟩ : ∃ v, gI g1073 176 2 = v := ⟨_, rfl⟩
            have tv1089 := congrArg Int32.toInt hv1089
            have x1090 := rX.e hI1074 (b := 2) (hv1089)
            obtain ⟨v1091, hv1091⟩ : ∃ v, gI g1073 176 4 = v := ⟨_, rfl⟩
            have rv1091 := RgF.at hI1074.2.1 (p := 176) (b := 4) rfl
            rw [hv1091] at rv1091
            dsimp only at rv1091
            have tv1091 := congrArg Int32.toInt hv1091
            have x1092 := rX.e hI1074 (b := 4) (hv1091)
            refine At.enter rfl ?_
            refine r_aload_n rfl ?_
            refine q_getR (Sh.ref hI1074.1 kx_176 rfl) ?_
            refine q_getR (Sh.ref hI1074.1 kx_177 rfl) ?_
            refine r_iload_n rfl ?_
            refine r_aload_n rfl ?_
            refine q_getR (Sh.ref hI1074.1 kx_176 rfl) ?_
            obtain ⟨v1093, hv1093⟩ : ∃ v, gI g1073 177 0 = v := ⟨_, rfl⟩
            have rv1093 := RgF.at hI1074.2.1 (p := 177) (b := 0) rfl
            rw [hv1093] at rv1093
            dsimp only at rv1093
            refine q_getI (Sh.int hI1074.1 kx_177 rfl) v1093 hv1093 ?_
            refine q_iast (Sh.arr hI1074.1 ka_183) (v927.toInt) rfl (by omega) ?_
            have hI1094 := HI.wA0 hI1074 ka_183 (p := 183) rfl rfl (v927.toInt) (v1093)
            have hF1095 := Fr.wA (p := 183) (j := v927.toInt) (v := v1093) hF1078 rfl
            refine r_vret ?_
            have x1096 := rX.e hI1094 (b := 2) (((gI_sW).trans hv1089))
            have x1097 := rX.e hI0 (b := 2) (hv967)
            have x1098 := rX.e hI1094 (b := 4) (((gI_sW).trans hv1091))
            have x1099 := rX.e hI0 (b := 4) (hv937)
            obtain ⟨v1100, hv1100⟩ : ∃ v, gI g1073 176 6 = v := ⟨_, rfl⟩
            have tv1100 := congrArg Int32.toInt hv1100
            have x1101 := rX.e hI1094 (b := 6) (((gI_sW).trans hv1100))
            obtain ⟨v1102, hv1102⟩ : ∃ v, gI g0 176 6 = v := ⟨_, rfl⟩
            have tv1102 := congrArg Int32.toInt hv1102
            have x1103 := rX.e hI0 (b := 6) (hv1102)
            have x1104 := rX.e hI930 (b := 2) ((((hF931.1 176 2 mf_X5_step_176_176_2).trans ((hF694.1 176 2 mf_X5_isWord_176_176_2).trans (hF685.1 176 2 mf_X5_isWord_176_176_2))).trans hv967))
            have x1105 := rX.e hI930 (b := 4) (hv939)
            have x1106 := rX.e hI956 (b := 2) (hv974)
            have x1107 := rX.e hI956 (b := 4) (hv976)
            have x1108 := rX.e hI1061 (b := 2) ((((hF1062.1 176 2 mf_X5_step_176_176_2).trans ((hF1018.1 176 2 mf_X5_isWord_176_176_2).trans (gI_sW))).trans hv974))
            have x1109 := rX.e hI1061 (b := 4) (hv1069)
            have x1110 := rX.e hI1074 (b := 2) (hv1089)
            have x1111 := rX.e hI1074 (b := 4) (hv1091)
            have x1112 := kX.e hI0 (hv927)
            have x1113 := kX.e hI1094 (((gI_sW).trans ((hF1075.1 177 3 (by decide)).trans ((hF1062.1 177 3 mf_X5_step_176_177_3).trans ((hF1018.1 177 3 mf_X5_isWord_176_177_3).trans ((gI_sW).trans ((hF957.1 177 3 (by decide)).trans ((gI_sW).trans ((gI_sI_ne (by decide)).trans ((gI_sW).trans (gI_sI_eq hI930.1 kx_177 rfl _)))))))))))
            have pr1114 : _ ∧ _ ∧ _ := o972
            have pr1115 : _ ∧ _ ∧ _ := o1082
            have x1116 := rX.e hI930 (b := 2) ((((hF931.1 176 2 mf_X5_step_176_176_2).trans ((hF694.1 176 2 mf_X5_isWord_176_176_2).trans (hF685.1 176 2 mf_X5_isWord_176_176_2))).trans hv967))
            have x1117 := rX.e hI930 (b := 4) (hv939)
            have x1118 := rX.e hI930 (b := 6) ((((hF931.1 176 6 mf_X5_step_176_176_6).trans ((hF694.1 176 6 mf_X5_isWord_176_176_6).trans (hF685.1 176 6 mf_X5_isWord_176_176_6))).trans hv1102))
            have x1119 := rX.e hI956 (b := 2) (hv974)
            have x1120 := rX.e hI956 (b := 4) (hv976)
            obtain ⟨v1121, hv1121⟩ : ∃ v, gI g955 176 6 = v := ⟨_, rfl⟩
            have tv1121 := congrArg Int32.toInt hv1121
            have x1122 := rX.e hI956 (b := 6) (hv1121)
            have x1123 := rX.e hI1061 (b := 2) ((((hF1062.1 176 2 mf_X5_step_176_176_2).trans ((hF1018.1 176 2 mf_X5_isWord_176_176_2).trans (gI_sW))).trans hv974))
            have x1124 := rX.e hI1061 (b := 4) (hv1069)
            have x1125 := rX.e hI1061 (b := 6) ((((hF1062.1 176 6 mf_X5_step_176_176_6).trans ((hF1018.1 176 6 mf_X5_isWord_176_176_6).trans (gI_sW))).trans hv1121))
            have x1126 := rX.e hI1074 (b := 2) (hv1089)
            have x1127 := rX.e hI1074 (b := 4) (hv1091)
            have x1128 := rX.e hI1074 (b := 6) (hv1100)
            have y1129 : lX g0 = v950.toInt := congrArg Int32.toInt (hv950)
            have y1130 : lX g929 = v950.toInt := congrArg Int32.toInt ((((hF931.1 177 0 mf_X5_step_176_177_0).trans ((hF694.1 177 0 mf_X5_isWord_176_177_0).trans (hF685.1 177 0 mf_X5_isWord_176_177_0))).trans hv950))
            have y1131 : lX g955 = v978.toInt := congrArg Int32.toInt (hv978)
            have y1132 : lX g1060 = v978.toInt := congrArg Int32.toInt ((((hF1062.1 177 0 mf_X5_step_176_177_0).trans ((hF1018.1 177 0 mf_X5_isWord_176_177_0).trans (gI_sW))).trans hv978))
            have y1133 : lX g1073 = v1093.toInt := congrArg Int32.toInt (hv1093)
            have y1134 := lX.e hI1094 (((gI_sW).trans hv1093))
            have zv1135 : (0 : Int32).toInt = 0 := rfl
            have zv1136 : (1 : Int32).toInt = 1 := rfl
            have zv1137 : (2 : Int32).toInt = 2 := rfl
            have y1138 : (gI g0 177 3).toInt = v927.toInt := congrArg Int32.toInt (hv927)
            have y1139 := HI.eqI hI1094 (p := 177) (b := 3) (((gI_sW).trans ((hF1075.1 177 3 (by decide)).trans ((hF1062.1 177 3 mf_X5_step_176_177_3).trans ((hF1018.1 177 3 mf_X5_isWord_176_177_3).trans ((gI_sW).trans ((hF957.1 177 3 (by decide)).trans ((gI_sW).trans ((gI_sI_ne (by decide)).trans ((gI_sW).trans (gI_sI_eq hI930.1 kx_177 rfl _)))))))))))
            have y1140 : (gI g0 177 3).toInt = v927.toInt := congrArg Int32.toInt (hv927)
            have y1141 := HI.eqI hI1094 (p := 177) (b := 3) (((gI_sW).trans ((hF1075.1 177 3 (by decide)).trans ((hF1062.1 177 3 mf_X5_step_176_177_3).trans ((hF1018.1 177 3 mf_X5_isWord_176_177_3).trans ((gI_sW).trans ((hF957.1 177 3 (by decide)).trans ((gI_sW).trans ((gI_sI_ne (by decide)).trans ((gI_sW).trans (gI_sI_eq hI930.1 kx_177 rfl _)))))))))))
            exact ⟨_, rfl, hI1094, hF1095, rfl, ⟨⟨(TKX.c o1081 ((gA_sA_ne (by decide))) ((gI_sW)) ((gI_sW)) ((gI_sW)) ((gI_sW))), ((PRG0.tr ((PRG0.tr ((PRG0.tr ((PRG0.tr (PRG0.step hT tok935_ (rX.c (b := 2) (((hF931.1 176 2 mf_X5_step_176_176_2).trans ((hF694.1 176 2 mf_X5_isWord_176_176_2).trans (hF685.1 176 2 mf_X5_isWord_176_176_2))))) (by omega)) (o972))) (PRG0.step o963 tok1066_ (rX.c (b := 2) (((hF1062.1 176 2 mf_X5_step_176_176_2).trans ((hF1018.1 176 2 mf_X5_isWord_176_176_2).trans (gI_sW))))) (by omega)))) (o1082))) (PRG0.eq (rX.c (b := 4) ((gI_sW))) (rX.c (b := 2) ((gI_sW)))))).le (by omega), fun c0 h => by have h1 : CST (TX g0) (nX g0) c0 g929 1 [3] (kX g0 + 1) := CLX.head h (fun _ => S.cls tok935 (by omega) (by omega) rfl) (rX.c (b := 2) (((hF931.1 176 2 mf_X5_step_176_176_2).trans ((hF694.1 176 2 mf_X5_isWord_176_176_2).trans (hF685.1 176 2 mf_X5_isWord_176_176_2))))) (rX.c (b := 6) (((hF931.1 176 6 mf_X5_step_176_176_6).trans ((hF694.1 176 6 mf_X5_isWord_176_176_6).trans (hF685.1 176 6 mf_X5_isWord_176_176_6))))); have h3 := CLX.sum o973 h1 (TKX.someC o963 (((hF957.2.1 175 (by decide)).trans ((gA_sA_ne (by decide)).trans ((gA_sI).trans ((gA_sA_ne (by decide)).trans ((gA_sI).trans ((hF931.2.1 175 ma_X5_step_176_175).trans ((hF694.2.1 175 ma_X5_isWord_176_175).trans (hF685.2.1 175 ma_X5_isWord_176_175))))))))) (((hF957.1 174 1 (by decide)).trans ((gI_sW).trans ((gI_sI_ne (by decide)).trans ((gI_sW).trans ((gI_sI_ne (by decide)).trans ((hF931.1 174 1 mf_X5_step_176_174_1).trans ((hF694.1 174 1 mf_X5_isWord_176_174_1).trans (hF685.1 174 1 mf_X5_isWord_176_174_1)))))))))).choose_spec o966; have h4 := CLX.head h3 (fun _ => S.if_ tok1066 (by omega)) (rX.c (b := 2) (((hF1062.1 176 2 mf_X5_step_176_176_2).trans ((hF1018.1 176 2 mf_X5_isWord_176_176_2).trans (gI_sW))))) (rX.c (b := 6) (((hF1062.1 176 6 mf_X5_step_176_176_6).trans ((hF1018.1 176 6 mf_X5_isWord_176_176_6).trans (gI_sW))))); have h6 := CLX.test o1088 h4 (TKX.someC o1081 (((hF1075.2.1 175 (by decide)).trans ((hF1062.2.1 175 ma_X5_step_176_175).trans ((hF1018.2.1 175 ma_X5_isWord_176_175).trans ((gA_sA_ne (by decide)).trans ((hF957.2.1 175 (by decide)).trans ((gA_sA_ne (by decide)).trans ((gA_sI).trans ((gA_sA_ne (by decide)).trans ((gA_sI).trans ((hF931.2.1 175 ma_X5_step_176_175).trans ((hF694.2.1 175 ma_X5_isWord_176_175).trans (hF685.2.1 175 ma_X5_isWord_176_175))))))))))))) (((hF1075.1 174 1 (by decide)).trans ((hF1062.1 174 1 mf_X5_step_176_174_1).trans ((hF1018.1 174 1 mf_X5_isWord_176_174_1).trans ((gI_sW).trans ((hF957.1 174 1 (by decide)).trans ((gI_sW).trans ((gI_sI_ne (by decide)).trans ((gI_sW).trans ((gI_sI_ne (by decide)).trans ((hF931.1 174 1 mf_X5_step_176_174_1).trans ((hF694.1 174 1 mf_X5_isWord_176_174_1).trans (hF685.1 174 1 mf_X5_isWord_176_174_1)))))))))))))).choose_spec o1084; rw [x1113]; rw [show (kX g0 + 1 : Int) = v941.toInt from by omega] at h6; exact h6.eq (rX.c (b := 2) ((gI_sW))) (rX.c (b := 4) ((gI_sW))) (rX.c (b := 6) ((gI_sW)))⟩, (by first | exact (fun hz => absurd hz (by omega)) | exact CGX_st tok935 (by omega) (Int.le_of_lt (TOK_lt tok935 (by omega))) (SCX.x (SCX.mk (((hF931.2.1 178 ma_X5_step_176_178).trans ((hF694.2.1 178 ma_X5_isWord_176_178).trans (hF685.2.1 178 ma_X5_isWord_176_178)))) (((hF931.2.1 179 ma_X5_step_176_179).trans ((hF694.2.1 179 ma_X5_isWord_176_179).trans (hF685.2.1 179 ma_X5_isWord_176_179)))) (((hF931.1 177 0 mf_X5_step_176_177_0).trans ((hF694.1 177 0 mf_X5_isWord_176_177_0).trans (hF685.1 177 0 mf_X5_isWord_176_177_0))))) (rX.c (b := 6) (((hF931.1 176 6 mf_X5_step_176_176_6).trans ((hF694.1 176 6 mf_X5_isWord_176_176_6).trans (hF685.1 176 6 mf_X5_isWord_176_176_6)))))) (GPX.k gx970 (by decide) (by decide) (by decide) (by decide)) tok1066 (fun hz => (o966 hz).2.2.1 rfl) (by omega) (Int.le_of_lt (TOK_lt tok1066 (by omega))) (SCX.x (SCX.mk (((hF1062.2.1 178 ma_X5_step_176_178).trans ((hF1018.2.1 178 ma_X5_isWord_176_178).trans (gA_sA_ne (by decide))))) (((hF1062.2.1 179 ma_X5_step_176_179).trans ((hF1018.2.1 179 ma_X5_isWord_176_179).trans (gA_sA_ne (by decide))))) (((hF1062.1 177 0 mf_X5_step_176_177_0).trans ((hF1018.1 177 0 mf_X5_isWord_176_177_0).trans (gI_sW))))) (rX.c (b := 6) (((hF1062.1 176 6 mf_X5_step_176_176_6).trans ((hF1018.1 176 6 mf_X5_isWord_176_176_6).trans (gI_sW)))))) (GPX.k gx1087 (by decide) (by decide) (by decide) (by decide)) (TKX.someC o1081 (((hF1075.2.1 175 (by decide)).trans ((hF1062.2.1 175 ma_X5_step_176_175).trans ((hF1018.2.1 175 ma_X5_isWord_176_175).trans ((gA_sA_ne (by decide)).trans ((hF957.2.1 175 (by decide)).trans ((gA_sA_ne (by decide)).trans ((gA_sI).trans ((gA_sA_ne (by decide)).trans ((gA_sI).trans ((hF931.2.1 175 ma_X5_step_176_175).trans ((hF694.2.1 175 ma_X5_isWord_176_175).trans (hF685.2.1 175 ma_X5_isWord_176_175))))))))))))) (((hF1075.1 174 1 (by decide)).trans ((hF1062.1 174 1 mf_X5_step_176_174_1).trans ((hF1018.1 174 1 mf_X5_isWord_176_174_1).trans ((gI_sW).trans ((hF957.1 174 1 (by decide)).trans ((gI_sW).trans ((gI_sI_ne (by decide)).trans ((gI_sW).trans ((gI_sI_ne (by decide)).trans ((hF931.1 174 1 mf_X5_step_176_174_1).trans ((hF694.1 174 1 mf_X5_isWord_176_174_1).trans (hF685.1 174 1 mf_X5_isWord_176_174_1)))))))))))))).choose_spec (fun hz => (o1084 hz).1 rfl) (SCX.x (SCX.mk ((gA_sA_ne (by decide))) ((gA_sA_ne (by decide))) ((gI_sW))) (rX.c (b := 6) ((gI_sW)))) (rX.c (b := 4) ((gI_sW))) (rX.c (b := 6) ((gI_sW))) (fun z => by omega) (fun z => by omega) (fun _ => ⟨by show (gI _ 177 3).toInt = (gI g0 177 3).toInt + 1; omega, (by show (eA _ 180 (gI g0 177 3).toInt).toInt = _; rw [show (gI g0 177 3).toInt = v927.toInt by omega]; exact (congrArg Int32.toInt (((eA_c (gA_sA_ne (by decide))).trans ((eA_c (hF1075.2.1 180 (by decide))).trans ((eA_c (hF1062.2.1 180 ma_X5_step_176_180)).trans ((eA_c (hF1018.2.1 180 ma_X5_isWord_176_180)).trans ((eA_c (gA_sA_ne (by decide))).trans ((eA_c (hF957.2.1 180 (by decide))).trans ((eA_c (gA_sA_ne (by decide))).trans ((eA_c gA_sI).trans (eA_sA_eq hI942.1 ka_180 (by first | rfl | omega) (by first | decide | omega) (by first | decide | omega)))))))))))).trans (by omega)), (by show (eA _ 181 (gI g0 177 3).toInt).toInt = _; rw [show (gI g0 177 3).toInt = v927.toInt by omega]; exact (congrArg Int32.toInt (((eA_c (gA_sA_ne (by decide))).trans ((eA_c (hF1075.2.1 181 (by decide))).trans ((eA_c (hF1062.2.1 181 ma_X5_step_176_181)).trans ((eA_c (hF1018.2.1 181 ma_X5_isWord_176_181)).trans ((eA_c (gA_sA_ne (by decide))).trans ((eA_c (hF957.2.1 181 (by decide))).trans (eA_sA_eq hI948.1 ka_181 (by first | rfl | omega) (by first | decide | omega) (by first | decide | omega)))))))))).trans (by omega)), (by show (eA _ 182 (gI g0 177 3).toInt).toInt = _; rw [show (gI g0 177 3).toInt = v927.toInt by omega]; exact (congrArg Int32.toInt (((eA_c (gA_sA_ne (by decide))).trans ((eA_c (hF1075.2.1 182 (by decide))).trans ((eA_c (hF1062.2.1 182 ma_X5_step_176_182)).trans ((eA_c (hF1018.2.1 182 ma_X5_isWord_176_182)).trans (eA_sA_eq hI956.1 ka_182 (by first | rfl | omega) (by first | decide | omega) (by first | decide | omega)))))))).trans (by omega)), (by show (eA _ 183 (gI g0 177 3).toInt).toInt = _; rw [show (gI g0 177 3).toInt = v927.toInt by omega]; exact (congrArg Int32.toInt ((eA_sA_eq hI1074.1 ka_183 (by first | rfl | omega) (by first | decide | omega) (by first | decide | omega)))).trans (by omega)), fun i i0 i1 => by have i2 : i < (gI g0 177 3).toInt := i1; exact ⟨(congrArg Int32.toInt (((eA_c (gA_sA_ne (by decide))).trans ((eA_c (hF1075.2.1 180 (by decide))).trans ((eA_c (hF1062.2.1 180 ma_X5_step_176_180)).trans ((eA_c (hF1018.2.1 180 ma_X5_isWord_176_180)).trans ((eA_c (gA_sA_ne (by decide))).trans ((eA_c (hF957.2.1 180 (by decide))).trans ((eA_c (gA_sA_ne (by decide))).trans ((eA_c gA_sI).trans ((eA_sA_ne (i := i) hI942.1 ka_180 (by omega) (by omega) (by omega)).trans ((eA_c gA_sI).trans ((eA_c (hF931.2.1 180 ma_X5_step_176_180)).trans ((eA_c (hF694.2.1 180 ma_X5_isWord_176_180)).trans (eA_c (hF685.2.1 180 ma_X5_isWord_176_180)))))))))))))))), (congrArg Int32.toInt (((eA_c (gA_sA_ne (by decide))).trans ((eA_c (hF1075.2.1 181 (by decide))).trans ((eA_c (hF1062.2.1 181 ma_X5_step_176_181)).trans ((eA_c (hF1018.2.1 181 ma_X5_isWord_176_181)).trans ((eA_c (gA_sA_ne (by decide))).trans ((eA_c (hF957.2.1 181 (by decide))).trans ((eA_sA_ne (i := i) hI948.1 ka_181 (by omega) (by omega) (by omega)).trans ((eA_c gA_sI).trans ((eA_c (gA_sA_ne (by decide))).trans ((eA_c gA_sI).trans ((eA_c (hF931.2.1 181 ma_X5_step_176_181)).trans ((eA_c (hF694.2.1 181 ma_X5_isWord_176_181)).trans (eA_c (hF685.2.1 181 ma_X5_isWord_176_181)))))))))))))))), (congrArg Int32.toInt (((eA_c (gA_sA_ne (by decide))).trans ((eA_c (hF1075.2.1 182 (by decide))).trans ((eA_c (hF1062.2.1 182 ma_X5_step_176_182)).trans ((eA_c (hF1018.2.1 182 ma_X5_isWord_176_182)).trans ((eA_sA_ne (i := i) hI956.1 ka_182 (by omega) (by omega) (by omega)).trans ((eA_c (hF957.2.1 182 (by decide))).trans ((eA_c (gA_sA_ne (by decide))).trans ((eA_c gA_sI).trans ((eA_c (gA_sA_ne (by decide))).trans ((eA_c gA_sI).trans ((eA_c (hF931.2.1 182 ma_X5_step_176_182)).trans ((eA_c (hF694.2.1 182 ma_X5_isWord_176_182)).trans (eA_c (hF685.2.1 182 ma_X5_isWord_176_182)))))))))))))))), (congrArg Int32.toInt (((eA_sA_ne (i := i) hI1074.1 ka_183 (by omega) (by omega) (by omega)).trans ((eA_c (hF1075.2.1 183 (by decide))).trans ((eA_c (hF1062.2.1 183 ma_X5_step_176_183)).trans ((eA_c (hF1018.2.1 183 ma_X5_isWord_176_183)).trans ((eA_c (gA_sA_ne (by decide))).trans ((eA_c (hF957.2.1 183 (by decide))).trans ((eA_c (gA_sA_ne (by decide))).trans ((eA_c gA_sI).trans ((eA_c (gA_sA_ne (by decide))).trans ((eA_c gA_sI).trans ((eA_c (hF931.2.1 183 ma_X5_step_176_183)).trans ((eA_c (hF694.2.1 183 ma_X5_isWord_176_183)).trans (eA_c (hF685.2.1 183 ma_X5_isWord_176_183))))))))))))))))⟩⟩)), (SPP_new (h := (1 : Int32).toInt) hv946 (((gI_sW).trans ((hF1075.1 177 4 (by decide)).trans ((hF1062.1 177 4 mf_X5_step_176_177_4).trans ((hF1018.1 177 4 mf_X5_isWord_176_177_4).trans ((gI_sW).trans ((hF957.1 177 4 (by decide)).trans ((gI_sW).trans (gI_sI_eq hI944.1 kx_177 rfl _))))))))) hv947 (by first | exact Or.inl ⟨rfl, rfl⟩ | exact Or.inr (Or.inl ⟨rfl, rfl⟩) | exact Or.inr (Or.inr ⟨rfl, rfl⟩)) (by show (gI _ 177 3).toInt = (gI g0 177 3).toInt + 1; omega) (by show (eA _ 180 (gI g0 177 3).toInt).toInt = _; rw [show (gI g0 177 3).toInt = v927.toInt by omega]; exact congrArg Int32.toInt (((eA_c (gA_sA_ne (by decide))).trans ((eA_c (hF1075.2.1 180 (by decide))).trans ((eA_c (hF1062.2.1 180 ma_X5_step_176_180)).trans ((eA_c (hF1018.2.1 180 ma_X5_isWord_176_180)).trans ((eA_c (gA_sA_ne (by decide))).trans ((eA_c (hF957.2.1 180 (by decide))).trans ((eA_c (gA_sA_ne (by decide))).trans ((eA_c gA_sI).trans (eA_sA_eq hI942.1 ka_180 (by first | rfl | omega) (by first | decide | omega) (by first | decide | omega)))))))))))) (fun i i0 i1 => by have i2 : i < (gI g0 177 3).toInt := i1; exact congrArg Int32.toInt (((eA_c (gA_sA_ne (by decide))).trans ((eA_c (hF1075.2.1 180 (by decide))).trans ((eA_c (hF1062.2.1 180 ma_X5_step_176_180)).trans ((eA_c (hF1018.2.1 180 ma_X5_isWord_176_180)).trans ((eA_c (gA_sA_ne (by decide))).trans ((eA_c (hF957.2.1 180 (by decide))).trans ((eA_c (gA_sA_ne (by decide))).trans ((eA_c gA_sI).trans ((eA_sA_ne (i := i) hI942.1 ka_180 (by omega) (by omega) (by omega)).trans ((eA_c gA_sI).trans ((eA_c (hF931.2.1 180 ma_X5_step_176_180)).trans ((eA_c (hF694.2.1 180 ma_X5_isWord_176_180)).trans (eA_c (hF685.2.1 180 ma_X5_isWord_176_180)))))))))))))))))⟩⟩
      · have c928_ : v927.toInt ≥ 12 := en_i_lt_f c928
        refine At.enter rfl ?_
        refine r_aload_n rfl ?_
        refine q_inlV 64 rfl [.ref 176] [] (Nat.le_of_ble_eq_true rfl) rfl ?_
        refine Ev.mk rfl rfl ⟨Nat.le_of_ble_eq_true rfl, Or.inr (q_rc hI693.1 kx_176 rfl)⟩ ?_
        show At _ none _ _ (0, [(0, .ref 176)], [], (_, _)) _
        refine At.enter rfl ?_
        refine r_aload_n rfl ?_
        obtain ⟨v1142, hv1142⟩ : ∃ v, gI g0 176 2 = v := ⟨_, rfl⟩
        refine q_getI (Sh.int hI693.1 kx_176 rfl) v1142 (((hF694.1 176 2 mf_X5_isWord_176_176_2).trans (hF685.1 176 2 mf_X5_isWord_176_176_2)).trans hv1142) ?_
        refine r_iconst (-1) rfl ?_
        refine r_ics 8 rfl (fun c1143 => ?_) (fun c1143 => ?_)
        · have c1143_ : v1142.toInt ≠ (-1) := en_i_ne_t c1143
          refine At.enter rfl ?_
          refine q_vret ?_
          refine At.enter rfl ?_
          refine r_vret ?_
          have x1144 := rX.e hI693 (b := 2) ((((hF694.1 176 2 mf_X5_isWord_176_176_2).trans (hF685.1 176 2 mf_X5_isWord_176_176_2)).trans hv1142))
          have x1145 := rX.e hI0 (b := 2) (hv1142)
          obtain ⟨v1146, hv1146⟩ : ∃ v, gI g0 176 4 = v := ⟨_, rfl⟩
          have rv1146 := RgF.at hI0.2.1 (p := 176) (b := 4) rfl
          rw [hv1146] at rv1146
          dsimp only at rv1146
          have tv1146 := congrArg Int32.toInt hv1146
          have x1147 := rX.e hI693 (b := 4) ((((hF694.1 176 4 mf_X5_isWord_176_176_4).trans (hF685.1 176 4 mf_X5_isWord_176_176_4)).trans hv1146))
          have x1148 := rX.e hI0 (b := 4) (hv1146)
          obtain ⟨v1149, hv1149⟩ : ∃ v, gI g0 176 6 = v := ⟨_, rfl⟩
          have tv1149 := congrArg Int32.toInt hv1149
          have x1150 := rX.e hI693 (b := 6) ((((hF694.1 176 6 mf_X5_isWord_176_176_6).trans (hF685.1 176 6 mf_X5_isWord_176_176_6)).trans hv1149))
          have x1151 := rX.e hI0 (b := 6) (hv1149)
          have x1152 := kX.e hI0 (hv927)
          have x1153 := kX.e hI693 ((((hF694.1 177 3 mf_X5_isWord_176_177_3).trans (hF685.1 177 3 mf_X5_isWord_176_177_3)).trans hv927))
          exact ⟨_, rfl, hI693, hF697, rfl, ⟨⟨(TKX.c hT (((hF694.2.1 175 ma_X5_isWord_176_175).trans (hF685.2.1 175 ma_X5_isWord_176_175))) (((hF694.1 174 1 mf_X5_isWord_176_174_1).trans (hF685.1 174 1 mf_X5_isWord_176_174_1))) (((hF694.1 176 3 mf_X5_isWord_176_176_3).trans (hF685.1 176 3 mf_X5_isWord_176_176_3))) (((hF694.1 176 4 mf_X5_isWord_176_176_4).trans (hF685.1 176 4 mf_X5_isWord_176_176_4))) (((hF694.1 176 5 mf_X5_isWord_176_176_5).trans (hF685.1 176 5 mf_X5_isWord_176_176_5)))), (PRG0.fail 1 (rX.c (b := 4) (((hF694.1 176 4 mf_X5_isWord_176_176_4).trans (hF685.1 176 4 mf_X5_isWord_176_176_4)))) (fun _ => by omega) (fun _ => by omega) (by omega)).le (by omega), fun c0 h => h.fail (fun _ => S.clsF (TKX.some hT).choose_spec (by omega)) (fun _ => by omega) (fun _ => by omega) (by omega)⟩, (fun hz => absurd hz (by omega)), (SPP_same (((hF694.1 177 4 mf_X5_isWord_176_177_4).trans (hF685.1 177 4 mf_X5_isWord_176_177_4))) (((hF694.2.1 180 ma_X5_isWord_176_180).trans (hF685.2.1 180 ma_X5_isWord_176_180))) (((hF694.1 177 3 mf_X5_isWord_176_177_3).trans (hF685.1 177 3 mf_X5_isWord_176_177_3))))⟩⟩
        · have c1143_ : v1142.toInt = (-1) := en_i_ne_f c1143
          refine At.enter rfl ?_
          refine r_aload_n rfl ?_
          refine r_aload_n rfl ?_
          obtain ⟨v1154, hv1154⟩ : ∃ v, gI g0 176 4 = v := ⟨_, rfl⟩
          have rv1154 := RgF.at hI0.2.1 (p := 176) (b := 4) rfl
          rw [hv1154] at rv1154
          dsimp only at rv1154
          refine q_getI (Sh.int hI693.1 kx_176 rfl) v1154 (((hF694.1 176 4 mf_X5_isWord_176_176_4).trans (hF685.1 176 4 mf_X5_isWord_176_176_4)).trans hv1154) ?_
          refine q_putI (Sh.int hI693.1 kx_176 rfl) rfl ?_
          have hI1155 := HI.wI0 hI693 kx_176 rfl (p := 176) (b := 2) (v := v1154) rfl
          have hF1156 := Fr.wI (p := 176) (b := 2) (v := v1154) hF697 rfl
          refine Ar.fall 16 rfl ?_
          refine At.enter rfl ?_
          refine q_vret ?_
          refine At.enter rfl ?_
          refine r_vret ?_
          have x1157 := rX.e hI1155 (b := 2) ((gI_sI_eq hI693.1 kx_176 rfl _))
          have x1158 := rX.e hI0 (b := 2) (hv1142)
          have x1159 := rX.e hI1155 (b := 4) ((((gI_sI_ne (by decide)).trans ((hF694.1 176 4 mf_X5_isWord_176_176_4).trans (hF685.1 176 4 mf_X5_isWord_176_176_4))).trans hv1154))
          have x1160 := rX.e hI0 (b := 4) (hv1154)
          obtain ⟨v1161, hv1161⟩ : ∃ v, gI g0 176 6 = v := ⟨_, rfl⟩
          have tv1161 := congrArg Int32.toInt hv1161
          have x1162 := rX.e hI1155 (b := 6) ((((gI_sI_ne (by decide)).trans ((hF694.1 176 6 mf_X5_isWord_176_176_6).trans (hF685.1 176 6 mf_X5_isWord_176_176_6))).trans hv1161))
          have x1163 := rX.e hI0 (b := 6) (hv1161)
          have x1164 := kX.e hI0 (hv927)
          have x1165 := kX.e hI1155 ((((gI_sI_ne (by decide)).trans ((hF694.1 177 3 mf_X5_isWord_176_177_3).trans (hF685.1 177 3 mf_X5_isWord_176_177_3))).trans hv927))
          exact ⟨_, rfl, hI1155, hF1156, rfl, ⟨⟨(TKX.c hT (((gA_sI).trans ((hF694.2.1 175 ma_X5_isWord_176_175).trans (hF685.2.1 175 ma_X5_isWord_176_175)))) (((gI_sI_ne (by decide)).trans ((hF694.1 174 1 mf_X5_isWord_176_174_1).trans (hF685.1 174 1 mf_X5_isWord_176_174_1)))) (((gI_sI_ne (by decide)).trans ((hF694.1 176 3 mf_X5_isWord_176_176_3).trans (hF685.1 176 3 mf_X5_isWord_176_176_3)))) (((gI_sI_ne (by decide)).trans ((hF694.1 176 4 mf_X5_isWord_176_176_4).trans (hF685.1 176 4 mf_X5_isWord_176_176_4)))) (((gI_sI_ne (by decide)).trans ((hF694.1 176 5 mf_X5_isWord_176_176_5).trans (hF685.1 176 5 mf_X5_isWord_176_176_5))))), (PRG0.fail 1 (rX.c (b := 4) (((gI_sI_ne (by decide)).trans ((hF694.1 176 4 mf_X5_isWord_176_176_4).trans (hF685.1 176 4 mf_X5_isWord_176_176_4))))) (fun _ => by omega) (fun _ => by omega) (by omega)).le (by omega), fun c0 h => h.fail (fun _ => S.clsF (TKX.some hT).choose_spec (by omega)) (fun _ => by omega) (fun _ => by omega) (by omega)⟩, (fun hz => absurd hz (by omega)), (SPP_same (((gI_sI_ne (by decide)).trans ((hF694.1 177 4 mf_X5_isWord_176_177_4).trans (hF685.1 177 4 mf_X5_isWord_176_177_4)))) (((gA_sI).trans ((hF694.2.1 180 ma_X5_isWord_176_180).trans (hF685.2.1 180 ma_X5_isWord_176_180)))) (((gI_sI_ne (by decide)).trans ((hF694.1 177 3 mf_X5_isWord_176_177_3).trans (hF685.1 177 3 mf_X5_isWord_176_177_3)))))⟩⟩
  · have c690_ : v686.toInt ≠ 0 := en_k_eq_f c690
    have i1166 := BL.yes hb689 (by omega)
    refine At.enter rfl ?_
    refine r_iconst 0 rfl ?_
    refine r_goto ?_
    refine At.enter rfl ?_
    refine r_istore_n ([(1, .int 0), (0, .ref 176)]) rfl ?_
    refine r_aload_n rfl ?_
    refine q_getR (Sh.ref hI684.1 kx_176 rfl) ?_
    obtain ⟨v1167, hv1167⟩ : ∃ v, gI g0 177 3 = v := ⟨_, rfl⟩
    have rv1167 := RgF.at hI0.2.1 (p := 177) (b := 3) rfl
    rw [hv1167] at rv1167
    dsimp only at rv1167
    refine q_getI (Sh.int hI684.1 kx_177 rfl) v1167 ((hF685.1 177 3 mf_X5_isWord_176_177_3).trans hv1167) ?_
    refine r_istore_n ([(2, .int v1167), (1, .int 0), (0, .ref 176)]) rfl ?_
    refine r_iload_n rfl ?_
    refine r_iconst (-1) rfl ?_
    refine r_icf 54 rfl (by decide) ?_
    refine At.enter rfl ?_
    refine r_iload_n rfl ?_
    refine r_bipush 12 rfl ?_
    refine r_ics 60 rfl (fun c1168 => ?_) (fun c1168 => ?_)
    · have c1168_ : v1167.toInt < 12 := en_i_lt_t c1168
      refine At.enter rfl ?_
      refine r_aload_n rfl ?_
      refine r_callV 69 rfl [.ref 176] [] (Nat.le_of_ble_eq_true rfl) rfl (T_X5_step_176 _ hI684 (TKX.c hT ((hF685.2.1 175 ma_X5_isWord_176_175)) ((hF685.1 174 1 mf_X5_isWord_176_174_1)) ((hF685.1 176 3 mf_X5_isWord_176_176_3)) ((hF685.1 176 4 mf_X5_isWord_176_176_4)) ((hF685.1 176 5 mf_X5_isWord_176_176_5))).1 (TKX.c hT ((hF685.2.1 175 ma_X5_isWord_176_175)) ((hF685.1 174 1 mf_X5_isWord_176_174_1)) ((hF685.1 176 3 mf_X5_isWord_176_176_3)) ((hF685.1 176 4 mf_X5_isWord_176_176_4)) ((hF685.1 176 5 mf_X5_isWord_176_176_5))).2.1.le.2.1) ?_
      rintro _ _ ⟨g1169, rfl, hI1170, hF1171, rfl, hr1173⟩
      refine At.stn ?_
      have hF1174 := Fr.tr hF688 hF1171 rfl rfl
      have tok1175_ := hr1173.2
      rw [TX.c ((hF685.2.1 175 ma_X5_isWord_176_175)), nX.c ((hF685.1 174 1 mf_X5_isWord_176_174_1)), rX.c (b := 5) ((hF685.1 176 5 mf_X5_isWord_176_176_5))] at tok1175_
      have tok1175 := TKX.tok hT tok1175_
      have hT1176 := hr1173.1
      obtain ⟨v1177, hv1177⟩ : ∃ v, gI g0 176 4 = v := ⟨_, rfl⟩
      have rv1177 := RgF.at hI0.2.1 (p := 176) (b := 4) rfl
      rw [hv1177] at rv1177
      dsimp only at rv1177
      have tv1177 := congrArg Int32.toInt hv1177
      have x1178 := rX.e hI684 (b := 4) (((hF685.1 176 4 mf_X5_isWord_176_176_4).trans hv1177))
      obtain ⟨v1179, hv1179⟩ : ∃ v, gI g1169 176 4 = v := ⟨_, rfl⟩
      have rv1179 := RgF.at hI1170.2.1 (p := 176) (b := 4) rfl
      rw [hv1179] at rv1179
      dsimp only at rv1179
      have tv1179 := congrArg Int32.toInt hv1179
      have x1180 := rX.e hI1170 (b := 4) (hv1179)
      refine At.enter rfl ?_
      refine r_aload_n rfl ?_
      refine q_getR (Sh.ref hI1170.1 kx_176 rfl) ?_
      refine r_iload_n rfl ?_
      refine r_iconst 1 rfl ?_
      refine q_iadd (v1167.toInt + 1) rfl (by omega) (fun v1181 hv1181 => ?_)
      refine q_putI (Sh.int hI1170.1 kx_177 rfl) rfl ?_
      have hI1182 := HI.wI1 hI1170 kx_177 rfl (p := 177) (b := 3) (v := v1181) rfl (by dsimp only; omega)
      have hF1183 := Fr.wI (p := 177) (b := 3) (v := v1181) hF1174 rfl
      refine r_aload_n rfl ?_
      refine q_getR (Sh.ref hI1182.1 kx_176 rfl) ?_
      refine q_getR (Sh.ref hI1182.1 kx_177 rfl) ?_
      refine r_iload_n rfl ?_
      refine r_iload_n rfl ?_
      refine q_iast (Sh.arr hI1182.1 ka_180) (v1167.toInt) rfl (by omega) ?_
      have hI1184 := HI.wA0 hI1182 ka_180 (p := 180) rfl rfl (v1167.toInt) (0)
      have hF1185 := Fr.wA (p := 180) (j := v1167.toInt) (v := 0) hF1183 rfl
      refine r_aload_n rfl ?_
      refine q_getR (Sh.ref hI1184.1 kx_176 rfl) ?_
      refine r_dup rfl ?_
      obtain ⟨v1186, hv1186⟩ : ∃ v, gI g0 177 4 = v := ⟨_, rfl⟩
      refine q_getI (Sh.int hI1184.1 kx_177 rfl) v1186 (((gI_sW).trans ((gI_sI_ne (by decide)).trans ((hF1171.1 177 4 mf_X5_step_176_177_4).trans (hF685.1 177 4 mf_X5_isWord_176_177_4)))).trans hv1186) ?_
      refine r_iconst 1 rfl ?_
      refine r_iload_n rfl ?_
      refine r_ishl 1 (by decide) ?_
      refine q_iorO (fun v1187 hv1187 => ?_)
      refine q_putI (Sh.int hI1184.1 kx_177 rfl) rfl ?_
      have hI1188 := HI.wI0 hI1184 kx_177 rfl (p := 177) (b := 4) (v := v1187) rfl
      have hF1189 := Fr.wI (p := 177) (b := 4) (v := v1187) hF1185 rfl
      refine r_aload_n rfl ?_
      refine q_getR (Sh.ref hI1188.1 kx_176 rfl) ?_
      refine q_getR (Sh.ref hI1188.1 kx_177 rfl) ?_
      refine r_iload_n rfl ?_
      refine r_aload_n rfl ?_
      refine q_getR (Sh.ref hI1188.1 kx_176 rfl) ?_
      obtain ⟨v1190, hv1190⟩ : ∃ v, gI g0 177 0 = v := ⟨_, rfl⟩
      have rv1190 := RgF.at hI0.2.1 (p := 177) (b := 0) rfl
      rw [hv1190] at rv1190
      dsimp only at rv1190
      refine q_getI (Sh.int hI1188.1 kx_177 rfl) v1190 (((gI_sI_ne (by decide)).trans ((gI_sW).trans ((gI_sI_ne (by decide)).trans ((hF1171.1 177 0 mf_X5_step_176_177_0).trans (hF685.1 177 0 mf_X5_isWord_176_177_0))))).trans hv1190) ?_
      refine q_iast (Sh.arr hI1188.1 ka_181) (v1167.toInt) rfl (by omega) ?_
      have hI1191 := HI.wA0 hI1188 ka_181 (p := 181) rfl rfl (v1167.toInt) (v1190)
      have hF1192 := Fr.wA (p := 181) (j := v1167.toInt) (v := v1190) hF1189 rfl
      refine r_iload_n rfl ?_
      refine r_iconst 2 rfl ?_
      refine r_icf 125 rfl (by decide) ?_
      refine At.enter rfl ?_
      refine r_aload_n rfl ?_
      refine r_iconst 2 rfl ?_
      refine r_iconst 0 rfl ?_
      have zv1193 : (2 : Int32).toInt = 2 := rfl
      have zv1194 : (0 : Int32).toInt = 0 := rfl
      refine r_callV 131 rfl [.ref 176, .int 2, .int 0] [] (Nat.le_of_ble_eq_true rfl) rfl (T_X5_readJoined_176 _ hI1191 2 (by decide) 0 (by decide) (TKX.c hT1176 (((gA_sA_ne (by decide)).trans ((gA_sI).trans ((gA_sA_ne (by decide)).trans (gA_sI))))) (((gI_sW).trans ((gI_sI_ne (by decide)).trans ((gI_sW).trans (gI_sI_ne (by decide)))))) (((gI_sW).trans ((gI_sI_ne (by decide)).trans ((gI_sW).trans (gI_sI_ne (by decide)))))) (((gI_sW).trans ((gI_sI_ne (by decide)).trans ((gI_sW).trans (gI_sI_ne (by decide)))))) (((gI_sW).trans ((gI_sI_ne (by decide)).trans ((gI_sW).trans (gI_sI_ne (by decide)))))))) ?_
      rintro _ _ ⟨g1195, rfl, hI1196, hF1197, rfl, hr1199⟩
      refine At.stn ?_
      have hF1200 := Fr.tr hF1192 hF1197 rfl rfl
      have zv1201 : (2 : Int32).toInt = 2 := rfl
      have zv1202 : (0 : Int32).toInt = 0 := rfl
      obtain ⟨v1207, hv1207⟩ : ∃ v, gI g0 176 2 = v := ⟨_, rfl⟩
      have tv1207 := congrArg Int32.toInt hv1207
      have x1208 := rX.e hI1191 (b := 2) ((((gI_sW).trans ((gI_sI_ne (by decide)).trans ((gI_sW).trans ((gI_sI_ne (by decide)).trans ((hF1171.1 176 2 mf_X5_step_176_176_2).trans (hF685.1 176 2 mf_X5_isWord_176_176_2)))))).trans hv1207))
      have x1209 := rX.e hI1191 (b := 4) ((((gI_sW).trans ((gI_sI_ne (by decide)).trans ((gI_sW).trans (gI_sI_ne (by decide))))).trans hv1179))
      obtain ⟨o1203, o1204, o1205, o1206⟩ := hr1199.1
      have gx1210 := GPX.fr hr1199.2 (((gA_sA_ne (by decide)).trans ((gA_sI).trans ((gA_sA_ne (by decide)).trans (gA_sI))))) (((gA_sA_ne (by decide)).trans ((gA_sI).trans ((gA_sA_ne (by decide)).trans (gA_sI))))) (((gI_sW).trans ((gI_sI_ne (by decide)).trans ((gI_sW).trans (gI_sI_ne (by decide)))))) (rX.c (b := 4) (((gI_sW).trans ((gI_sI_ne (by decide)).trans ((gI_sW).trans (gI_sI_ne (by decide))))))) (rX.c (b := 6) (((gI_sW).trans ((gI_sI_ne (by decide)).trans ((gI_sW).trans (gI_sI_ne (by decide)))))))
      rw [TX.ci hI1191 (((gA_sA_ne (by decide)).trans ((gA_sI).trans ((gA_sA_ne (by decide)).trans ((gA_sI).trans ((hF1171.2.1 175 ma_X5_step_176_175).trans (hF685.2.1 175 ma_X5_isWord_176_175))))))), nX.ci hI1191 (((gI_sW).trans ((gI_sI_ne (by decide)).trans ((gI_sW).trans ((gI_sI_ne (by decide)).trans ((hF1171.1 174 1 mf_X5_step_176_174_1).trans (hF685.1 174 1 mf_X5_isWord_176_174_1)))))))] at gx1210
      have o1211 := OPD.tc o1205 (((gA_sA_ne (by decide)).trans ((gA_sI).trans ((gA_sA_ne (by decide)).trans ((gA_sI).trans ((hF1171.2.1 175 ma_X5_step_176_175).trans (hF685.2.1 175 ma_X5_isWord_176_175))))))) (((gI_sW).trans ((gI_sI_ne (by decide)).trans ((gI_sW).trans ((gI_sI_ne (by decide)).trans ((hF1171.1 174 1 mf_X5_step_176_174_1).trans (hF685.1 174 1 mf_X5_isWord_176_174_1)))))))
      have o1212 := PRG0.fr o1204 (rX.c (b := 2) (((gI_sW).trans ((gI_sI_ne (by decide)).trans ((gI_sW).trans (gI_sI_ne (by decide))))))) (rX.c (b := 4) (((gI_sW).trans ((gI_sI_ne (by decide)).trans ((gI_sW).trans (gI_sI_ne (by decide)))))))
      have o1213 := OPD.fr o1211 (rX.c (b := 2) (((gI_sW).trans ((gI_sI_ne (by decide)).trans ((gI_sW).trans (gI_sI_ne (by decide))))))) (rX.c (b := 4) (((gI_sW).trans ((gI_sI_ne (by decide)).trans ((gI_sW).trans (gI_sI_ne (by decide))))))) (rX.c (b := 6) (((gI_sW).trans ((gI_sI_ne (by decide)).trans ((gI_sW).trans (gI_sI_ne (by decide)))))))
      obtain ⟨v1214, hv1214⟩ : ∃ v, gI g1195 176 2 = v := ⟨_, rfl⟩
      have tv1214 := congrArg Int32.toInt hv1214
      have x1215 := rX.e hI1196 (b := 2) (hv1214)
      obtain ⟨v1216, hv1216⟩ : ∃ v, gI g1195 176 4 = v := ⟨_, rfl⟩
      have rv1216 := RgF.at hI1196.2.1 (p := 176) (b := 4) rfl
      rw [hv1216] at rv1216
      dsimp only at rv1216
      have tv1216 := congrArg Int32.toInt hv1216
      have x1217 := rX.e hI1196 (b := 4) (hv1216)
      refine At.enter rfl ?_
      refine r_aload_n rfl ?_
      refine q_getR (Sh.ref hI1196.1 kx_176 rfl) ?_
      refine q_getR (Sh.ref hI1196.1 kx_177 rfl) ?_
      refine r_iload_n rfl ?_
      refine r_aload_n rfl ?_
      refine q_getR (Sh.ref hI1196.1 kx_176 rfl) ?_
      obtain ⟨v1218, hv1218⟩ : ∃ v, gI g1195 177 0 = v := ⟨_, rfl⟩
      have rv1218 := RgF.at hI1196.2.1 (p := 177) (b := 0) rfl
      rw [hv1218] at rv1218
      dsimp only at rv1218
      refine q_getI (Sh.int hI1196.1 kx_177 rfl) v1218 hv1218 ?_
      refine q_iast (Sh.arr hI1196.1 ka_182) (v1167.toInt) rfl (by omega) ?_
      have hI1219 := HI.wA0 hI1196 ka_182 (p := 182) rfl rfl (v1167.toInt) (v1218)
      have hF1220 := Fr.wA (p := 182) (j := v1167.toInt) (v := v1218) hF1200 rfl
      refine r_aload_n rfl ?_
      refine q_getI (Sh.int hI1219.1 kx_176 rfl) v1214 ((gI_sW).trans hv1214) ?_
      refine r_iconst (-1) rfl ?_
      refine r_ics 155 rfl (fun c1221 => ?_) (fun c1221 => ?_)
      · have c1221_ : v1214.toInt ≠ (-1) := en_i_ne_t c1221
        refine At.enter rfl ?_
        refine r_aload_n rfl ?_
        refine q_getR (Sh.ref hI1219.1 kx_176 rfl) ?_
        refine q_getR (Sh.ref hI1219.1 kx_177 rfl) ?_
        refine r_iload_n rfl ?_
        refine r_aload_n rfl ?_
        refine q_getR (Sh.ref hI1219.1 kx_176 rfl) ?_
        refine q_getI (Sh.int hI1219.1 kx_177 rfl) v1218 ((gI_sW).trans hv1218) ?_
        refine q_iast (Sh.arr hI1219.1 ka_183) (v1167.toInt) rfl (by omega) ?_
        have hI1222 := HI.wA0 hI1219 ka_183 (p := 183) rfl rfl (v1167.toInt) (v1218)
        have hF1223 := Fr.wA (p := 183) (j := v1167.toInt) (v := v1218) hF1220 rfl
        refine r_vret ?_
        have x1224 := rX.e hI1222 (b := 2) ((((gI_sW).trans (gI_sW)).trans hv1214))
        have x1225 := rX.e hI0 (b := 2) (hv1207)
        have x1226 := rX.e hI1222 (b := 4) ((((gI_sW).trans (gI_sW)).trans hv1216))
        have x1227 := rX.e hI0 (b := 4) (hv1177)
        obtain ⟨v1228, hv1228⟩ : ∃ v, gI g1195 176 6 = v := ⟨_, rfl⟩
        have tv1228 := congrArg Int32.toInt hv1228
        have x1229 := rX.e hI1222 (b := 6) ((((gI_sW).trans (gI_sW)).trans hv1228))
        obtain ⟨v1230, hv1230⟩ : ∃ v, gI g0 176 6 = v := ⟨_, rfl⟩
        have tv1230 := congrArg Int32.toInt hv1230
        have x1231 := rX.e hI0 (b := 6) (hv1230)
        have x1232 := rX.e hI1170 (b := 2) ((((hF1171.1 176 2 mf_X5_step_176_176_2).trans (hF685.1 176 2 mf_X5_isWord_176_176_2)).trans hv1207))
        have x1233 := rX.e hI1170 (b := 4) (hv1179)
        have x1234 := rX.e hI1196 (b := 2) (hv1214)
        have x1235 := rX.e hI1196 (b := 4) (hv1216)
        have x1236 := kX.e hI0 (hv1167)
        have x1237 := kX.e hI1222 (((gI_sW).trans ((gI_sW).trans ((hF1197.1 177 3 (by decide)).trans ((gI_sW).trans ((gI_sI_ne (by decide)).trans ((gI_sW).trans (gI_sI_eq hI1170.1 kx_177 rfl _))))))))
        have pr1238 : _ ∧ _ ∧ _ := o1212
        have x1239 := rX.e hI1170 (b := 2) ((((hF1171.1 176 2 mf_X5_step_176_176_2).trans (hF685.1 176 2 mf_X5_isWord_176_176_2)).trans hv1207))
        have x1240 := rX.e hI1170 (b := 4) (hv1179)
        have x1241 := rX.e hI1170 (b := 6) ((((hF1171.1 176 6 mf_X5_step_176_176_6).trans (hF685.1 176 6 mf_X5_isWord_176_176_6)).trans hv1230))
        have x1242 := rX.e hI1196 (b := 2) (hv1214)
        have x1243 := rX.e hI1196 (b := 4) (hv1216)
        have x1244 := rX.e hI1196 (b := 6) (hv1228)
        have y1245 : lX g0 = v1190.toInt := congrArg Int32.toInt (hv1190)
        have y1246 : lX g1169 = v1190.toInt := congrArg Int32.toInt ((((hF1171.1 177 0 mf_X5_step_176_177_0).trans (hF685.1 177 0 mf_X5_isWord_176_177_0)).trans hv1190))
        have y1247 : lX g1195 = v1218.toInt := congrArg Int32.toInt (hv1218)
        have y1248 := lX.e hI1222 ((((gI_sW).trans (gI_sW)).trans hv1218))
        have zv1249 : (0 : Int32).toInt = 0 := rfl
        have zv1250 : (1 : Int32).toInt = 1 := rfl
        have zv1251 : (2 : Int32).toInt = 2 := rfl
        have y1252 : (gI g0 177 3).toInt = v1167.toInt := congrArg Int32.toInt (hv1167)
        have y1253 := HI.eqI hI1222 (p := 177) (b := 3) (((gI_sW).trans ((gI_sW).trans ((hF1197.1 177 3 (by decide)).trans ((gI_sW).trans ((gI_sI_ne (by decide)).trans ((gI_sW).trans (gI_sI_eq hI1170.1 kx_177 rfl _))))))))
        have y1254 : (gI g0 177 3).toInt = v1167.toInt := congrArg Int32.toInt (hv1167)
        have y1255 := HI.eqI hI1222 (p := 177) (b := 3) (((gI_sW).trans ((gI_sW).trans ((hF1197.1 177 3 (by decide)).trans ((gI_sW).trans ((gI_sI_ne (by decide)).trans ((gI_sW).trans (gI_sI_eq hI1170.1 kx_177 rfl _))))))))
        exact ⟨_, rfl, hI1222, hF1223, rfl, ⟨⟨(TKX.c o1203 (((gA_sA_ne (by decide)).trans (gA_sA_ne (by decide)))) (((gI_sW).trans (gI_sW))) (((gI_sW).trans (gI_sW))) (((gI_sW).trans (gI_sW))) (((gI_sW).trans (gI_sW)))), ((PRG0.tr ((PRG0.tr (PRG0.step hT tok1175_ (rX.c (b := 2) (((hF1171.1 176 2 mf_X5_step_176_176_2).trans (hF685.1 176 2 mf_X5_isWord_176_176_2)))) (by omega)) (o1212))) (PRG0.eq (rX.c (b := 4) (((gI_sW).trans (gI_sW)))) (rX.c (b := 2) (((gI_sW).trans (gI_sW))))))).le (by omega), fun c0 h => by have h1 : CST (TX g0) (nX g0) c0 g1169 1 [3] (kX g0 + 1) := CLX.head h (fun _ => S.cls tok1175 (by omega) (by omega) rfl) (rX.c (b := 2) (((hF1171.1 176 2 mf_X5_step_176_176_2).trans (hF685.1 176 2 mf_X5_isWord_176_176_2)))) (rX.c (b := 6) (((hF1171.1 176 6 mf_X5_step_176_176_6).trans (hF685.1 176 6 mf_X5_isWord_176_176_6)))); have h3 := CLX.sum o1213 h1 (TKX.someC o1203 (((hF1197.2.1 175 (by decide)).trans ((gA_sA_ne (by decide)).trans ((gA_sI).trans ((gA_sA_ne (by decide)).trans ((gA_sI).trans ((hF1171.2.1 175 ma_X5_step_176_175).trans (hF685.2.1 175 ma_X5_isWord_176_175)))))))) (((hF1197.1 174 1 (by decide)).trans ((gI_sW).trans ((gI_sI_ne (by decide)).trans ((gI_sW).trans ((gI_sI_ne (by decide)).trans ((hF1171.1 174 1 mf_X5_step_176_174_1).trans (hF685.1 174 1 mf_X5_isWord_176_174_1))))))))).choose_spec o1206; have h6 : CST (TX g0) (nX g0) c0 g1195 8 [] (kX g0 + 1) := (by first | exact h3.bad (by omega) rfl | exact h3.eps (fun _ => S.noif (TKX.someC o1203 (((hF1197.2.1 175 (by decide)).trans ((gA_sA_ne (by decide)).trans ((gA_sI).trans ((gA_sA_ne (by decide)).trans ((gA_sI).trans ((hF1171.2.1 175 ma_X5_step_176_175).trans (hF685.2.1 175 ma_X5_isWord_176_175)))))))) (((hF1197.1 174 1 (by decide)).trans ((gI_sW).trans ((gI_sI_ne (by decide)).trans ((gI_sW).trans ((gI_sI_ne (by decide)).trans ((hF1171.1 174 1 mf_X5_step_176_174_1).trans (hF685.1 174 1 mf_X5_isWord_176_174_1))))))))).choose_spec (by omega))); rw [x1237]; rw [show (kX g0 + 1 : Int) = v1181.toInt from by omega] at h6; exact h6.eq (rX.c (b := 2) (((gI_sW).trans (gI_sW)))) (rX.c (b := 4) (((gI_sW).trans (gI_sW)))) (rX.c (b := 6) (((gI_sW).trans (gI_sW))))⟩, (by first | exact (fun hz => absurd hz (by omega)) | exact CGX_s tok1175 (by omega) (Int.le_of_lt (TOK_lt tok1175 (by omega))) (SCX.x (SCX.mk (((hF1171.2.1 178 ma_X5_step_176_178).trans (hF685.2.1 178 ma_X5_isWord_176_178))) (((hF1171.2.1 179 ma_X5_step_176_179).trans (hF685.2.1 179 ma_X5_isWord_176_179))) (((hF1171.1 177 0 mf_X5_step_176_177_0).trans (hF685.1 177 0 mf_X5_isWord_176_177_0)))) (rX.c (b := 6) (((hF1171.1 176 6 mf_X5_step_176_176_6).trans (hF685.1 176 6 mf_X5_isWord_176_176_6))))) (GPX.k gx1210 (by decide) (by decide) (by decide) (by decide)) (TKX.someC o1203 (((hF1197.2.1 175 (by decide)).trans ((gA_sA_ne (by decide)).trans ((gA_sI).trans ((gA_sA_ne (by decide)).trans ((gA_sI).trans ((hF1171.2.1 175 ma_X5_step_176_175).trans (hF685.2.1 175 ma_X5_isWord_176_175)))))))) (((hF1197.1 174 1 (by decide)).trans ((gI_sW).trans ((gI_sI_ne (by decide)).trans ((gI_sW).trans ((gI_sI_ne (by decide)).trans ((hF1171.1 174 1 mf_X5_step_176_174_1).trans (hF685.1 174 1 mf_X5_isWord_176_174_1))))))))).choose_spec (fun hz => (o1206 hz).2.2.1 rfl) (fun _ => by omega) (SCX.x (SCX.mk (((gA_sA_ne (by decide)).trans (gA_sA_ne (by decide)))) (((gA_sA_ne (by decide)).trans (gA_sA_ne (by decide)))) (((gI_sW).trans (gI_sW)))) (rX.c (b := 6) (((gI_sW).trans (gI_sW))))) (rX.c (b := 4) (((gI_sW).trans (gI_sW)))) (rX.c (b := 6) (((gI_sW).trans (gI_sW)))) (fun z => by omega) (fun _ => ⟨by show (gI _ 177 3).toInt = (gI g0 177 3).toInt + 1; omega, (by show (eA _ 180 (gI g0 177 3).toInt).toInt = _; rw [show (gI g0 177 3).toInt = v1167.toInt by omega]; exact (congrArg Int32.toInt (((eA_c (gA_sA_ne (by decide))).trans ((eA_c (gA_sA_ne (by decide))).trans ((eA_c (hF1197.2.1 180 (by decide))).trans ((eA_c (gA_sA_ne (by decide))).trans ((eA_c gA_sI).trans (eA_sA_eq hI1182.1 ka_180 (by first | rfl | omega) (by first | decide | omega) (by first | decide | omega))))))))).trans (by omega)), (by show (eA _ 181 (gI g0 177 3).toInt).toInt = _; rw [show (gI g0 177 3).toInt = v1167.toInt by omega]; exact (congrArg Int32.toInt (((eA_c (gA_sA_ne (by decide))).trans ((eA_c (gA_sA_ne (by decide))).trans ((eA_c (hF1197.2.1 181 (by decide))).trans (eA_sA_eq hI1188.1 ka_181 (by first | rfl | omega) (by first | decide | omega) (by first | decide | omega))))))).trans (by omega)), (by show (eA _ 182 (gI g0 177 3).toInt).toInt = _; rw [show (gI g0 177 3).toInt = v1167.toInt by omega]; exact (congrArg Int32.toInt (((eA_c (gA_sA_ne (by decide))).trans (eA_sA_eq hI1196.1 ka_182 (by first | rfl | omega) (by first | decide | omega) (by first | decide | omega))))).trans (by omega)), (by show (eA _ 183 (gI g0 177 3).toInt).toInt = _; rw [show (gI g0 177 3).toInt = v1167.toInt by omega]; exact (congrArg Int32.toInt ((eA_sA_eq hI1219.1 ka_183 (by first | rfl | omega) (by first | decide | omega) (by first | decide | omega)))).trans (by omega)), fun i i0 i1 => by have i2 : i < (gI g0 177 3).toInt := i1; exact ⟨(congrArg Int32.toInt (((eA_c (gA_sA_ne (by decide))).trans ((eA_c (gA_sA_ne (by decide))).trans ((eA_c (hF1197.2.1 180 (by decide))).trans ((eA_c (gA_sA_ne (by decide))).trans ((eA_c gA_sI).trans ((eA_sA_ne (i := i) hI1182.1 ka_180 (by omega) (by omega) (by omega)).trans ((eA_c gA_sI).trans ((eA_c (hF1171.2.1 180 ma_X5_step_176_180)).trans (eA_c (hF685.2.1 180 ma_X5_isWord_176_180)))))))))))), (congrArg Int32.toInt (((eA_c (gA_sA_ne (by decide))).trans ((eA_c (gA_sA_ne (by decide))).trans ((eA_c (hF1197.2.1 181 (by decide))).trans ((eA_sA_ne (i := i) hI1188.1 ka_181 (by omega) (by omega) (by omega)).trans ((eA_c gA_sI).trans ((eA_c (gA_sA_ne (by decide))).trans ((eA_c gA_sI).trans ((eA_c (hF1171.2.1 181 ma_X5_step_176_181)).trans (eA_c (hF685.2.1 181 ma_X5_isWord_176_181)))))))))))), (congrArg Int32.toInt (((eA_c (gA_sA_ne (by decide))).trans ((eA_sA_ne (i := i) hI1196.1 ka_182 (by omega) (by omega) (by omega)).trans ((eA_c (hF1197.2.1 182 (by decide))).trans ((eA_c (gA_sA_ne (by decide))).trans ((eA_c gA_sI).trans ((eA_c (gA_sA_ne (by decide))).trans ((eA_c gA_sI).trans ((eA_c (hF1171.2.1 182 ma_X5_step_176_182)).trans (eA_c (hF685.2.1 182 ma_X5_isWord_176_182)))))))))))), (congrArg Int32.toInt (((eA_sA_ne (i := i) hI1219.1 ka_183 (by omega) (by omega) (by omega)).trans ((eA_c (gA_sA_ne (by decide))).trans ((eA_c (hF1197.2.1 183 (by decide))).trans ((eA_c (gA_sA_ne (by decide))).trans ((eA_c gA_sI).trans ((eA_c (gA_sA_ne (by decide))).trans ((eA_c gA_sI).trans ((eA_c (hF1171.2.1 183 ma_X5_step_176_183)).trans (eA_c (hF685.2.1 183 ma_X5_isWord_176_183))))))))))))⟩⟩)), (SPP_new (h := (0 : Int32).toInt) hv1186 (((gI_sW).trans ((gI_sW).trans ((hF1197.1 177 4 (by decide)).trans ((gI_sW).trans (gI_sI_eq hI1184.1 kx_177 rfl _)))))) hv1187 (by first | exact Or.inl ⟨rfl, rfl⟩ | exact Or.inr (Or.inl ⟨rfl, rfl⟩) | exact Or.inr (Or.inr ⟨rfl, rfl⟩)) (by show (gI _ 177 3).toInt = (gI g0 177 3).toInt + 1; omega) (by show (eA _ 180 (gI g0 177 3).toInt).toInt = _; rw [show (gI g0 177 3).toInt = v1167.toInt by omega]; exact congrArg Int32.toInt (((eA_c (gA_sA_ne (by decide))).trans ((eA_c (gA_sA_ne (by decide))).trans ((eA_c (hF1197.2.1 180 (by decide))).trans ((eA_c (gA_sA_ne (by decide))).trans ((eA_c gA_sI).trans (eA_sA_eq hI1182.1 ka_180 (by first | rfl | omega) (by first | decide | omega) (by first | decide | omega))))))))) (fun i i0 i1 => by have i2 : i < (gI g0 177 3).toInt := i1; exact congrArg Int32.toInt (((eA_c (gA_sA_ne (by decide))).trans ((eA_c (gA_sA_ne (by decide))).trans ((eA_c (hF1197.2.1 180 (by decide))).trans ((eA_c (gA_sA_ne (by decide))).trans ((eA_c gA_sI).trans ((eA_sA_ne (i := i) hI1182.1 ka_180 (by omega) (by omega) (by omega)).trans ((eA_c gA_sI).trans ((eA_c (hF1171.2.1 180 ma_X5_step_176_180)).trans (eA_c (hF685.2.1 180 ma_X5_isWord_176_180)))))))))))))⟩⟩
      · have c1221_ : v1214.toInt = (-1) := en_i_ne_f c1221
        refine At.enter rfl ?_
        refine r_aload_n rfl ?_
        refine r_ldcS (by decide) 17 rfl ?_
        refine r_callV 161 rfl [.ref 176, .float 17] [] (Nat.le_of_ble_eq_true rfl) rfl (T_X5_isWord_176 _ hI1219 17 (by decide) (TKX.c o1203 ((gA_sA_ne (by decide))) ((gI_sW)) ((gI_sW)) ((gI_sW)) ((gI_sW)))) ?_
        rintro _ _ ⟨g1256, rfl, hI1257, hF1258, v1259, rfl, hr1260⟩
        refine At.sti ?_
        have hF1261 := Fr.tr hF1220 hF1258 rfl rfl
        have hb1262 : BL (CDX g1195 = 10) v1259.toInt := by have z := ISW.code (c := 10) hr1260.2 (TKX.c o1203 ((gA_sA_ne (by decide))) ((gI_sW)) ((gI_sW)) ((gI_sW)) ((gI_sW))) (isWC_d (by omega)) (by decide +kernel); rw [CDX.c ((gA_sA_ne (by decide))) ((gI_sW)) ((gI_sW)) ((gI_sW))] at z; exact z
        refine At.enter rfl ?_
        refine r_ifs 164 rfl (fun c1263 => ?_) (fun c1263 => ?_)
        · have c1263_ : v1259.toInt = 0 := en_k_eq_t c1263
          have i1264 := BL.no hb1262 (by omega)
          refine At.enter rfl ?_
          refine r_aload_n rfl ?_
          refine q_getR (Sh.ref hI1257.1 kx_176 rfl) ?_
          refine q_getR (Sh.ref hI1257.1 kx_177 rfl) ?_
          refine r_iload_n rfl ?_
          refine r_aload_n rfl ?_
          refine q_getR (Sh.ref hI1257.1 kx_176 rfl) ?_
          refine q_getI (Sh.int hI1257.1 kx_177 rfl) v1218 (((hF1258.1 177 0 mf_X5_isWord_176_177_0).trans (gI_sW)).trans hv1218) ?_
          refine q_iast (Sh.arr hI1257.1 ka_183) (v1167.toInt) rfl (by omega) ?_
          have hI1265 := HI.wA0 hI1257 ka_183 (p := 183) rfl rfl (v1167.toInt) (v1218)
          have hF1266 := Fr.wA (p := 183) (j := v1167.toInt) (v := v1218) hF1261 rfl
          refine r_vret ?_
          have x1267 := rX.e hI1265 (b := 2) ((((gI_sW).trans ((hF1258.1 176 2 mf_X5_isWord_176_176_2).trans (gI_sW))).trans hv1214))
          have x1268 := rX.e hI0 (b := 2) (hv1207)
          have x1269 := rX.e hI1265 (b := 4) ((((gI_sW).trans ((hF1258.1 176 4 mf_X5_isWord_176_176_4).trans (gI_sW))).trans hv1216))
          have x1270 := rX.e hI0 (b := 4) (hv1177)
          obtain ⟨v1271, hv1271⟩ : ∃ v, gI g1195 176 6 = v := ⟨_, rfl⟩
          have tv1271 := congrArg Int32.toInt hv1271
          have x1272 := rX.e hI1265 (b := 6) ((((gI_sW).trans ((hF1258.1 176 6 mf_X5_isWord_176_176_6).trans (gI_sW))).trans hv1271))
          obtain ⟨v1273, hv1273⟩ : ∃ v, gI g0 176 6 = v := ⟨_, rfl⟩
          have tv1273 := congrArg Int32.toInt hv1273
          have x1274 := rX.e hI0 (b := 6) (hv1273)
          have x1275 := rX.e hI1170 (b := 2) ((((hF1171.1 176 2 mf_X5_step_176_176_2).trans (hF685.1 176 2 mf_X5_isWord_176_176_2)).trans hv1207))
          have x1276 := rX.e hI1170 (b := 4) (hv1179)
          have x1277 := rX.e hI1196 (b := 2) (hv1214)
          have x1278 := rX.e hI1196 (b := 4) (hv1216)
          have x1279 := kX.e hI0 (hv1167)
          have x1280 := kX.e hI1265 (((gI_sW).trans ((hF1258.1 177 3 mf_X5_isWord_176_177_3).trans ((gI_sW).trans ((hF1197.1 177 3 (by decide)).trans ((gI_sW).trans ((gI_sI_ne (by decide)).trans ((gI_sW).trans (gI_sI_eq hI1170.1 kx_177 rfl _)))))))))
          have pr1281 : _ ∧ _ ∧ _ := o1212
          have x1282 := rX.e hI1170 (b := 2) ((((hF1171.1 176 2 mf_X5_step_176_176_2).trans (hF685.1 176 2 mf_X5_isWord_176_176_2)).trans hv1207))
          have x1283 := rX.e hI1170 (b := 4) (hv1179)
          have x1284 := rX.e hI1170 (b := 6) ((((hF1171.1 176 6 mf_X5_step_176_176_6).trans (hF685.1 176 6 mf_X5_isWord_176_176_6)).trans hv1273))
          have x1285 := rX.e hI1196 (b := 2) (hv1214)
          have x1286 := rX.e hI1196 (b := 4) (hv1216)
          have x1287 := rX.e hI1196 (b := 6) (hv1271)
          have y1288 : lX g0 = v1190.toInt := congrArg Int32.toInt (hv1190)
          have y1289 : lX g1169 = v1190.toInt := congrArg Int32.toInt ((((hF1171.1 177 0 mf_X5_step_176_177_0).trans (hF685.1 177 0 mf_X5_isWord_176_177_0)).trans hv1190))
          have y1290 : lX g1195 = v1218.toInt := congrArg Int32.toInt (hv1218)
          have y1291 := lX.e hI1265 ((((gI_sW).trans ((hF1258.1 177 0 mf_X5_isWord_176_177_0).trans (gI_sW))).trans hv1218))
          have zv1292 : (0 : Int32).toInt = 0 := rfl
          have zv1293 : (1 : Int32).toInt = 1 := rfl
          have zv1294 : (2 : Int32).toInt = 2 := rfl
          have y1295 : (gI g0 177 3).toInt = v1167.toInt := congrArg Int32.toInt (hv1167)
          have y1296 := HI.eqI hI1265 (p := 177) (b := 3) (((gI_sW).trans ((hF1258.1 177 3 mf_X5_isWord_176_177_3).trans ((gI_sW).trans ((hF1197.1 177 3 (by decide)).trans ((gI_sW).trans ((gI_sI_ne (by decide)).trans ((gI_sW).trans (gI_sI_eq hI1170.1 kx_177 rfl _)))))))))
          have y1297 : (gI g0 177 3).toInt = v1167.toInt := congrArg Int32.toInt (hv1167)
          have y1298 := HI.eqI hI1265 (p := 177) (b := 3) (((gI_sW).trans ((hF1258.1 177 3 mf_X5_isWord_176_177_3).trans ((gI_sW).trans ((hF1197.1 177 3 (by decide)).trans ((gI_sW).trans ((gI_sI_ne (by decide)).trans ((gI_sW).trans (gI_sI_eq hI1170.1 kx_177 rfl _)))))))))
          exact ⟨_, rfl, hI1265, hF1266, rfl, ⟨⟨(TKX.c o1203 (((gA_sA_ne (by decide)).trans ((hF1258.2.1 175 ma_X5_isWord_176_175).trans (gA_sA_ne (by decide))))) (((gI_sW).trans ((hF1258.1 174 1 mf_X5_isWord_176_174_1).trans (gI_sW)))) (((gI_sW).trans ((hF1258.1 176 3 mf_X5_isWord_176_176_3).trans (gI_sW)))) (((gI_sW).trans ((hF1258.1 176 4 mf_X5_isWord_176_176_4).trans (gI_sW)))) (((gI_sW).trans ((hF1258.1 176 5 mf_X5_isWord_176_176_5).trans (gI_sW))))), ((PRG0.tr ((PRG0.tr (PRG0.step hT tok1175_ (rX.c (b := 2) (((hF1171.1 176 2 mf_X5_step_176_176_2).trans (hF685.1 176 2 mf_X5_isWord_176_176_2)))) (by omega)) (o1212))) (PRG0.eq (rX.c (b := 4) (((gI_sW).trans ((hF1258.1 176 4 mf_X5_isWord_176_176_4).trans (gI_sW))))) (rX.c (b := 2) (((gI_sW).trans ((hF1258.1 176 2 mf_X5_isWord_176_176_2).trans (gI_sW)))))))).le (by omega), fun c0 h => by have h1 : CST (TX g0) (nX g0) c0 g1169 1 [3] (kX g0 + 1) := CLX.head h (fun _ => S.cls tok1175 (by omega) (by omega) rfl) (rX.c (b := 2) (((hF1171.1 176 2 mf_X5_step_176_176_2).trans (hF685.1 176 2 mf_X5_isWord_176_176_2)))) (rX.c (b := 6) (((hF1171.1 176 6 mf_X5_step_176_176_6).trans (hF685.1 176 6 mf_X5_isWord_176_176_6)))); have h3 := CLX.sum o1213 h1 (TKX.someC o1203 (((hF1197.2.1 175 (by decide)).trans ((gA_sA_ne (by decide)).trans ((gA_sI).trans ((gA_sA_ne (by decide)).trans ((gA_sI).trans ((hF1171.2.1 175 ma_X5_step_176_175).trans (hF685.2.1 175 ma_X5_isWord_176_175)))))))) (((hF1197.1 174 1 (by decide)).trans ((gI_sW).trans ((gI_sI_ne (by decide)).trans ((gI_sW).trans ((gI_sI_ne (by decide)).trans ((hF1171.1 174 1 mf_X5_step_176_174_1).trans (hF685.1 174 1 mf_X5_isWord_176_174_1))))))))).choose_spec o1206; have h6 : CST (TX g0) (nX g0) c0 g1195 8 [] (kX g0 + 1) := (by first | exact h3.bad (by omega) rfl | exact h3.eps (fun _ => S.noif (TKX.someC o1203 (((hF1197.2.1 175 (by decide)).trans ((gA_sA_ne (by decide)).trans ((gA_sI).trans ((gA_sA_ne (by decide)).trans ((gA_sI).trans ((hF1171.2.1 175 ma_X5_step_176_175).trans (hF685.2.1 175 ma_X5_isWord_176_175)))))))) (((hF1197.1 174 1 (by decide)).trans ((gI_sW).trans ((gI_sI_ne (by decide)).trans ((gI_sW).trans ((gI_sI_ne (by decide)).trans ((hF1171.1 174 1 mf_X5_step_176_174_1).trans (hF685.1 174 1 mf_X5_isWord_176_174_1))))))))).choose_spec (by omega))); rw [x1280]; rw [show (kX g0 + 1 : Int) = v1181.toInt from by omega] at h6; exact h6.eq (rX.c (b := 2) (((gI_sW).trans ((hF1258.1 176 2 mf_X5_isWord_176_176_2).trans (gI_sW))))) (rX.c (b := 4) (((gI_sW).trans ((hF1258.1 176 4 mf_X5_isWord_176_176_4).trans (gI_sW))))) (rX.c (b := 6) (((gI_sW).trans ((hF1258.1 176 6 mf_X5_isWord_176_176_6).trans (gI_sW)))))⟩, (by first | exact (fun hz => absurd hz (by omega)) | exact CGX_s tok1175 (by omega) (Int.le_of_lt (TOK_lt tok1175 (by omega))) (SCX.x (SCX.mk (((hF1171.2.1 178 ma_X5_step_176_178).trans (hF685.2.1 178 ma_X5_isWord_176_178))) (((hF1171.2.1 179 ma_X5_step_176_179).trans (hF685.2.1 179 ma_X5_isWord_176_179))) (((hF1171.1 177 0 mf_X5_step_176_177_0).trans (hF685.1 177 0 mf_X5_isWord_176_177_0)))) (rX.c (b := 6) (((hF1171.1 176 6 mf_X5_step_176_176_6).trans (hF685.1 176 6 mf_X5_isWord_176_176_6))))) (GPX.k gx1210 (by decide) (by decide) (by decide) (by decide)) (TKX.someC o1203 (((hF1197.2.1 175 (by decide)).trans ((gA_sA_ne (by decide)).trans ((gA_sI).trans ((gA_sA_ne (by decide)).trans ((gA_sI).trans ((hF1171.2.1 175 ma_X5_step_176_175).trans (hF685.2.1 175 ma_X5_isWord_176_175)))))))) (((hF1197.1 174 1 (by decide)).trans ((gI_sW).trans ((gI_sI_ne (by decide)).trans ((gI_sW).trans ((gI_sI_ne (by decide)).trans ((hF1171.1 174 1 mf_X5_step_176_174_1).trans (hF685.1 174 1 mf_X5_isWord_176_174_1))))))))).choose_spec (fun hz => (o1206 hz).2.2.1 rfl) (fun _ => by omega) (SCX.x (SCX.mk (((gA_sA_ne (by decide)).trans ((hF1258.2.1 178 ma_X5_isWord_176_178).trans (gA_sA_ne (by decide))))) (((gA_sA_ne (by decide)).trans ((hF1258.2.1 179 ma_X5_isWord_176_179).trans (gA_sA_ne (by decide))))) (((gI_sW).trans ((hF1258.1 177 0 mf_X5_isWord_176_177_0).trans (gI_sW))))) (rX.c (b := 6) (((gI_sW).trans ((hF1258.1 176 6 mf_X5_isWord_176_176_6).trans (gI_sW)))))) (rX.c (b := 4) (((gI_sW).trans ((hF1258.1 176 4 mf_X5_isWord_176_176_4).trans (gI_sW))))) (rX.c (b := 6) (((gI_sW).trans ((hF1258.1 176 6 mf_X5_isWord_176_176_6).trans (gI_sW))))) (fun z => by omega) (fun _ => ⟨by show (gI _ 177 3).toInt = (gI g0 177 3).toInt + 1; omega, (by show (eA _ 180 (gI g0 177 3).toInt).toInt = _; rw [show (gI g0 177 3).toInt = v1167.toInt by omega]; exact (congrArg Int32.toInt (((eA_c (gA_sA_ne (by decide))).trans ((eA_c (hF1258.2.1 180 ma_X5_isWord_176_180)).trans ((eA_c (gA_sA_ne (by decide))).trans ((eA_c (hF1197.2.1 180 (by decide))).trans ((eA_c (gA_sA_ne (by decide))).trans ((eA_c gA_sI).trans (eA_sA_eq hI1182.1 ka_180 (by first | rfl | omega) (by first | decide | omega) (by first | decide | omega)))))))))).trans (by omega)), (by show (eA _ 181 (gI g0 177 3).toInt).toInt = _; rw [show (gI g0 177 3).toInt = v1167.toInt by omega]; exact (congrArg Int32.toInt (((eA_c (gA_sA_ne (by decide))).trans ((eA_c (hF1258.2.1 181 ma_X5_isWord_176_181)).trans ((eA_c (gA_sA_ne (by decide))).trans ((eA_c (hF1197.2.1 181 (by decide))).trans (eA_sA_eq hI1188.1 ka_181 (by first | rfl | omega) (by first | decide | omega) (by first | decide | omega)))))))).trans (by omega)), (by show (eA _ 182 (gI g0 177 3).toInt).toInt = _; rw [show (gI g0 177 3).toInt = v1167.toInt by omega]; exact (congrArg Int32.toInt (((eA_c (gA_sA_ne (by decide))).trans ((eA_c (hF1258.2.1 182 ma_X5_isWord_176_182)).trans (eA_sA_eq hI1196.1 ka_182 (by first | rfl | omega) (by first | decide | omega) (by first | decide | omega)))))).trans (by omega)), (by show (eA _ 183 (gI g0 177 3).toInt).toInt = _; rw [show (gI g0 177 3).toInt = v1167.toInt by omega]; exact (congrArg Int32.toInt ((eA_sA_eq hI1257.1 ka_183 (by first | rfl | omega) (by first | decide | omega) (by first | decide | omega)))).trans (by omega)), fun i i0 i1 => by have i2 : i < (gI g0 177 3).toInt := i1; exact ⟨(congrArg Int32.toInt (((eA_c (gA_sA_ne (by decide))).trans ((eA_c (hF1258.2.1 180 ma_X5_isWord_176_180)).trans ((eA_c (gA_sA_ne (by decide))).trans ((eA_c (hF1197.2.1 180 (by decide))).trans ((eA_c (gA_sA_ne (by decide))).trans ((eA_c gA_sI).trans ((eA_sA_ne (i := i) hI1182.1 ka_180 (by omega) (by omega) (by omega)).trans ((eA_c gA_sI).trans ((eA_c (hF1171.2.1 180 ma_X5_step_176_180)).trans (eA_c (hF685.2.1 180 ma_X5_isWord_176_180))))))))))))), (congrArg Int32.toInt (((eA_c (gA_sA_ne (by decide))).trans ((eA_c (hF1258.2.1 181 ma_X5_isWord_176_181)).trans ((eA_c (gA_sA_ne (by decide))).trans ((eA_c (hF1197.2.1 181 (by decide))).trans ((eA_sA_ne (i := i) hI1188.1 ka_181 (by omega) (by omega) (by omega)).trans ((eA_c gA_sI).trans ((eA_c (gA_sA_ne (by decide))).trans ((eA_c gA_sI).trans ((eA_c (hF1171.2.1 181 ma_X5_step_176_181)).trans (eA_c (hF685.2.1 181 ma_X5_isWord_176_181))))))))))))), (congrArg Int32.toInt (((eA_c (gA_sA_ne (by decide))).trans ((eA_c (hF1258.2.1 182 ma_X5_isWord_176_182)).trans ((eA_sA_ne (i := i) hI1196.1 ka_182 (by omega) (by omega) (by omega)).trans ((eA_c (hF1197.2.1 182 (by decide))).trans ((eA_c (gA_sA_ne (by decide))).trans ((eA_c gA_sI).trans ((eA_c (gA_sA_ne (by decide))).trans ((eA_c gA_sI).trans ((eA_c (hF1171.2.1 182 ma_X5_step_176_182)).trans (eA_c (hF685.2.1 182 ma_X5_isWord_176_182))))))))))))), (congrArg Int32.toInt (((eA_sA_ne (i := i) hI1257.1 ka_183 (by omega) (by omega) (by omega)).trans ((eA_c (hF1258.2.1 183 ma_X5_isWord_176_183)).trans ((eA_c (gA_sA_ne (by decide))).trans ((eA_c (hF1197.2.1 183 (by decide))).trans ((eA_c (gA_sA_ne (by decide))).trans ((eA_c gA_sI).trans ((eA_c (gA_sA_ne (by decide))).trans ((eA_c gA_sI).trans ((eA_c (hF1171.2.1 183 ma_X5_step_176_183)).trans (eA_c (hF685.2.1 183 ma_X5_isWord_176_183)))))))))))))⟩⟩)), (SPP_new (h := (0 : Int32).toInt) hv1186 (((gI_sW).trans ((hF1258.1 177 4 mf_X5_isWord_176_177_4).trans ((gI_sW).trans ((hF1197.1 177 4 (by decide)).trans ((gI_sW).trans (gI_sI_eq hI1184.1 kx_177 rfl _))))))) hv1187 (by first | exact Or.inl ⟨rfl, rfl⟩ | exact Or.inr (Or.inl ⟨rfl, rfl⟩) | exact Or.inr (Or.inr ⟨rfl, rfl⟩)) (by show (gI _ 177 3).toInt = (gI g0 177 3).toInt + 1; omega) (by show (eA _ 180 (gI g0 177 3).toInt).toInt = _; rw [show (gI g0 177 3).toInt = v1167.toInt by omega]; exact congrArg Int32.toInt (((eA_c (gA_sA_ne (by decide))).trans ((eA_c (hF1258.2.1 180 ma_X5_isWord_176_180)).trans ((eA_c (gA_sA_ne (by decide))).trans ((eA_c (hF1197.2.1 180 (by decide))).trans ((eA_c (gA_sA_ne (by decide))).trans ((eA_c gA_sI).trans (eA_sA_eq hI1182.1 ka_180 (by first | rfl | omega) (by first | decide | omega) (by first | decide | omega)))))))))) (fun i i0 i1 => by have i2 : i < (gI g0 177 3).toInt := i1; exact congrArg Int32.toInt (((eA_c (gA_sA_ne (by decide))).trans ((eA_c (hF1258.2.1 180 ma_X5_isWord_176_180)).trans ((eA_c (gA_sA_ne (by decide))).trans ((eA_c (hF1197.2.1 180 (by decide))).trans ((eA_c (gA_sA_ne (by decide))).trans ((eA_c gA_sI).trans ((eA_sA_ne (i := i) hI1182.1 ka_180 (by omega) (by omega) (by omega)).trans ((eA_c gA_sI).trans ((eA_c (hF1171.2.1 180 ma_X5_step_176_180)).trans (eA_c (hF685.2.1 180 ma_X5_isWord_176_180))))))))))))))⟩⟩
        · have c1263_ : v1259.toInt ≠ 0 := en_k_eq_f c1263
          have i1299 := BL.yes hb1262 (by omega)
          refine At.enter rfl ?_
          refine r_aload_n rfl ?_
          refine r_callV 168 rfl [.ref 176] [] (Nat.le_of_ble_eq_true rfl) rfl (T_X5_step_176 _ hI1257 (TKX.c o1203 (((hF1258.2.1 175 ma_X5_isWord_176_175).trans (gA_sA_ne (by decide)))) (((hF1258.1 174 1 mf_X5_isWord_176_174_1).trans (gI_sW))) (((hF1258.1 176 3 mf_X5_isWord_176_176_3).trans (gI_sW))) (((hF1258.1 176 4 mf_X5_isWord_176_176_4).trans (gI_sW))) (((hF1258.1 176 5 mf_X5_isWord_176_176_5).trans (gI_sW)))).1 (TKX.c o1203 (((hF1258.2.1 175 ma_X5_isWord_176_175).trans (gA_sA_ne (by decide)))) (((hF1258.1 174 1 mf_X5_isWord_176_174_1).trans (gI_sW))) (((hF1258.1 176 3 mf_X5_isWord_176_176_3).trans (gI_sW))) (((hF1258.1 176 4 mf_X5_isWord_176_176_4).trans (gI_sW))) (((hF1258.1 176 5 mf_X5_isWord_176_176_5).trans (gI_sW)))).2.1.le.2.1) ?_
          rintro _ _ ⟨g1300, rfl, hI1301, hF1302, rfl, hr1304⟩
          refine At.stn ?_
          have hF1305 := Fr.tr hF1261 hF1302 rfl rfl
          have tok1306_ := hr1304.2
          rw [TX.c (((hF1258.2.1 175 ma_X5_isWord_176_175).trans (gA_sA_ne (by decide)))), nX.c (((hF1258.1 174 1 mf_X5_isWord_176_174_1).trans (gI_sW))), rX.c (b := 5) (((hF1258.1 176 5 mf_X5_isWord_176_176_5).trans (gI_sW)))] at tok1306_
          have tok1306 := TKX.tok o1203 tok1306_
          rw [TX.c (((hF1197.2.1 175 (by decide)).trans ((gA_sA_ne (by decide)).trans ((gA_sI).trans ((gA_sA_ne (by decide)).trans ((gA_sI).trans ((hF1171.2.1 175 ma_X5_step_176_175).trans (hF685.2.1 175 ma_X5_isWord_176_175)))))))), nX.c (((hF1197.1 174 1 (by decide)).trans ((gI_sW).trans ((gI_sI_ne (by decide)).trans ((gI_sW).trans ((gI_sI_ne (by decide)).trans ((hF1171.1 174 1 mf_X5_step_176_174_1).trans (hF685.1 174 1 mf_X5_isWord_176_174_1))))))))] at tok1306
          have hT1307 := hr1304.1
          have x1308 := rX.e hI1257 (b := 4) ((((hF1258.1 176 4 mf_X5_isWord_176_176_4).trans (gI_sW)).trans hv1216))
          obtain ⟨v1309, hv1309⟩ : ∃ v, gI g1300 176 4 = v := ⟨_, rfl⟩
          have rv1309 := RgF.at hI1301.2.1 (p := 176) (b := 4) rfl
          rw [hv1309] at rv1309
          dsimp only at rv1309
          have tv1309 := congrArg Int32.toInt hv1309
          have x1310 := rX.e hI1301 (b := 4) (hv1309)
          refine At.enter rfl ?_
          refine r_aload_n rfl ?_
          refine r_iconst 0 rfl ?_
          refine r_iconst 0 rfl ?_
          have zv1311 : (0 : Int32).toInt = 0 := rfl
          have zv1312 : (0 : Int32).toInt = 0 := rfl
          refine r_callV 174 rfl [.ref 176, .int 0, .int 0] [] (Nat.le_of_ble_eq_true rfl) rfl (T_X5_readJoined_176 _ hI1301 0 (by decide) 0 (by decide) hT1307) ?_
          rintro _ _ ⟨g1313, rfl, hI1314, hF1315, rfl, hr1317⟩
          refine At.stn ?_
          have hF1318 := Fr.tr hF1305 hF1315 rfl rfl
          have zv1319 : (0 : Int32).toInt = 0 := rfl
          have zv1320 : (0 : Int32).toInt = 0 := rfl
          have x1325 := rX.e hI1301 (b := 2) ((((hF1302.1 176 2 mf_X5_step_176_176_2).trans ((hF1258.1 176 2 mf_X5_isWord_176_176_2).trans (gI_sW))).trans hv1214))
          have x1326 := rX.e hI1301 (b := 4) (hv1309)
          obtain ⟨o1321, o1322, o1323, o1324⟩ := hr1317.1
          have gx1327 := hr1317.2
          rw [TX.ci hI1301 (((hF1302.2.1 175 ma_X5_step_176_175).trans ((hF1258.2.1 175 ma_X5_isWord_176_175).trans ((gA_sA_ne (by decide)).trans ((hF1197.2.1 175 (by decide)).trans ((gA_sA_ne (by decide)).trans ((gA_sI).trans ((gA_sA_ne (by decide)).trans ((gA_sI).trans ((hF1171.2.1 175 ma_X5_step_176_175).trans (hF685.2.1 175 ma_X5_isWord_176_175))))))))))), nX.ci hI1301 (((hF1302.1 174 1 mf_X5_step_176_174_1).trans ((hF1258.1 174 1 mf_X5_isWord_176_174_1).trans ((gI_sW).trans ((hF1197.1 174 1 (by decide)).trans ((gI_sW).trans ((gI_sI_ne (by decide)).trans ((gI_sW).trans ((gI_sI_ne (by decide)).trans ((hF1171.1 174 1 mf_X5_step_176_174_1).trans (hF685.1 174 1 mf_X5_isWord_176_174_1)))))))))))] at gx1327
          have o1328 := OPD.tc o1323 (((hF1302.2.1 175 ma_X5_step_176_175).trans ((hF1258.2.1 175 ma_X5_isWord_176_175).trans ((gA_sA_ne (by decide)).trans ((hF1197.2.1 175 (by decide)).trans ((gA_sA_ne (by decide)).trans ((gA_sI).trans ((gA_sA_ne (by decide)).trans ((gA_sI).trans ((hF1171.2.1 175 ma_X5_step_176_175).trans (hF685.2.1 175 ma_X5_isWord_176_175))))))))))) (((hF1302.1 174 1 mf_X5_step_176_174_1).trans ((hF1258.1 174 1 mf_X5_isWord_176_174_1).trans ((gI_sW).trans ((hF1197.1 174 1 (by decide)).trans ((gI_sW).trans ((gI_sI_ne (by decide)).trans ((gI_sW).trans ((gI_sI_ne (by decide)).trans ((hF1171.1 174 1 mf_X5_step_176_174_1).trans (hF685.1 174 1 mf_X5_isWord_176_174_1)))))))))))
          obtain ⟨v1329, hv1329⟩ : ∃ v, gI g1313 176 2 = v := ⟨_, rfl⟩
          have tv1329 := congrArg Int32.toInt hv1329
          have x1330 := rX.e hI1314 (b := 2) (hv1329)
          obtain ⟨v1331, hv1331⟩ : ∃ v, gI g1313 176 4 = v := ⟨_, rfl⟩
          have rv1331 := RgF.at hI1314.2.1 (p := 176) (b := 4) rfl
          rw [hv1331] at rv1331
          dsimp only at rv1331
          have tv1331 := congrArg Int32.toInt hv1331
          have x1332 := rX.e hI1314 (b := 4) (hv1331)
          refine At.enter rfl ?_
          refine r_aload_n rfl ?_
          refine q_getR (Sh.ref hI1314.1 kx_176 rfl) ?_
          refine q_getR (Sh.ref hI1314.1 kx_177 rfl) ?_
          refine r_iload_n rfl ?_
          refine r_aload_n rfl ?_
          refine q_getR (Sh.ref hI1314.1 kx_176 rfl) ?_
          obtain ⟨v1333, hv1333⟩ : ∃ v, gI g1313 177 0 = v := ⟨_, rfl⟩
          have rv1333 := RgF.at hI1314.2.1 (p := 177) (b := 0) rfl
          rw [hv1333] at rv1333
          dsimp only at rv1333
          refine q_getI (Sh.int hI1314.1 kx_177 rfl) v1333 hv1333 ?_
          refine q_iast (Sh.arr hI1314.1 ka_183) (v1167.toInt) rfl (by omega) ?_
          have hI1334 := HI.wA0 hI1314 ka_183 (p := 183) rfl rfl (v1167.toInt) (v1333)
          have hF1335 := Fr.wA (p := 183) (j := v1167.toInt) (v := v1333) hF1318 rfl
          refine r_vret ?_
          have x1336 := rX.e hI1334 (b := 2) (((gI_sW).trans hv1329))
          have x1337 := rX.e hI0 (b := 2) (hv1207)
          have x1338 := rX.e hI1334 (b := 4) (((gI_sW).trans hv1331))
          have x1339 := rX.e hI0 (b := 4) (hv1177)
          obtain ⟨v1340, hv1340⟩ : ∃ v, gI g1313 176 6 = v := ⟨_, rfl⟩
          have tv1340 := congrArg Int32.toInt hv1340
          have x1341 := rX.e hI1334 (b := 6) (((gI_sW).trans hv1340))
          obtain ⟨v1342, hv1342⟩ : ∃ v, gI g0 176 6 = v := ⟨_, rfl⟩
          have tv1342 := congrArg Int32.toInt hv1342
          have x1343 := rX.e hI0 (b := 6) (hv1342)
          have x1344 := rX.e hI1170 (b := 2) ((((hF1171.1 176 2 mf_X5_step_176_176_2).trans (hF685.1 176 2 mf_X5_isWord_176_176_2)).trans hv1207))
          have x1345 := rX.e hI1170 (b := 4) (hv1179)
          have x1346 := rX.e hI1196 (b := 2) (hv1214)
          have x1347 := rX.e hI1196 (b := 4) (hv1216)
          have x1348 := rX.e hI1301 (b := 2) ((((hF1302.1 176 2 mf_X5_step_176_176_2).trans ((hF1258.1 176 2 mf_X5_isWord_176_176_2).trans (gI_sW))).trans hv1214))
          have x1349 := rX.e hI1301 (b := 4) (hv1309)
          have x1350 := rX.e hI1314 (b := 2) (hv1329)
          have x1351 := rX.e hI1314 (b := 4) (hv1331)
          have x1352 := kX.e hI0 (hv1167)
          have x1353 := kX.e hI1334 (((gI_sW).trans ((hF1315.1 177 3 (by decide)).trans ((hF1302.1 177 3 mf_X5_step_176_177_3).trans ((hF1258.1 177 3 mf_X5_isWord_176_177_3).trans ((gI_sW).trans ((hF1197.1 177 3 (by decide)).trans ((gI_sW).trans ((gI_sI_ne (by decide)).trans ((gI_sW).trans (gI_sI_eq hI1170.1 kx_177 rfl _)))))))))))
          have pr1354 : _ ∧ _ ∧ _ := o1212
          have pr1355 : _ ∧ _ ∧ _ := o1322
          have x1356 := rX.e hI1170 (b := 2) ((((hF1171.1 176 2 mf_X5_step_176_176_2).trans (hF685.1 176 2 mf_X5_isWord_176_176_2)).trans hv1207))
          have x1357 := rX.e hI1170 (b := 4) (hv1179)
          have x1358 := rX.e hI1170 (b := 6) ((((hF1171.1 176 6 mf_X5_step_176_176_6).trans (hF685.1 176 6 mf_X5_isWord_176_176_6)).trans hv1342))
          have x1359 := rX.e hI1196 (b := 2) (hv1214)
          have x1360 := rX.e hI1196 (b := 4) (hv1216)
          obtain ⟨v1361, hv1361⟩ : ∃ v, gI g1195 176 6 = v := ⟨_, rfl⟩
          have tv1361 := congrArg Int32.toInt hv1361
          have x1362 := rX.e hI1196 (b := 6) (hv1361)
          have x1363 := rX.e hI1301 (b := 2) ((((hF1302.1 176 2 mf_X5_step_176_176_2).trans ((hF1258.1 176 2 mf_X5_isWord_176_176_2).trans (gI_sW))).trans hv1214))
          have x1364 := rX.e hI1301 (b := 4) (hv1309)
          have x1365 := rX.e hI1301 (b := 6) ((((hF1302.1 176 6 mf_X5_step_176_176_6).trans ((hF1258.1 176 6 mf_X5_isWord_176_176_6).trans (gI_sW))).trans hv1361))
          have x1366 := rX.e hI1314 (b := 2) (hv1329)
          have x1367 := rX.e hI1314 (b := 4) (hv1331)
          have x1368 := rX.e hI1314 (b := 6) (hv1340)
          have y1369 : lX g0 = v1190.toInt := congrArg Int32.toInt (hv1190)
          have y1370 : lX g1169 = v1190.toInt := congrArg Int32.toInt ((((hF1171.1 177 0 mf_X5_step_176_177_0).trans (hF685.1 177 0 mf_X5_isWord_176_177_0)).trans hv1190))
          have y1371 : lX g1195 = v1218.toInt := congrArg Int32.toInt (hv1218)
          have y1372 : lX g1300 = v1218.toInt := congrArg Int32.toInt ((((hF1302.1 177 0 mf_X5_step_176_177_0).trans ((hF1258.1 177 0 mf_X5_isWord_176_177_0).trans (gI_sW))).trans hv1218))
          have y1373 : lX g1313 = v1333.toInt := congrArg Int32.toInt (hv1333)
          have y1374 := lX.e hI1334 (((gI_sW).trans hv1333))
          have zv1375 : (0 : Int32).toInt = 0 := rfl
          have zv1376 : (1 : Int32).toInt = 1 := rfl
          have zv1377 : (2 : Int32).toInt = 2 := rfl
          have y1378 : (gI g0 177 3).toInt = v1167.toInt := congrArg Int32.toInt (hv1167)
          have y1379 := HI.eqI hI1334 (p := 177) (b := 3) (((gI_sW).trans ((hF1315.1 177 3 (by decide)).trans ((hF1302.1 177 3 mf_X5_step_176_177_3).trans ((hF1258.1 177 3 mf_X5_isWord_176_177_3).trans ((gI_sW).trans ((hF1197.1 177 3 (by decide)).trans ((gI_sW).trans ((gI_sI_ne (by decide)).trans ((gI_sW).trans (gI_sI_eq hI1170.1 kx_177 rfl _)))))))))))
          have y1380 : (gI g0 177 3).toInt = v1167.toInt := congrArg Int32.toInt (hv1167)
          have y1381 := HI.eqI hI1334 (p := 177) (b := 3) (((gI_sW).trans ((hF1315.1 177 3 (by decide)).trans ((hF1302.1 177 3 mf_X5_step_176_177_3).trans ((hF1258.1 177 3 mf_X5_isWord_176_177_3).trans ((gI_sW).trans ((hF1197.1 177 3 (by decide)).trans ((gI_sW).trans ((gI_sI_ne (by decide)).trans ((gI_sW).trans (gI_sI_eq hI1170.1 kx_177 rfl _)))))))))))
          exact ⟨_, rfl, hI1334, hF1335, rfl, ⟨⟨(TKX.c o1321 ((gA_sA_ne (by decide))) ((gI_sW)) ((gI_sW)) ((gI_sW)) ((gI_sW))), ((PRG0.tr ((PRG0.tr ((PRG0.tr ((PRG0.tr (PRG0.step hT tok1175_ (rX.c (b := 2) (((hF1171.1 176 2 mf_X5_step_176_176_2).trans (hF685.1 176 2 mf_X5_isWord_176_176_2)))) (by omega)) (o1212))) (PRG0.step o1203 tok1306_ (rX.c (b := 2) (((hF1302.1 176 2 mf_X5_step_176_176_2).trans ((hF1258.1 176 2 mf_X5_isWord_176_176_2).trans (gI_sW))))) (by omega)))) (o1322))) (PRG0.eq (rX.c (b := 4) ((gI_sW))) (rX.c (b := 2) ((gI_sW)))))).le (by omega), fun c0 h => by have h1 : CST (TX g0) (nX g0) c0 g1169 1 [3] (kX g0 + 1) := CLX.head h (fun _ => S.cls tok1175 (by omega) (by omega) rfl) (rX.c (b := 2) (((hF1171.1 176 2 mf_X5_step_176_176_2).trans (hF685.1 176 2 mf_X5_isWord_176_176_2)))) (rX.c (b := 6) (((hF1171.1 176 6 mf_X5_step_176_176_6).trans (hF685.1 176 6 mf_X5_isWord_176_176_6)))); have h3 := CLX.sum o1213 h1 (TKX.someC o1203 (((hF1197.2.1 175 (by decide)).trans ((gA_sA_ne (by decide)).trans ((gA_sI).trans ((gA_sA_ne (by decide)).trans ((gA_sI).trans ((hF1171.2.1 175 ma_X5_step_176_175).trans (hF685.2.1 175 ma_X5_isWord_176_175)))))))) (((hF1197.1 174 1 (by decide)).trans ((gI_sW).trans ((gI_sI_ne (by decide)).trans ((gI_sW).trans ((gI_sI_ne (by decide)).trans ((hF1171.1 174 1 mf_X5_step_176_174_1).trans (hF685.1 174 1 mf_X5_isWord_176_174_1))))))))).choose_spec o1206; have h4 := CLX.head h3 (fun _ => S.if_ tok1306 (by omega)) (rX.c (b := 2) (((hF1302.1 176 2 mf_X5_step_176_176_2).trans ((hF1258.1 176 2 mf_X5_isWord_176_176_2).trans (gI_sW))))) (rX.c (b := 6) (((hF1302.1 176 6 mf_X5_step_176_176_6).trans ((hF1258.1 176 6 mf_X5_isWord_176_176_6).trans (gI_sW))))); have h6 := CLX.test o1328 h4 (TKX.someC o1321 (((hF1315.2.1 175 (by decide)).trans ((hF1302.2.1 175 ma_X5_step_176_175).trans ((hF1258.2.1 175 ma_X5_isWord_176_175).trans ((gA_sA_ne (by decide)).trans ((hF1197.2.1 175 (by decide)).trans ((gA_sA_ne (by decide)).trans ((gA_sI).trans ((gA_sA_ne (by decide)).trans ((gA_sI).trans ((hF1171.2.1 175 ma_X5_step_176_175).trans (hF685.2.1 175 ma_X5_isWord_176_175)))))))))))) (((hF1315.1 174 1 (by decide)).trans ((hF1302.1 174 1 mf_X5_step_176_174_1).trans ((hF1258.1 174 1 mf_X5_isWord_176_174_1).trans ((gI_sW).trans ((hF1197.1 174 1 (by decide)).trans ((gI_sW).trans ((gI_sI_ne (by decide)).trans ((gI_sW).trans ((gI_sI_ne (by decide)).trans ((hF1171.1 174 1 mf_X5_step_176_174_1).trans (hF685.1 174 1 mf_X5_isWord_176_174_1))))))))))))).choose_spec o1324; rw [x1353]; rw [show (kX g0 + 1 : Int) = v1181.toInt from by omega] at h6; exact h6.eq (rX.c (b := 2) ((gI_sW))) (rX.c (b := 4) ((gI_sW))) (rX.c (b := 6) ((gI_sW)))⟩, (by first | exact (fun hz => absurd hz (by omega)) | exact CGX_st tok1175 (by omega) (Int.le_of_lt (TOK_lt tok1175 (by omega))) (SCX.x (SCX.mk (((hF1171.2.1 178 ma_X5_step_176_178).trans (hF685.2.1 178 ma_X5_isWord_176_178))) (((hF1171.2.1 179 ma_X5_step_176_179).trans (hF685.2.1 179 ma_X5_isWord_176_179))) (((hF1171.1 177 0 mf_X5_step_176_177_0).trans (hF685.1 177 0 mf_X5_isWord_176_177_0)))) (rX.c (b := 6) (((hF1171.1 176 6 mf_X5_step_176_176_6).trans (hF685.1 176 6 mf_X5_isWord_176_176_6))))) (GPX.k gx1210 (by decide) (by decide) (by decide) (by decide)) tok1306 (fun hz => (o1206 hz).2.2.1 rfl) (by omega) (Int.le_of_lt (TOK_lt tok1306 (by omega))) (SCX.x (SCX.mk (((hF1302.2.1 178 ma_X5_step_176_178).trans ((hF1258.2.1 178 ma_X5_isWord_176_178).trans (gA_sA_ne (by decide))))) (((hF1302.2.1 179 ma_X5_step_176_179).trans ((hF1258.2.1 179 ma_X5_isWord_176_179).trans (gA_sA_ne (by decide))))) (((hF1302.1 177 0 mf_X5_step_176_177_0).trans ((hF1258.1 177 0 mf_X5_isWord_176_177_0).trans (gI_sW))))) (rX.c (b := 6) (((hF1302.1 176 6 mf_X5_step_176_176_6).trans ((hF1258.1 176 6 mf_X5_isWord_176_176_6).trans (gI_sW)))))) (GPX.k gx1327 (by decide) (by decide) (by decide) (by decide)) (TKX.someC o1321 (((hF1315.2.1 175 (by decide)).trans ((hF1302.2.1 175 ma_X5_step_176_175).trans ((hF1258.2.1 175 ma_X5_isWord_176_175).trans ((gA_sA_ne (by decide)).trans ((hF1197.2.1 175 (by decide)).trans ((gA_sA_ne (by decide)).trans ((gA_sI).trans ((gA_sA_ne (by decide)).trans ((gA_sI).trans ((hF1171.2.1 175 ma_X5_step_176_175).trans (hF685.2.1 175 ma_X5_isWord_176_175)))))))))))) (((hF1315.1 174 1 (by decide)).trans ((hF1302.1 174 1 mf_X5_step_176_174_1).trans ((hF1258.1 174 1 mf_X5_isWord_176_174_1).trans ((gI_sW).trans ((hF1197.1 174 1 (by decide)).trans ((gI_sW).trans ((gI_sI_ne (by decide)).trans ((gI_sW).trans ((gI_sI_ne (by decide)).trans ((hF1171.1 174 1 mf_X5_step_176_174_1).trans (hF685.1 174 1 mf_X5_isWord_176_174_1))))))))))))).choose_spec (fun hz => (o1324 hz).1 rfl) (SCX.x (SCX.mk ((gA_sA_ne (by decide))) ((gA_sA_ne (by decide))) ((gI_sW))) (rX.c (b := 6) ((gI_sW)))) (rX.c (b := 4) ((gI_sW))) (rX.c (b := 6) ((gI_sW))) (fun z => by omega) (fun z => by omega) (fun _ => ⟨by show (gI _ 177 3).toInt = (gI g0 177 3).toInt + 1; omega, (by show (eA _ 180 (gI g0 177 3).toInt).toInt = _; rw [show (gI g0 177 3).toInt = v1167.toInt by omega]; exact (congrArg Int32.toInt (((eA_c (gA_sA_ne (by decide))).trans ((eA_c (hF1315.2.1 180 (by decide))).trans ((eA_c (hF1302.2.1 180 ma_X5_step_176_180)).trans ((eA_c (hF1258.2.1 180 ma_X5_isWord_176_180)).trans ((eA_c (gA_sA_ne (by decide))).trans ((eA_c (hF1197.2.1 180 (by decide))).trans ((eA_c (gA_sA_ne (by decide))).trans ((eA_c gA_sI).trans (eA_sA_eq hI1182.1 ka_180 (by first | rfl | omega) (by first | decide | omega) (by first | decide | omega)))))))))))).trans (by omega)), (by show (eA _ 181 (gI g0 177 3).toInt).toInt = _; rw [show (gI g0 177 3).toInt = v1167.toInt by omega]; exact (congrArg Int32.toInt (((eA_c (gA_sA_ne (by decide))).trans ((eA_c (hF1315.2.1 181 (by decide))).trans ((eA_c (hF1302.2.1 181 ma_X5_step_176_181)).trans ((eA_c (hF1258.2.1 181 ma_X5_isWord_176_181)).trans ((eA_c (gA_sA_ne (by decide))).trans ((eA_c (hF1197.2.1 181 (by decide))).trans (eA_sA_eq hI1188.1 ka_181 (by first | rfl | omega) (by first | decide | omega) (by first | decide | omega)))))))))).trans (by omega)), (by show (eA _ 182 (gI g0 177 3).toInt).toInt = _; rw [show (gI g0 177 3).toInt = v1167.toInt by omega]; exact (congrArg Int32.toInt (((eA_c (gA_sA_ne (by decide))).trans ((eA_c (hF1315.2.1 182 (by decide))).trans ((eA_c (hF1302.2.1 182 ma_X5_step_176_182)).trans ((eA_c (hF1258.2.1 182 ma_X5_isWord_176_182)).trans (eA_sA_eq hI1196.1 ka_182 (by first | rfl | omega) (by first | decide | omega) (by first | decide | omega)))))))).trans (by omega)), (by show (eA _ 183 (gI g0 177 3).toInt).toInt = _; rw [show (gI g0 177 3).toInt = v1167.toInt by omega]; exact (congrArg Int32.toInt ((eA_sA_eq hI1314.1 ka_183 (by first | rfl | omega) (by first | decide | omega) (by first | decide | omega)))).trans (by omega)), fun i i0 i1 => by have i2 : i < (gI g0 177 3).toInt := i1; exact ⟨(congrArg Int32.toInt (((eA_c (gA_sA_ne (by decide))).trans ((eA_c (hF1315.2.1 180 (by decide))).trans ((eA_c (hF1302.2.1 180 ma_X5_step_176_180)).trans ((eA_c (hF1258.2.1 180 ma_X5_isWord_176_180)).trans ((eA_c (gA_sA_ne (by decide))).trans ((eA_c (hF1197.2.1 180 (by decide))).trans ((eA_c (gA_sA_ne (by decide))).trans ((eA_c gA_sI).trans ((eA_sA_ne (i := i) hI1182.1 ka_180 (by omega) (by omega) (by omega)).trans ((eA_c gA_sI).trans ((eA_c (hF1171.2.1 180 ma_X5_step_176_180)).trans (eA_c (hF685.2.1 180 ma_X5_isWord_176_180))))))))))))))), (congrArg Int32.toInt (((eA_c (gA_sA_ne (by decide))).trans ((eA_c (hF1315.2.1 181 (by decide))).trans ((eA_c (hF1302.2.1 181 ma_X5_step_176_181)).trans ((eA_c (hF1258.2.1 181 ma_X5_isWord_176_181)).trans ((eA_c (gA_sA_ne (by decide))).trans ((eA_c (hF1197.2.1 181 (by decide))).trans ((eA_sA_ne (i := i) hI1188.1 ka_181 (by omega) (by omega) (by omega)).trans ((eA_c gA_sI).trans ((eA_c (gA_sA_ne (by decide))).trans ((eA_c gA_sI).trans ((eA_c (hF1171.2.1 181 ma_X5_step_176_181)).trans (eA_c (hF685.2.1 181 ma_X5_isWord_176_181))))))))))))))), (congrArg Int32.toInt (((eA_c (gA_sA_ne (by decide))).trans ((eA_c (hF1315.2.1 182 (by decide))).trans ((eA_c (hF1302.2.1 182 ma_X5_step_176_182)).trans ((eA_c (hF1258.2.1 182 ma_X5_isWord_176_182)).trans ((eA_sA_ne (i := i) hI1196.1 ka_182 (by omega) (by omega) (by omega)).trans ((eA_c (hF1197.2.1 182 (by decide))).trans ((eA_c (gA_sA_ne (by decide))).trans ((eA_c gA_sI).trans ((eA_c (gA_sA_ne (by decide))).trans ((eA_c gA_sI).trans ((eA_c (hF1171.2.1 182 ma_X5_step_176_182)).trans (eA_c (hF685.2.1 182 ma_X5_isWord_176_182))))))))))))))), (congrArg Int32.toInt (((eA_sA_ne (i := i) hI1314.1 ka_183 (by omega) (by omega) (by omega)).trans ((eA_c (hF1315.2.1 183 (by decide))).trans ((eA_c (hF1302.2.1 183 ma_X5_step_176_183)).trans ((eA_c (hF1258.2.1 183 ma_X5_isWord_176_183)).trans ((eA_c (gA_sA_ne (by decide))).trans ((eA_c (hF1197.2.1 183 (by decide))).trans ((eA_c (gA_sA_ne (by decide))).trans ((eA_c gA_sI).trans ((eA_c (gA_sA_ne (by decide))).trans ((eA_c gA_sI).trans ((eA_c (hF1171.2.1 183 ma_X5_step_176_183)).trans (eA_c (hF685.2.1 183 ma_X5_isWord_176_183)))))))))))))))⟩⟩)), (SPP_new (h := (0 : Int32).toInt) hv1186 (((gI_sW).trans ((hF1315.1 177 4 (by decide)).trans ((hF1302.1 177 4 mf_X5_step_176_177_4).trans ((hF1258.1 177 4 mf_X5_isWord_176_177_4).trans ((gI_sW).trans ((hF1197.1 177 4 (by decide)).trans ((gI_sW).trans (gI_sI_eq hI1184.1 kx_177 rfl _))))))))) hv1187 (by first | exact Or.inl ⟨rfl, rfl⟩ | exact Or.inr (Or.inl ⟨rfl, rfl⟩) | exact Or.inr (Or.inr ⟨rfl, rfl⟩)) (by show (gI _ 177 3).toInt = (gI g0 177 3).toInt + 1; omega) (by show (eA _ 180 (gI g0 177 3).toInt).toInt = _; rw [show (gI g0 177 3).toInt = v1167.toInt by omega]; exact congrArg Int32.toInt (((eA_c (gA_sA_ne (by decide))).trans ((eA_c (hF1315.2.1 180 (by decide))).trans ((eA_c (hF1302.2.1 180 ma_X5_step_176_180)).trans ((eA_c (hF1258.2.1 180 ma_X5_isWord_176_180)).trans ((eA_c (gA_sA_ne (by decide))).trans ((eA_c (hF1197.2.1 180 (by decide))).trans ((eA_c (gA_sA_ne (by decide))).trans ((eA_c gA_sI).trans (eA_sA_eq hI1182.1 ka_180 (by first | rfl | omega) (by first | decide | omega) (by first | decide | omega)))))))))))) (fun i i0 i1 => by have i2 : i < (gI g0 177 3).toInt := i1; exact congrArg Int32.toInt (((eA_c (gA_sA_ne (by decide))).trans ((eA_c (hF1315.2.1 180 (by decide))).trans ((eA_c (hF1302.2.1 180 ma_X5_step_176_180)).trans ((eA_c (hF1258.2.1 180 ma_X5_isWord_176_180)).trans ((eA_c (gA_sA_ne (by decide))).trans ((eA_c (hF1197.2.1 180 (by decide))).trans ((eA_c (gA_sA_ne (by decide))).trans ((eA_c gA_sI).trans ((eA_sA_ne (i := i) hI1182.1 ka_180 (by omega) (by omega) (by omega)).trans ((eA_c gA_sI).trans ((eA_c (hF1171.2.1 180 ma_X5_step_176_180)).trans (eA_c (hF685.2.1 180 ma_X5_isWord_176_180))))))))))))))))⟩⟩
    · have c1168_ : v1167.toInt ≥ 12 := en_i_lt_f c1168
      refine At.enter rfl ?_
      refine r_aload_n rfl ?_
      refine q_inlV 64 rfl [.ref 176] [] (Nat.le_of_ble_eq_true rfl) rfl ?_
      refine Ev.mk rfl rfl ⟨Nat.le_of_ble_eq_true rfl, Or.inr (q_rc hI684.1 kx_176 rfl)⟩ ?_
      show At _ none _ _ (0, [(0, .ref 176)], [], (_, _)) _
      refine At.enter rfl ?_
      refine r_aload_n rfl ?_
      obtain ⟨v1382, hv1382⟩ : ∃ v, gI g0 176 2 = v := ⟨_, rfl⟩
      refine q_getI (Sh.int hI684.1 kx_176 rfl) v1382 ((hF685.1 176 2 mf_X5_isWord_176_176_2).trans hv1382) ?_
      refine r_iconst (-1) rfl ?_
      refine r_ics 8 rfl (fun c1383 => ?_) (fun c1383 => ?_)
      · have c1383_ : v1382.toInt ≠ (-1) := en_i_ne_t c1383
        refine At.enter rfl ?_
        refine q_vret ?_
        refine At.enter rfl ?_
        refine r_vret ?_
        have x1384 := rX.e hI684 (b := 2) (((hF685.1 176 2 mf_X5_isWord_176_176_2).trans hv1382))
        have x1385 := rX.e hI0 (b := 2) (hv1382)
        obtain ⟨v1386, hv1386⟩ : ∃ v, gI g0 176 4 = v := ⟨_, rfl⟩
        have rv1386 := RgF.at hI0.2.1 (p := 176) (b := 4) rfl
        rw [hv1386] at rv1386
        dsimp only at rv1386
        have tv1386 := congrArg Int32.toInt hv1386
        have x1387 := rX.e hI684 (b := 4) (((hF685.1 176 4 mf_X5_isWord_176_176_4).trans hv1386))
        have x1388 := rX.e hI0 (b := 4) (hv1386)
        obtain ⟨v1389, hv1389⟩ : ∃ v, gI g0 176 6 = v := ⟨_, rfl⟩
        have tv1389 := congrArg Int32.toInt hv1389
        have x1390 := rX.e hI684 (b := 6) (((hF685.1 176 6 mf_X5_isWord_176_176_6).trans hv1389))
        have x1391 := rX.e hI0 (b := 6) (hv1389)
        have x1392 := kX.e hI0 (hv1167)
        have x1393 := kX.e hI684 (((hF685.1 177 3 mf_X5_isWord_176_177_3).trans hv1167))
        exact ⟨_, rfl, hI684, hF688, rfl, ⟨⟨(TKX.c hT ((hF685.2.1 175 ma_X5_isWord_176_175)) ((hF685.1 174 1 mf_X5_isWord_176_174_1)) ((hF685.1 176 3 mf_X5_isWord_176_176_3)) ((hF685.1 176 4 mf_X5_isWord_176_176_4)) ((hF685.1 176 5 mf_X5_isWord_176_176_5))), (PRG0.fail 1 (rX.c (b := 4) ((hF685.1 176 4 mf_X5_isWord_176_176_4))) (fun _ => by omega) (fun _ => by omega) (by omega)).le (by omega), fun c0 h => h.fail (fun _ => S.clsF (TKX.some hT).choose_spec (by omega)) (fun _ => by omega) (fun _ => by omega) (by omega)⟩, (fun hz => absurd hz (by omega)), (SPP_same ((hF685.1 177 4 mf_X5_isWord_176_177_4)) ((hF685.2.1 180 ma_X5_isWord_176_180)) ((hF685.1 177 3 mf_X5_isWord_176_177_3)))⟩⟩
      · have c1383_ : v1382.toInt = (-1) := en_i_ne_f c1383
        refine At.enter rfl ?_
        refine r_aload_n rfl ?_
        refine r_aload_n rfl ?_
        obtain ⟨v1394, hv1394⟩ : ∃ v, gI g0 176 4 = v := ⟨_, rfl⟩
        have rv1394 := RgF.at hI0.2.1 (p := 176) (b := 4) rfl
        rw [hv1394] at rv1394
        dsimp only at rv1394
        refine q_getI (Sh.int hI684.1 kx_176 rfl) v1394 ((hF685.1 176 4 mf_X5_isWord_176_176_4).trans hv1394) ?_
        refine q_putI (Sh.int hI684.1 kx_176 rfl) rfl ?_
        have hI1395 := HI.wI0 hI684 kx_176 rfl (p := 176) (b := 2) (v := v1394) rfl
        have hF1396 := Fr.wI (p := 176) (b := 2) (v := v1394) hF688 rfl
        refine Ar.fall 16 rfl ?_
        refine At.enter rfl ?_
        refine q_vret ?_
        refine At.enter rfl ?_
        refine r_vret ?_
        have x1397 := rX.e hI1395 (b := 2) ((gI_sI_eq hI684.1 kx_176 rfl _))
        have x1398 := rX.e hI0 (b := 2) (hv1382)
        have x1399 := rX.e hI1395 (b := 4) ((((gI_sI_ne (by decide)).trans (hF685.1 176 4 mf_X5_isWord_176_176_4)).trans hv1394))
        have x1400 := rX.e hI0 (b := 4) (hv1394)
        obtain ⟨v1401, hv1401⟩ : ∃ v, gI g0 176 6 = v := ⟨_, rfl⟩
        have tv1401 := congrArg Int32.toInt hv1401
        have x1402 := rX.e hI1395 (b := 6) ((((gI_sI_ne (by decide)).trans (hF685.1 176 6 mf_X5_isWord_176_176_6)).trans hv1401))
        have x1403 := rX.e hI0 (b := 6) (hv1401)
        have x1404 := kX.e hI0 (hv1167)
        have x1405 := kX.e hI1395 ((((gI_sI_ne (by decide)).trans (hF685.1 177 3 mf_X5_isWord_176_177_3)).trans hv1167))
        exact ⟨_, rfl, hI1395, hF1396, rfl, ⟨⟨(TKX.c hT (((gA_sI).trans (hF685.2.1 175 ma_X5_isWord_176_175))) (((gI_sI_ne (by decide)).trans (hF685.1 174 1 mf_X5_isWord_176_174_1))) (((gI_sI_ne (by decide)).trans (hF685.1 176 3 mf_X5_isWord_176_176_3))) (((gI_sI_ne (by decide)).trans (hF685.1 176 4 mf_X5_isWord_176_176_4))) (((gI_sI_ne (by decide)).trans (hF685.1 176 5 mf_X5_isWord_176_176_5)))), (PRG0.fail 1 (rX.c (b := 4) (((gI_sI_ne (by decide)).trans (hF685.1 176 4 mf_X5_isWord_176_176_4)))) (fun _ => by omega) (fun _ => by omega) (by omega)).le (by omega), fun c0 h => h.fail (fun _ => S.clsF (TKX.some hT).choose_spec (by omega)) (fun _ => by omega) (fun _ => by omega) (by omega)⟩, (fun hz => absurd hz (by omega)), (SPP_same (((gI_sI_ne (by decide)).trans (hF685.1 177 4 mf_X5_isWord_176_177_4))) (((gA_sI).trans (hF685.2.1 180 ma_X5_isWord_176_180))) (((gI_sI_ne (by decide)).trans (hF685.1 177 3 mf_X5_isWord_176_177_3))))⟩⟩
