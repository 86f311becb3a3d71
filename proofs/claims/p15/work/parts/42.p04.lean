def F_X11_readPart_231 : List (Nat × Nat) := [(231, 9), (231, 10), (231, 11), (231, 12), (231, 13), (231, 14), (231, 17), (231, 20), (231, 23), (231, 24)]
def A_X11_readPart_231 : List Nat := [238, 239, 240, 241]
theorem mf_X11_isSign_231_231_11 : memF F_X11_isSign_231 231 11 = false := by decide
theorem ma_X11_isSign_231_236 : memA A_X11_isSign_231 236 = false := by decide
theorem mf_X11_isSign_231_231_8 : memF F_X11_isSign_231 231 8 = false := by decide
theorem mf_X11_isSign_231_231_9 : memF F_X11_isSign_231 231 9 = false := by decide
theorem mf_X11_isSign_231_231_10 : memF F_X11_isSign_231 231 10 = false := by decide
theorem mf_X11_isSign_231_231_12 : memF F_X11_isSign_231 231 12 = false := by decide
theorem mf_X11_partAt_231_231_11 : memF F_X11_partAt_231 231 11 = false := by decide
theorem mf_X11_partAt_231_231_20 : memF F_X11_partAt_231 231 20 = false := by decide
theorem mf_X11_isSign_231_231_20 : memF F_X11_isSign_231 231 20 = false := by decide
theorem mf_X11_partAt_231_231_8 : memF F_X11_partAt_231 231 8 = false := by decide
theorem mf_X11_partAt_231_231_9 : memF F_X11_partAt_231 231 9 = false := by decide
theorem mf_X11_partAt_231_231_10 : memF F_X11_partAt_231 231 10 = false := by decide
theorem mf_X11_partAt_231_231_12 : memF F_X11_partAt_231 231 12 = false := by decide
theorem ma_X11_partAt_231_236 : memA A_X11_partAt_231 236 = false := by decide
theorem mf_X11_partAt_231_231_14 : memF F_X11_partAt_231 231 14 = false := by decide
theorem mf_X11_isSign_231_231_14 : memF F_X11_isSign_231 231 14 = false := by decide
theorem mf_X11_must_231_231_8 : memF F_X11_must_231 231 8 = false := by decide
theorem mf_X11_partAt_231_231_13 : memF F_X11_partAt_231 231 13 = false := by decide
theorem mf_X11_isSign_231_231_13 : memF F_X11_isSign_231 231 13 = false := by decide
theorem mf_X11_must_231_231_17 : memF F_X11_must_231 231 17 = false := by decide
theorem mf_X11_partAt_231_231_17 : memF F_X11_partAt_231 231 17 = false := by decide
theorem mf_X11_isSign_231_231_17 : memF F_X11_isSign_231 231 17 = false := by decide
theorem mf_X11_must_231_231_23 : memF F_X11_must_231 231 23 = false := by decide
theorem mf_X11_partAt_231_231_23 : memF F_X11_partAt_231 231 23 = false := by decide
theorem mf_X11_isSign_231_231_23 : memF F_X11_isSign_231 231 23 = false := by decide
theorem mf_X11_must_231_231_15 : memF F_X11_must_231 231 15 = false := by decide
theorem mf_X11_partAt_231_231_15 : memF F_X11_partAt_231 231 15 = false := by decide
theorem mf_X11_isSign_231_231_15 : memF F_X11_isSign_231 231 15 = false := by decide
theorem mf_X11_must_231_231_20 : memF F_X11_must_231 231 20 = false := by decide
theorem mf_X11_must_231_231_24 : memF F_X11_must_231 231 24 = false := by decide
theorem mf_X11_partAt_231_231_24 : memF F_X11_partAt_231 231 24 = false := by decide
theorem mf_X11_isSign_231_231_24 : memF F_X11_isSign_231 231 24 = false := by decide
theorem ma_X11_must_231_238 : memA A_X11_must_231 238 = false := by decide
theorem ma_X11_partAt_231_238 : memA A_X11_partAt_231 238 = false := by decide
theorem ma_X11_isSign_231_238 : memA A_X11_isSign_231 238 = false := by decide
theorem ma_X11_must_231_239 : memA A_X11_must_231 239 = false := by decide
theorem ma_X11_partAt_231_239 : memA A_X11_partAt_231 239 = false := by decide
theorem ma_X11_isSign_231_239 : memA A_X11_isSign_231 239 = false := by decide
theorem ma_X11_must_231_240 : memA A_X11_must_231 240 = false := by decide
theorem ma_X11_partAt_231_240 : memA A_X11_partAt_231 240 = false := by decide
theorem ma_X11_isSign_231_240 : memA A_X11_isSign_231 240 = false := by decide
theorem ma_X11_must_231_241 : memA A_X11_must_231 241 = false := by decide
theorem ma_X11_partAt_231_241 : memA A_X11_partAt_231 241 = false := by decide
theorem ma_X11_isSign_231_241 : memA A_X11_isSign_231 241 = false := by decide
theorem mf_X11_emit_231_231_20 : memF F_X11_emit_231 231 20 = false := by decide
theorem mf_X11_emit_231_231_8 : memF F_X11_emit_231 231 8 = false := by decide
theorem mf_X11_emit_231_231_9 : memF F_X11_emit_231 231 9 = false := by decide
theorem mf_X11_emit_231_231_10 : memF F_X11_emit_231 231 10 = false := by decide
theorem mf_X11_emit_231_231_11 : memF F_X11_emit_231 231 11 = false := by decide
theorem mf_X11_emit_231_231_12 : memF F_X11_emit_231 231 12 = false := by decide
theorem mf_X11_emit_231_231_14 : memF F_X11_emit_231 231 14 = false := by decide
theorem mf_X11_emit_231_231_13 : memF F_X11_emit_231 231 13 = false := by decide
theorem mf_X11_emit_231_231_15 : memF F_X11_emit_231 231 15 = false := by decide
theorem mf_X11_emit_231_231_24 : memF F_X11_emit_231 231 24 = false := by decide
theorem ma_X11_emit_231_236 : memA A_X11_emit_231 236 = false := by decide
theorem mf_X11_push_231_231_17 : memF F_X11_push_231 231 17 = false := by decide
theorem ma_X11_push_231_238 : memA A_X11_push_231 238 = false := by decide
theorem ma_X11_push_231_239 : memA A_X11_push_231 239 = false := by decide
theorem mf_X11_push_231_231_8 : memF F_X11_push_231 231 8 = false := by decide
theorem mf_X11_push_231_231_9 : memF F_X11_push_231 231 9 = false := by decide
theorem mf_X11_push_231_231_10 : memF F_X11_push_231 231 10 = false := by decide
theorem mf_X11_push_231_231_11 : memF F_X11_push_231 231 11 = false := by decide
theorem mf_X11_push_231_231_12 : memF F_X11_push_231 231 12 = false := by decide
theorem mf_X11_push_231_231_14 : memF F_X11_push_231 231 14 = false := by decide
theorem mf_X11_push_231_231_13 : memF F_X11_push_231 231 13 = false := by decide
theorem mf_X11_push_231_231_15 : memF F_X11_push_231 231 15 = false := by decide
theorem mf_X11_push_231_231_20 : memF F_X11_push_231 231 20 = false := by decide
theorem mf_X11_push_231_231_24 : memF F_X11_push_231 231 24 = false := by decide
theorem ma_X11_push_231_236 : memA A_X11_push_231 236 = false := by decide
set_option maxRecDepth 100000 in
set_option maxHeartbeats 4000000 in
theorem T_X11_readPart_231 (d : Nat) {N : Nat} {g0 : List en_E} (hI0 : HI g0) (b : Int) (o0 : Int → Int) (a0 : Int → Int) (h1 : ((gI g0 231 9).toInt ≤ (gI g0 231 10).toInt ∧ (gI g0 231 10).toInt ≤ (gI g0 231 8).toInt ∧ 0 ≤ (gI g0 231 11).toInt ∧ (gI g0 231 11).toInt ≤ 3 * ((gI g0 231 10).toInt - (gI g0 231 9).toInt))) (h2 : (gI g0 231 14).toInt = 0) (h3 : (gI g0 231 17).toInt + (gI g0 231 23).toInt ≤ (gI g0 231 9).toInt) (hW : W26 g0) (hP : PT g0 b 1 o0 a0) (hK : TKM g0) : Ev (d + 5) 204 [.ref 231] (g0, N) (fun w h' => ∃ g', h' = (g', N) ∧ HI g' ∧ Fr F_X11_readPart_231 A_X11_readPart_231 g0 g' ∧ ∃ r : Int32, w = some (.int r) ∧ (1 ≤ r.toInt ∧ r.toInt ≤ 3) ∧ ((gI g' 231 9).toInt ≤ (gI g' 231 10).toInt ∧ (gI g' 231 10).toInt ≤ (gI g' 231 8).toInt ∧ 0 ≤ (gI g' 231 11).toInt ∧ (gI g' 231 11).toInt ≤ 3 * ((gI g' 231 10).toInt - (gI g' 231 9).toInt) ∧ W26 g' ∧ (gI g' 231 17).toInt + (gI g' 231 23).toInt ≤ 400 ∧ (gI g0 231 9).toInt ≤ (gI g' 231 9).toInt ∧ TURN g' b r.toInt o0 a0 ∧ PRG (gI g' 231 14).toInt (gI g0 231 9).toInt (gI g' 231 9).toInt r.toInt 4 ∧ TKM g' ∧ MTP g0 g' 1 r.toInt (fun _ => True))) := by
  have hF0 : Fr F_X11_readPart_231 A_X11_readPart_231 g0 g0 := Fr.rf
  obtain ⟨v1, hv1⟩ : ∃ v, gI g0 231 8 = v := ⟨_, rfl⟩
  have rv1 := RgF.at hI0.2.1 (p := 231) (b := 8) rfl
  rw [hv1] at rv1
  dsimp only at rv1
  have tv1 := congrArg Int32.toInt hv1
  obtain ⟨v2, hv2⟩ : ∃ v, gI g0 231 9 = v := ⟨_, rfl⟩
  have rv2 := RgF.at hI0.2.1 (p := 231) (b := 9) rfl
  rw [hv2] at rv2
  dsimp only at rv2
  have tv2 := congrArg Int32.toInt hv2
  obtain ⟨v3, hv3⟩ : ∃ v, gI g0 231 10 = v := ⟨_, rfl⟩
  have rv3 := RgF.at hI0.2.1 (p := 231) (b := 10) rfl
  rw [hv3] at rv3
  dsimp only at rv3
  have tv3 := congrArg Int32.toInt hv3
  obtain ⟨v4, hv4⟩ : ∃ v, gI g0 231 11 = v := ⟨_, rfl⟩
  have tv4 := congrArg Int32.toInt hv4
  obtain ⟨v5, hv5⟩ : ∃ v, gJ g0 231 12 = v := ⟨_, rfl⟩
  have tv5 := congrArg Int64.toInt hv5
  obtain ⟨v6, hv6⟩ : ∃ v, gI g0 231 14 = v := ⟨_, rfl⟩
  have tv6 := congrArg Int32.toInt hv6
  obtain ⟨v7, hv7⟩ : ∃ v, gI g0 231 17 = v := ⟨_, rfl⟩
  have rv7 := RgF.at hI0.2.1 (p := 231) (b := 17) rfl
  rw [hv7] at rv7
  dsimp only at rv7
  have tv7 := congrArg Int32.toInt hv7
  obtain ⟨v8, hv8⟩ : ∃ v, gI g0 231 23 = v := ⟨_, rfl⟩
  have rv8 := RgF.at hI0.2.1 (p := 231) (b := 23) rfl
  rw [hv8] at rv8
  dsimp only at rv8
  have tv8 := congrArg Int32.toInt hv8
  refine Ev.mk rfl rfl ⟨Nat.le_of_ble_eq_true rfl, Or.inr (q_rc hI0.1 kx_231 rfl)⟩ ?_
  show At _ none _ _ (0, [(0, .ref 231)], [], (_, _)) _
  refine At.enter rfl ?_
  refine r_aload_n rfl ?_
  refine r_bipush 91 rfl ?_
  have zv1788 : (91 : Int32).toInt = 91 := rfl
  refine r_callV 6 rfl [.ref 231, .int 91] [] (Nat.le_of_ble_eq_true rfl) rfl (T_X11_isSign_231 _ hI0 91 (by omega)) ?_
  rintro _ _ ⟨g1789, rfl, hI1790, hF1791, v1792, rfl, hr1793⟩
  refine At.sti ?_
  have hF1794 := Fr.tr hF0 hF1791 rfl rfl
  have x1797 := HI.eqI hI1790 (p := 231) (b := 11) (((hF1791.1 231 11 mf_X11_isSign_231_231_11).trans hv4))
  have hb1798 : BL (CDM g0 = 3) v1792.toInt := ISM.sign (c := 3) hr1793.2.2 hK (isSC_d (by omega)) (by decide +kernel)
  refine At.enter rfl ?_
  refine r_ifs 9 rfl (fun c1799 => ?_) (fun c1799 => ?_)
  · have c1799_ : v1792.toInt = 0 := en_k_eq_t c1799
    have i1800 := BL.no hb1798 (by omega)
    refine At.enter rfl ?_
    refine r_aload_n rfl ?_
    refine r_callV 21 rfl [.ref 231] [] (Nat.le_of_ble_eq_true rfl) rfl (T_X11_partAt_231 _ hI1790 (by omega) (TKM.c hK ((hF1791.2.1 236 ma_X11_isSign_231_236)) ((hF1791.1 231 8 mf_X11_isSign_231_231_8)) ((hF1791.1 231 9 mf_X11_isSign_231_231_9)) ((hF1791.1 231 10 mf_X11_isSign_231_231_10)) ((hF1791.1 231 11 mf_X11_isSign_231_231_11)) ((hF1791.2.2 231 12 mf_X11_isSign_231_231_12)))) ?_
    rintro _ _ ⟨g1802, rfl, hI1803, hF1804, v1805, rfl, hr1806⟩
    refine At.sti ?_
    have hF1807 := Fr.tr hF1794 hF1804 rfl rfl
    have x1809 := HI.eqI hI1803 (p := 231) (b := 11) ((((hF1804.1 231 11 mf_X11_partAt_231_231_11).trans (hF1791.1 231 11 mf_X11_isSign_231_231_11)).trans hv4))
    have pa1810 : PAI (CDM g0) 9 v1805.toInt := by have z := hr1806.2.2; rw [CDM.c ((hF1791.2.1 236 ma_X11_isSign_231_236)) ((hF1791.1 231 9 mf_X11_isSign_231_231_9)) ((hF1791.1 231 10 mf_X11_isSign_231_231_10)) ((hF1791.1 231 11 mf_X11_isSign_231_231_11))] at z; exact z
    refine At.enter rfl ?_
    refine r_istore_n ([(1, .int v1805), (0, .ref 231)]) rfl ?_
    refine r_aload_n rfl ?_
    refine q_getI (Sh.int hI1803.1 kx_231 rfl) v4 (((hF1804.1 231 11 mf_X11_partAt_231_231_11).trans (hF1791.1 231 11 mf_X11_isSign_231_231_11)).trans hv4) ?_
    refine r_iconst 2 rfl ?_
    refine r_ics 30 rfl (fun c1811 => ?_) (fun c1811 => ?_)
    · have c1811_ : v4.toInt ≠ 2 := en_i_ne_t c1811
      refine At.enter rfl ?_
      refine r_iconst 0 rfl ?_
      refine Ar.fall 46 rfl ?_
      refine At.enter rfl ?_
      refine r_istore_n ([(2, .int 0), (1, .int v1805), (0, .ref 231)]) rfl ?_
      refine r_aload_n rfl ?_
      refine r_iload_n rfl ?_
      refine r_iconst (-1) rfl ?_
      refine r_ics 53 rfl (fun c1812 => ?_) (fun c1812 => ?_)
      · have c1812_ : v1805.toInt ≠ (-1) := en_i_ne_t c1812
        refine At.enter rfl ?_
        refine r_iconst 1 rfl ?_
        refine r_goto ?_
        refine At.enter rfl ?_
        refine r_iload_n rfl ?_
        refine r_iconst (-1) rfl ?_
        refine r_ics 67 rfl (fun c1813 => ?_) (fun c1813 => ?_)
        · have c1813_ : v1805.toInt ≠ (-1) := en_i_ne_t c1813
          refine At.enter rfl ?_
          refine r_iload_n rfl ?_
          refine Ar.fall 72 rfl ?_
          refine At.enter rfl ?_
          refine r_iload_n rfl ?_
          refine r_ift (by decide) ?_
          refine At.enter rfl ?_
          refine r_iconst 0 rfl ?_
          refine Ar.fall 85 rfl ?_
          refine At.enter rfl ?_
          refine q_inlV 88 rfl [.ref 231, .int 1, .int v1805, .int 0] [] (Nat.le_of_ble_eq_true rfl) rfl ?_
          refine Ev.mk rfl rfl ⟨Nat.le_of_ble_eq_true rfl, Or.inr (q_rc hI1803.1 kx_231 rfl)⟩ ?_
          show At _ none _ _ (0, [(0, .ref 231), (1, .int 1), (2, .int v1805), (3, .int 0)], [], (_, _)) _
          refine At.enter rfl ?_
          refine r_aload_n rfl ?_
          refine r_iload_n rfl ?_
          refine r_iff 5 rfl (by decide) ?_
          refine At.enter rfl ?_
          refine r_aload_n rfl ?_
          obtain ⟨v1814, hv1814⟩ : ∃ v, gI g0 231 20 = v := ⟨_, rfl⟩
          refine q_getI (Sh.int hI1803.1 kx_231 rfl) v1814 (((hF1804.1 231 20 mf_X11_partAt_231_231_20).trans (hF1791.1 231 20 mf_X11_isSign_231_231_20)).trans hv1814) ?_
          refine r_bipush 50 rfl ?_
          refine r_ics 14 rfl (fun c1815 => ?_) (fun c1815 => ?_)
          · have c1815_ : v1814.toInt ≥ 50 := en_i_ge_t c1815
            refine At.enter rfl ?_
            refine r_iconst 0 rfl ?_
            refine Ar.fall 19 rfl ?_
            refine At.enter rfl ?_
            have x1816 := HI.eqI hI1803 (p := 231) (b := 8) ((((hF1804.1 231 8 mf_X11_partAt_231_231_8).trans (hF1791.1 231 8 mf_X11_isSign_231_231_8)).trans hv1))
            have x1817 := HI.eqI hI1803 (p := 231) (b := 9) ((((hF1804.1 231 9 mf_X11_partAt_231_231_9).trans (hF1791.1 231 9 mf_X11_isSign_231_231_9)).trans hv2))
            have x1818 := HI.eqI hI1803 (p := 231) (b := 10) ((((hF1804.1 231 10 mf_X11_partAt_231_231_10).trans (hF1791.1 231 10 mf_X11_isSign_231_231_10)).trans hv3))
            have w261820 := W26.cong hW hI1803 (((hF1804.1 231 9 mf_X11_partAt_231_231_9).trans (hF1791.1 231 9 mf_X11_isSign_231_231_9))) (((hF1804.1 231 10 mf_X11_partAt_231_231_10).trans (hF1791.1 231 10 mf_X11_isSign_231_231_10))) (((hF1804.1 231 11 mf_X11_partAt_231_231_11).trans (hF1791.1 231 11 mf_X11_isSign_231_231_11))) (((hF1804.2.2 231 12 mf_X11_partAt_231_231_12).trans (hF1791.2.2 231 12 mf_X11_isSign_231_231_12)))
            have zv1821 : (0 : Int32).toInt = 0 := rfl
            refine r_callV 22 rfl [.ref 231, .int 0] [] (Nat.le_of_ble_eq_true rfl) rfl (T_X11_must_231 _ hI1803 0 (by decide) (by refine ⟨?_, ?_, ?_, ?_⟩ <;> omega) w261820 (TKM.c hK (((hF1804.2.1 236 ma_X11_partAt_231_236).trans (hF1791.2.1 236 ma_X11_isSign_231_236))) (((hF1804.1 231 8 mf_X11_partAt_231_231_8).trans (hF1791.1 231 8 mf_X11_isSign_231_231_8))) (((hF1804.1 231 9 mf_X11_partAt_231_231_9).trans (hF1791.1 231 9 mf_X11_isSign_231_231_9))) (((hF1804.1 231 10 mf_X11_partAt_231_231_10).trans (hF1791.1 231 10 mf_X11_isSign_231_231_10))) (((hF1804.1 231 11 mf_X11_partAt_231_231_11).trans (hF1791.1 231 11 mf_X11_isSign_231_231_11))) (((hF1804.2.2 231 12 mf_X11_partAt_231_231_12).trans (hF1791.2.2 231 12 mf_X11_isSign_231_231_12))))) ?_
            rintro _ _ ⟨g1822, rfl, hI1823, hF1824, rfl, hr1826⟩
            refine At.stn ?_
            have hF1827 := Fr.tr hF1807 hF1824 rfl rfl
            have x1833 := HI.eqI hI1803 (p := 231) (b := 14) ((((hF1804.1 231 14 mf_X11_partAt_231_231_14).trans (hF1791.1 231 14 mf_X11_isSign_231_231_14)).trans hv6))
            have x1834 := HI.eqI hI1823 (p := 231) (b := 8) ((((hF1824.1 231 8 mf_X11_must_231_231_8).trans ((hF1804.1 231 8 mf_X11_partAt_231_231_8).trans (hF1791.1 231 8 mf_X11_isSign_231_231_8))).trans hv1))
            obtain ⟨v1835, hv1835⟩ : ∃ v, gI g1822 231 9 = v := ⟨_, rfl⟩
            have rv1835 := RgF.at hI1823.2.1 (p := 231) (b := 9) rfl
            rw [hv1835] at rv1835
            dsimp only at rv1835
            have tv1835 := congrArg Int32.toInt hv1835
            obtain ⟨v1837, hv1837⟩ : ∃ v, gI g1822 231 10 = v := ⟨_, rfl⟩
            have rv1837 := RgF.at hI1823.2.1 (p := 231) (b := 10) rfl
            rw [hv1837] at rv1837
            dsimp only at rv1837
            have tv1837 := congrArg Int32.toInt hv1837
            obtain ⟨v1839, hv1839⟩ : ∃ v, gI g1822 231 11 = v := ⟨_, rfl⟩
            have tv1839 := congrArg Int32.toInt hv1839
            obtain ⟨v1841, hv1841⟩ : ∃ v, gI g1822 231 14 = v := ⟨_, rfl⟩
            have tv1841 := congrArg Int32.toInt hv1841
            obtain ⟨c1843, c1844, c1845, c1846, c1847, c1848, c1849, c1850⟩ := hr1826
            obtain ⟨v1851, hv1851⟩ : ∃ v, gI g0 231 13 = v := ⟨_, rfl⟩
            have tv1851 := congrArg Int32.toInt hv1851
            have x1852 := HI.eqI hI1803 (p := 231) (b := 13) ((((hF1804.1 231 13 mf_X11_partAt_231_231_13).trans (hF1791.1 231 13 mf_X11_isSign_231_231_13)).trans hv1851))
            obtain ⟨v1854, hv1854⟩ : ∃ v, gI g1822 231 13 = v := ⟨_, rfl⟩
            have tv1854 := congrArg Int32.toInt hv1854
            unfold MUSTP at c1850
            rw [TM.c (((hF1804.2.1 236 ma_X11_partAt_231_236).trans (hF1791.2.1 236 ma_X11_isSign_231_236))), nM.c (((hF1804.1 231 8 mf_X11_partAt_231_231_8).trans (hF1791.1 231 8 mf_X11_isSign_231_231_8))), pI.c (b := 14) (((hF1804.1 231 14 mf_X11_partAt_231_231_14).trans (hF1791.1 231 14 mf_X11_isSign_231_231_14))), pI.c (b := 13) (((hF1804.1 231 13 mf_X11_partAt_231_231_13).trans (hF1791.1 231 13 mf_X11_isSign_231_231_13))), pI.c (b := 10) (((hF1804.1 231 10 mf_X11_partAt_231_231_10).trans (hF1791.1 231 10 mf_X11_isSign_231_231_10))), pI.c (b := 9) (((hF1804.1 231 9 mf_X11_partAt_231_231_9).trans (hF1791.1 231 9 mf_X11_isSign_231_231_9)))] at c1850
            have mu1856 : MUSTP g0 g1822 0 := c1850
            clear c1850
            have hK1857 := mu1856.1
            refine At.enter rfl ?_
            refine r_aload_n rfl ?_
            refine q_getI (Sh.int hI1823.1 kx_231 rfl) v1841 hv1841 ?_
            refine r_ifs 29 rfl (fun c1858 => ?_) (fun c1858 => ?_)
            · have c1858_ : v1841.toInt ≠ 0 := en_k_ne_t c1858
              clear c1849
              obtain ⟨i1859, i1860⟩ := MUSTP.y mu1856 (by omega) (by omega)
              refine At.enter rfl ?_
              refine q_vret ?_
              refine At.enter rfl ?_
              refine r_iconst 3 rfl ?_
              refine r_ireti ?_
              obtain ⟨v1865, hv1865⟩ : ∃ v, gJ g1822 231 12 = v := ⟨_, rfl⟩
              have x1866 := HI.eqJ hI1823 (b := 12) (hv1865)
              have x1868 := HI.eqI hI1823 (p := 231) (b := 17) ((((hF1824.1 231 17 mf_X11_must_231_231_17).trans ((hF1804.1 231 17 mf_X11_partAt_231_231_17).trans (hF1791.1 231 17 mf_X11_isSign_231_231_17))).trans hv7))
              have x1869 := HI.eqI hI1823 (p := 231) (b := 23) ((((hF1824.1 231 23 mf_X11_must_231_231_23).trans ((hF1804.1 231 23 mf_X11_partAt_231_231_23).trans (hF1791.1 231 23 mf_X11_isSign_231_231_23))).trans hv8))
              have zv1871 : (3 : Int32).toInt = 3 := rfl
              obtain ⟨v1875, hv1875⟩ : ∃ v, gI g0 231 15 = v := ⟨_, rfl⟩
              have rv1875 := RgF.at hI0.2.1 (p := 231) (b := 15) rfl
              rw [hv1875] at rv1875
              dsimp only at rv1875
              have tv1875 := congrArg Int32.toInt hv1875
              have x1876 := HI.eqI hI1823 (p := 231) (b := 15) ((((hF1824.1 231 15 mf_X11_must_231_231_15).trans ((hF1804.1 231 15 mf_X11_partAt_231_231_15).trans (hF1791.1 231 15 mf_X11_isSign_231_231_15))).trans hv1875))
              have x1877 := HI.eqI hI1823 (p := 231) (b := 20) ((((hF1824.1 231 20 mf_X11_must_231_231_20).trans ((hF1804.1 231 20 mf_X11_partAt_231_231_20).trans (hF1791.1 231 20 mf_X11_isSign_231_231_20))).trans hv1814))
              obtain ⟨v1879, hv1879⟩ : ∃ v, gI g0 231 24 = v := ⟨_, rfl⟩
              have tv1879 := congrArg Int32.toInt hv1879
              have x1880 := HI.eqI hI1823 (p := 231) (b := 24) ((((hF1824.1 231 24 mf_X11_must_231_231_24).trans ((hF1804.1 231 24 mf_X11_partAt_231_231_24).trans (hF1791.1 231 24 mf_X11_isSign_231_231_24))).trans hv1879))
              have x1885 := HI.eqI hI0 (p := 231) (b := 20) (hv1814)
              have lp := pa1810
              unfold PAI at lp
              have ld := CDM.dig hK
              have y1888 : pI g0 11 = (gI g0 231 11).toInt := rfl
              have y1889 : wth g0 = (gJ g0 231 12).toInt := rfl
              have x1891 := HI.eqJ hI0 (b := 12) (hv5)
              have mf1892 := mu1856.2.2.1 (show (gI g0 231 14).toInt = 0 from by omega) (by omega)
              have y1893 : (gI _ 231 14).toInt ≠ 0 := mf1892.1
              have y1894 : (gI _ 231 13).toInt = (gI g0 231 9).toInt := mf1892.2
              exact ⟨_, rfl, hI1823, hF1827, _, rfl, by decide, ⟨by omega, by omega, by omega, by omega, c1848, by omega, by omega, (fun hbad => ⟨by omega, (PT.mk (fun h => by first | exact absurd h (by decide) | (exfalso; omega)) (fun h => by first | exact absurd h (by decide) | (exfalso; omega)) (fun h h9 => by first | exact absurd h (by decide) | (exfalso; omega)) (fun h => by first | exact absurd h (by decide) | (exfalso; omega)))⟩), (fun hbad => by omega), hK1857, (fun c0 b hC h => M.leafF h (TKM.some hK).choose_spec (by omega) (fun z => by have z1 := z.1; have z2 : (gI g0 231 20).toInt < 50 := z.2; omega) (fun _ => ⟨show (gI _ 231 14).toInt ≠ 0 from by omega, show (gI _ 231 13).toInt = (gI g0 231 9).toInt from by omega⟩) (fun z => absurd (show (gI g0 231 14).toInt = 0 from (by first | exact h2 | omega)) z) _)⟩⟩
            · have c1858_ : v1841.toInt = 0 := en_k_ne_f c1858
              obtain ⟨i1895, i1896, i1897⟩ := c1849 (by omega)
              obtain ⟨i1898, i1899⟩ := MUSTP.z mu1856 (by omega) (by omega)
              refine At.enter rfl ?_
              refine r_aload_n rfl ?_
              refine r_iload_n rfl ?_
              refine r_iload_n rfl ?_
              have x1900 := HI.eqI hI1823 (p := 231) (b := 17) ((((hF1824.1 231 17 mf_X11_must_231_231_17).trans ((hF1804.1 231 17 mf_X11_partAt_231_231_17).trans (hF1791.1 231 17 mf_X11_isSign_231_231_17))).trans hv7))
              refine r_callV 35 rfl [.ref 231, .int v1805, .int 0] [] (Nat.le_of_ble_eq_true rfl) rfl (T_X11_emit_231 _ hI1823 v1805 0 (by omega)) ?_
              rintro _ _ ⟨g1902, rfl, hI1903, hF1904, rfl, hr1906⟩
              refine At.stn ?_
              have hF1907 := Fr.tr hF1827 hF1904 rfl rfl
              have x1910 := HI.eqI hI1823 (p := 231) (b := 23) ((((hF1824.1 231 23 mf_X11_must_231_231_23).trans ((hF1804.1 231 23 mf_X11_partAt_231_231_23).trans (hF1791.1 231 23 mf_X11_isSign_231_231_23))).trans hv8))
              obtain ⟨v1911, hv1911⟩ : ∃ v, gI g1902 231 17 = v := ⟨_, rfl⟩
              have rv1911 := RgF.at hI1903.2.1 (p := 231) (b := 17) rfl
              rw [hv1911] at rv1911
              dsimp only at rv1911
              have tv1911 := congrArg Int32.toInt hv1911
              have y1913 : (gI _ 231 17).toInt = (gI _ 231 17).toInt + 1 := hr1906.1
              have pg1915 := PG.cong (hP.1 (by decide)) hI1823 (((hF1824.2.1 238 ma_X11_must_231_238).trans ((hF1804.2.1 238 ma_X11_partAt_231_238).trans (hF1791.2.1 238 ma_X11_isSign_231_238)))) (((hF1824.2.1 239 ma_X11_must_231_239).trans ((hF1804.2.1 239 ma_X11_partAt_231_239).trans (hF1791.2.1 239 ma_X11_isSign_231_239)))) (((hF1824.2.1 240 ma_X11_must_231_240).trans ((hF1804.2.1 240 ma_X11_partAt_231_240).trans (hF1791.2.1 240 ma_X11_isSign_231_240)))) (((hF1824.2.1 241 ma_X11_must_231_241).trans ((hF1804.2.1 241 ma_X11_partAt_231_241).trans (hF1791.2.1 241 ma_X11_isSign_231_241)))) (((hF1824.1 231 17 mf_X11_must_231_231_17).trans ((hF1804.1 231 17 mf_X11_partAt_231_231_17).trans (hF1791.1 231 17 mf_X11_isSign_231_231_17)))) (((hF1824.1 231 23 mf_X11_must_231_231_23).trans ((hF1804.1 231 23 mf_X11_partAt_231_231_23).trans (hF1791.1 231 23 mf_X11_isSign_231_231_23))))
              have pg1914 := PG.emit (e' := 1) pg1915 hr1906 (hF1904.2.1 240 ma_X11_emit_231_240) (hF1904.2.1 241 ma_X11_emit_231_241) (hF1904.1 231 23 mf_X11_emit_231_231_23) (Or.inl ⟨by omega, by omega, by decide, by decide⟩)
              refine At.enter rfl ?_
              refine r_aload_n rfl ?_
              refine r_dup rfl ?_
              refine q_getI (Sh.int hI1903.1 kx_231 rfl) v1814 (((hF1904.1 231 20 mf_X11_emit_231_231_20).trans ((hF1824.1 231 20 mf_X11_must_231_231_20).trans ((hF1804.1 231 20 mf_X11_partAt_231_231_20).trans (hF1791.1 231 20 mf_X11_isSign_231_231_20)))).trans hv1814) ?_
              refine r_iconst 1 rfl ?_
              refine q_iaddO (fun v1916 _ => ?_)
              refine q_putI (Sh.int hI1903.1 kx_231 rfl) rfl ?_
              have hI1917 := HI.wI0 hI1903 kx_231 rfl (p := 231) (b := 20) (v := v1916) rfl
              have hF1918 := Fr.wI (p := 231) (b := 20) (v := v1916) hF1907 rfl
              refine Ar.fall 45 rfl ?_
              refine At.enter rfl ?_
              refine q_vret ?_
              refine At.enter rfl ?_
              refine r_iconst 3 rfl ?_
              refine r_ireti ?_
              have x1919 := HI.eqI hI1917 (p := 231) (b := 8) ((((gI_sI_ne (by decide)).trans ((hF1904.1 231 8 mf_X11_emit_231_231_8).trans ((hF1824.1 231 8 mf_X11_must_231_231_8).trans ((hF1804.1 231 8 mf_X11_partAt_231_231_8).trans (hF1791.1 231 8 mf_X11_isSign_231_231_8))))).trans hv1))
              have x1920 := HI.eqI hI1917 (p := 231) (b := 9) ((((gI_sI_ne (by decide)).trans (hF1904.1 231 9 mf_X11_emit_231_231_9)).trans hv1835))
              have x1921 := HI.eqI hI1917 (p := 231) (b := 10) ((((gI_sI_ne (by decide)).trans (hF1904.1 231 10 mf_X11_emit_231_231_10)).trans hv1837))
              have x1922 := HI.eqI hI1917 (p := 231) (b := 11) ((((gI_sI_ne (by decide)).trans (hF1904.1 231 11 mf_X11_emit_231_231_11)).trans hv1839))
              obtain ⟨v1923, hv1923⟩ : ∃ v, gJ g1822 231 12 = v := ⟨_, rfl⟩
              have x1924 := HI.eqJ hI1917 (b := 12) ((((gJ_sI_ne (by decide)).trans (hF1904.2.2 231 12 mf_X11_emit_231_231_12)).trans hv1923))
              have x1925 := HI.eqI hI1917 (p := 231) (b := 14) ((((gI_sI_ne (by decide)).trans (hF1904.1 231 14 mf_X11_emit_231_231_14)).trans hv1841))
              have x1926 := HI.eqI hI1917 (p := 231) (b := 17) (((gI_sI_ne (by decide)).trans hv1911))
              have x1927 := HI.eqI hI1917 (p := 231) (b := 23) ((((gI_sI_ne (by decide)).trans ((hF1904.1 231 23 mf_X11_emit_231_231_23).trans ((hF1824.1 231 23 mf_X11_must_231_231_23).trans ((hF1804.1 231 23 mf_X11_partAt_231_231_23).trans (hF1791.1 231 23 mf_X11_isSign_231_231_23))))).trans hv8))
              have zv1929 : (3 : Int32).toInt = 3 := rfl
              have pg1930 := PG.cong pg1914 hI1917 ((gA_sI)) ((gA_sI)) ((gA_sI)) ((gA_sI)) ((gI_sI_ne (by decide))) ((gI_sI_ne (by decide)))
              have w261931 := W26.cong c1848 hI1917 (((gI_sI_ne (by decide)).trans (hF1904.1 231 9 mf_X11_emit_231_231_9))) (((gI_sI_ne (by decide)).trans (hF1904.1 231 10 mf_X11_emit_231_231_10))) (((gI_sI_ne (by decide)).trans (hF1904.1 231 11 mf_X11_emit_231_231_11))) (((gJ_sI_ne (by decide)).trans (hF1904.2.2 231 12 mf_X11_emit_231_231_12)))
              have x1933 := HI.eqI hI1917 (p := 231) (b := 13) ((((gI_sI_ne (by decide)).trans (hF1904.1 231 13 mf_X11_emit_231_231_13)).trans hv1854))
              obtain ⟨v1935, hv1935⟩ : ∃ v, gI g0 231 15 = v := ⟨_, rfl⟩
              have rv1935 := RgF.at hI0.2.1 (p := 231) (b := 15) rfl
              rw [hv1935] at rv1935
              dsimp only at rv1935
              have tv1935 := congrArg Int32.toInt hv1935
              have x1936 := HI.eqI hI1917 (p := 231) (b := 15) ((((gI_sI_ne (by decide)).trans ((hF1904.1 231 15 mf_X11_emit_231_231_15).trans ((hF1824.1 231 15 mf_X11_must_231_231_15).trans ((hF1804.1 231 15 mf_X11_partAt_231_231_15).trans (hF1791.1 231 15 mf_X11_isSign_231_231_15))))).trans hv1935))
              have x1937 := HI.eqI hI1917 (p := 231) (b := 20) ((gI_sI_eq hI1903.1 kx_231 rfl _))
              obtain ⟨v1939, hv1939⟩ : ∃ v, gI g0 231 24 = v := ⟨_, rfl⟩
              have tv1939 := congrArg Int32.toInt hv1939
              have x1940 := HI.eqI hI1917 (p := 231) (b := 24) ((((gI_sI_ne (by decide)).trans ((hF1904.1 231 24 mf_X11_emit_231_231_24).trans ((hF1824.1 231 24 mf_X11_must_231_231_24).trans ((hF1804.1 231 24 mf_X11_partAt_231_231_24).trans (hF1791.1 231 24 mf_X11_isSign_231_231_24))))).trans hv1939))
              have x1945 := HI.eqI hI0 (p := 231) (b := 20) (hv1814)
              have lp := pa1810
              unfold PAI at lp
              have ld := CDM.dig hK
              have y1948 : pI g0 11 = (gI g0 231 11).toInt := rfl
              have y1949 : wth g0 = (gJ g0 231 12).toInt := rfl
              have x1951 := HI.eqJ hI0 (b := 12) (hv5)
              have y1956 : (gI g1822 231 13).toInt = (gI g0 231 13).toInt := (mu1856.2.1 (show (gI g0 231 14).toInt = 0 from by omega) (by omega)).2.1
              exact ⟨_, rfl, hI1917, hF1918, _, rfl, by decide, ⟨by omega, by omega, by omega, by omega, w261931, by omega, by omega, (fun hbad => ⟨by omega, (PT.mk (fun h => by first | exact absurd h (by decide) | (exfalso; omega)) (fun _ => pg1930) (fun h h9 => by first | exact absurd h (by decide) | (exfalso; omega)) (fun h => by first | exact absurd h (by decide) | (exfalso; omega)))⟩), (fun hbad => by omega), (TKM.c hK1857 (((gA_sI).trans (hF1904.2.1 236 ma_X11_emit_231_236))) (((gI_sI_ne (by decide)).trans (hF1904.1 231 8 mf_X11_emit_231_231_8))) (((gI_sI_ne (by decide)).trans (hF1904.1 231 9 mf_X11_emit_231_231_9))) (((gI_sI_ne (by decide)).trans (hF1904.1 231 10 mf_X11_emit_231_231_10))) (((gI_sI_ne (by decide)).trans (hF1904.1 231 11 mf_X11_emit_231_231_11))) (((gJ_sI_ne (by decide)).trans (hF1904.2.2 231 12 mf_X11_emit_231_231_12)))), (fun c0 b hC h => M.leaf h (by rw [pI.c (((gI_sI_ne (by decide)).trans (hF1904.1 231 9 mf_X11_emit_231_231_9)))]; exact (MUSTP.tok hK mu1856 (by omega) (by omega))) (by omega) (show (gI g0 231 20).toInt < 50 from by omega) (((gA_sI).trans ((hF1904.2.1 240 ma_X11_emit_231_240).trans ((hF1824.2.1 240 ma_X11_must_231_240).trans ((hF1804.2.1 240 ma_X11_partAt_231_240).trans (hF1791.2.1 240 ma_X11_isSign_231_240)))))) (show (gI _ 231 23).toInt = (gI g0 231 23).toInt from (by first | exact x1927.trans tv8.symm | omega)) (show (gI _ 231 24).toInt = (gI g0 231 24).toInt from (by first | exact x1940.trans tv1939.symm | omega)) (show (gI _ 231 20).toInt = (gI g0 231 20).toInt + 1 from by omega) (show (gI _ 231 15).toInt = (gI g0 231 15).toInt from (by first | exact x1936.trans tv1935.symm | omega)) (fun _ => ⟨show (gI _ 231 14).toInt = 0 from by omega, show (gI _ 231 13).toInt = (gI g0 231 13).toInt from by omega⟩) (fun z => absurd (show (gI g0 231 14).toInt = 0 from (by first | exact h2 | omega)) z))⟩⟩
          · have c1815_ : v1814.toInt < 50 := en_i_ge_f c1815
            refine At.enter rfl ?_
            refine r_iconst 1 rfl ?_
            refine r_goto ?_
            refine At.enter rfl ?_
            have x1957 := HI.eqI hI1803 (p := 231) (b := 8) ((((hF1804.1 231 8 mf_X11_partAt_231_231_8).trans (hF1791.1 231 8 mf_X11_isSign_231_231_8)).trans hv1))
            have x1958 := HI.eqI hI1803 (p := 231) (b := 9) ((((hF1804.1 231 9 mf_X11_partAt_231_231_9).trans (hF1791.1 231 9 mf_X11_isSign_231_231_9)).trans hv2))
            have x1959 := HI.eqI hI1803 (p := 231) (b := 10) ((((hF1804.1 231 10 mf_X11_partAt_231_231_10).trans (hF1791.1 231 10 mf_X11_isSign_231_231_10)).trans hv3))
            have w261961 := W26.cong hW hI1803 (((hF1804.1 231 9 mf_X11_partAt_231_231_9).trans (hF1791.1 231 9 mf_X11_isSign_231_231_9))) (((hF1804.1 231 10 mf_X11_partAt_231_231_10).trans (hF1791.1 231 10 mf_X11_isSign_231_231_10))) (((hF1804.1 231 11 mf_X11_partAt_231_231_11).trans (hF1791.1 231 11 mf_X11_isSign_231_231_11))) (((hF1804.2.2 231 12 mf_X11_partAt_231_231_12).trans (hF1791.2.2 231 12 mf_X11_isSign_231_231_12)))
            have zv1962 : (1 : Int32).toInt = 1 := rfl
            refine r_callV 22 rfl [.ref 231, .int 1] [] (Nat.le_of_ble_eq_true rfl) rfl (T_X11_must_231 _ hI1803 1 (by decide) (by refine ⟨?_, ?_, ?_, ?_⟩ <;> omega) w261961 (TKM.c hK (((hF1804.2.1 236 ma_X11_partAt_231_236).trans (hF1791.2.1 236 ma_X11_isSign_231_236))) (((hF1804.1 231 8 mf_X11_partAt_231_231_8).trans (hF1791.1 231 8 mf_X11_isSign_231_231_8))) (((hF1804.1 231 9 mf_X11_partAt_231_231_9).trans (hF1791.1 231 9 mf_X11_isSign_231_231_9))) (((hF1804.1 231 10 mf_X11_partAt_231_231_10).trans (hF1791.1 231 10 mf_X11_isSign_231_231_10))) (((hF1804.1 231 11 mf_X11_partAt_231_231_11).trans (hF1791.1 231 11 mf_X11_isSign_231_231_11))) (((hF1804.2.2 231 12 mf_X11_partAt_231_231_12).trans (hF1791.2.2 231 12 mf_X11_isSign_231_231_12))))) ?_
            rintro _ _ ⟨g1963, rfl, hI1964, hF1965, rfl, hr1967⟩
            refine At.stn ?_
            have hF1968 := Fr.tr hF1807 hF1965 rfl rfl
            have x1974 := HI.eqI hI1803 (p := 231) (b := 14) ((((hF1804.1 231 14 mf_X11_partAt_231_231_14).trans (hF1791.1 231 14 mf_X11_isSign_231_231_14)).trans hv6))
            have x1975 := HI.eqI hI1964 (p := 231) (b := 8) ((((hF1965.1 231 8 mf_X11_must_231_231_8).trans ((hF1804.1 231 8 mf_X11_partAt_231_231_8).trans (hF1791.1 231 8 mf_X11_isSign_231_231_8))).trans hv1))
            obtain ⟨v1976, hv1976⟩ : ∃ v, gI g1963 231 9 = v := ⟨_, rfl⟩
            have rv1976 := RgF.at hI1964.2.1 (p := 231) (b := 9) rfl
            rw [hv1976] at rv1976
            dsimp only at rv1976
            have tv1976 := congrArg Int32.toInt hv1976
            obtain ⟨v1978, hv1978⟩ : ∃ v, gI g1963 231 10 = v := ⟨_, rfl⟩
            have rv1978 := RgF.at hI1964.2.1 (p := 231) (b := 10) rfl
            rw [hv1978] at rv1978
            dsimp only at rv1978
            have tv1978 := congrArg Int32.toInt hv1978
            obtain ⟨v1980, hv1980⟩ : ∃ v, gI g1963 231 11 = v := ⟨_, rfl⟩
            have tv1980 := congrArg Int32.toInt hv1980
            obtain ⟨v1982, hv1982⟩ : ∃ v, gI g1963 231 14 = v := ⟨_, rfl⟩
            have tv1982 := congrArg Int32.toInt hv1982
            obtain ⟨c1984, c1985, c1986, c1987, c1988, c1989, c1990, c1991⟩ := hr1967
            obtain ⟨v1992, hv1992⟩ : ∃ v, gI g0 231 13 = v := ⟨_, rfl⟩
            have tv1992 := congrArg Int32.toInt hv1992
            have x1993 := HI.eqI hI1803 (p := 231) (b := 13) ((((hF1804.1 231 13 mf_X11_partAt_231_231_13).trans (hF1791.1 231 13 mf_X11_isSign_231_231_13)).trans hv1992))
            obtain ⟨v1995, hv1995⟩ : ∃ v, gI g1963 231 13 = v := ⟨_, rfl⟩
            have tv1995 := congrArg Int32.toInt hv1995
            unfold MUSTP at c1991
            rw [TM.c (((hF1804.2.1 236 ma_X11_partAt_231_236).trans (hF1791.2.1 236 ma_X11_isSign_231_236))), nM.c (((hF1804.1 231 8 mf_X11_partAt_231_231_8).trans (hF1791.1 231 8 mf_X11_isSign_231_231_8))), pI.c (b := 14) (((hF1804.1 231 14 mf_X11_partAt_231_231_14).trans (hF1791.1 231 14 mf_X11_isSign_231_231_14))), pI.c (b := 13) (((hF1804.1 231 13 mf_X11_partAt_231_231_13).trans (hF1791.1 231 13 mf_X11_isSign_231_231_13))), pI.c (b := 10) (((hF1804.1 231 10 mf_X11_partAt_231_231_10).trans (hF1791.1 231 10 mf_X11_isSign_231_231_10))), pI.c (b := 9) (((hF1804.1 231 9 mf_X11_partAt_231_231_9).trans (hF1791.1 231 9 mf_X11_isSign_231_231_9)))] at c1991
            have mu1997 : MUSTP g0 g1963 1 := c1991
            clear c1991
            have hK1998 := mu1997.1
            refine At.enter rfl ?_
            refine r_aload_n rfl ?_
            refine q_getI (Sh.int hI1964.1 kx_231 rfl) v1982 hv1982 ?_
            refine r_ifs 29 rfl (fun c1999 => ?_) (fun c1999 => ?_)
            · have c1999_ : v1982.toInt ≠ 0 := en_k_ne_t c1999
              clear c1990
              obtain ⟨i2000, i2001⟩ := MUSTP.y mu1997 (by omega) (by omega)
              refine At.enter rfl ?_
              refine q_vret ?_
              refine At.enter rfl ?_
              refine r_iconst 3 rfl ?_
              refine r_ireti ?_
              obtain ⟨v2006, hv2006⟩ : ∃ v, gJ g1963 231 12 = v := ⟨_, rfl⟩
              have x2007 := HI.eqJ hI1964 (b := 12) (hv2006)
              have x2009 := HI.eqI hI1964 (p := 231) (b := 17) ((((hF1965.1 231 17 mf_X11_must_231_231_17).trans ((hF1804.1 231 17 mf_X11_partAt_231_231_17).trans (hF1791.1 231 17 mf_X11_isSign_231_231_17))).trans hv7))
              have x2010 := HI.eqI hI1964 (p := 231) (b := 23) ((((hF1965.1 231 23 mf_X11_must_231_231_23).trans ((hF1804.1 231 23 mf_X11_partAt_231_231_23).trans (hF1791.1 231 23 mf_X11_isSign_231_231_23))).trans hv8))
              have zv2012 : (3 : Int32).toInt = 3 := rfl
              obtain ⟨v2016, hv2016⟩ : ∃ v, gI g0 231 15 = v := ⟨_, rfl⟩
              have rv2016 := RgF.at hI0.2.1 (p := 231) (b := 15) rfl
              rw [hv2016] at rv2016
              dsimp only at rv2016
              have tv2016 := congrArg Int32.toInt hv2016
              have x2017 := HI.eqI hI1964 (p := 231) (b := 15) ((((hF1965.1 231 15 mf_X11_must_231_231_15).trans ((hF1804.1 231 15 mf_X11_partAt_231_231_15).trans (hF1791.1 231 15 mf_X11_isSign_231_231_15))).trans hv2016))
              have x2018 := HI.eqI hI1964 (p := 231) (b := 20) ((((hF1965.1 231 20 mf_X11_must_231_231_20).trans ((hF1804.1 231 20 mf_X11_partAt_231_231_20).trans (hF1791.1 231 20 mf_X11_isSign_231_231_20))).trans hv1814))
              obtain ⟨v2020, hv2020⟩ : ∃ v, gI g0 231 24 = v := ⟨_, rfl⟩
              have tv2020 := congrArg Int32.toInt hv2020
              have x2021 := HI.eqI hI1964 (p := 231) (b := 24) ((((hF1965.1 231 24 mf_X11_must_231_231_24).trans ((hF1804.1 231 24 mf_X11_partAt_231_231_24).trans (hF1791.1 231 24 mf_X11_isSign_231_231_24))).trans hv2020))
              have x2026 := HI.eqI hI0 (p := 231) (b := 20) (hv1814)
              have lp := pa1810
              unfold PAI at lp
              have ld := CDM.dig hK
              have y2029 : pI g0 11 = (gI g0 231 11).toInt := rfl
              have y2030 : wth g0 = (gJ g0 231 12).toInt := rfl
              have x2032 := HI.eqJ hI0 (b := 12) (hv5)
              have mf2033 := mu1997.2.2.1 (show (gI g0 231 14).toInt = 0 from by omega) (by omega)
              have y2034 : (gI _ 231 14).toInt ≠ 0 := mf2033.1
              have y2035 : (gI _ 231 13).toInt = (gI g0 231 9).toInt := mf2033.2
              exact ⟨_, rfl, hI1964, hF1968, _, rfl, by decide, ⟨by omega, by omega, by omega, by omega, c1989, by omega, by omega, (fun hbad => ⟨by omega, (PT.mk (fun h => by first | exact absurd h (by decide) | (exfalso; omega)) (fun h => by first | exact absurd h (by decide) | (exfalso; omega)) (fun h h9 => by first | exact absurd h (by decide) | (exfalso; omega)) (fun h => by first | exact absurd h (by decide) | (exfalso; omega)))⟩), (fun hbad => by omega), hK1998, (fun c0 b hC h => M.leafF h (TKM.some hK).choose_spec (by omega) (fun z => by have z1 := z.1; have z2 : (gI g0 231 20).toInt < 50 := z.2; omega) (fun _ => ⟨show (gI _ 231 14).toInt ≠ 0 from by omega, show (gI _ 231 13).toInt = (gI g0 231 9).toInt from by omega⟩) (fun z => absurd (show (gI g0 231 14).toInt = 0 from (by first | exact h2 | omega)) z) _)⟩⟩
            · have c1999_ : v1982.toInt = 0 := en_k_ne_f c1999
              obtain ⟨i2036, i2037, i2038⟩ := c1990 (by omega)
              obtain ⟨i2039, i2040⟩ := MUSTP.z mu1997 (by omega) (by omega)
              refine At.enter rfl ?_
              refine r_aload_n rfl ?_
              refine r_iload_n rfl ?_
              refine r_iload_n rfl ?_
              have x2041 := HI.eqI hI1964 (p := 231) (b := 17) ((((hF1965.1 231 17 mf_X11_must_231_231_17).trans ((hF1804.1 231 17 mf_X11_partAt_231_231_17).trans (hF1791.1 231 17 mf_X11_isSign_231_231_17))).trans hv7))
              have zv2042 : (0 : Int32).toInt = 0 := rfl
              refine r_callV 35 rfl [.ref 231, .int v1805, .int 0] [] (Nat.le_of_ble_eq_true rfl) rfl (T_X11_emit_231 _ hI1964 v1805 0 (by omega)) ?_
              rintro _ _ ⟨g2043, rfl, hI2044, hF2045, rfl, hr2047⟩
              refine At.stn ?_
              have hF2048 := Fr.tr hF1968 hF2045 rfl rfl
              have x2051 := HI.eqI hI1964 (p := 231) (b := 23) ((((hF1965.1 231 23 mf_X11_must_231_231_23).trans ((hF1804.1 231 23 mf_X11_partAt_231_231_23).trans (hF1791.1 231 23 mf_X11_isSign_231_231_23))).trans hv8))
              obtain ⟨v2052, hv2052⟩ : ∃ v, gI g2043 231 17 = v := ⟨_, rfl⟩
              have rv2052 := RgF.at hI2044.2.1 (p := 231) (b := 17) rfl
              rw [hv2052] at rv2052
              dsimp only at rv2052
              have tv2052 := congrArg Int32.toInt hv2052
              have y2054 : (gI _ 231 17).toInt = (gI _ 231 17).toInt + 1 := hr2047.1
              have pg2056 := PG.cong (hP.1 (by decide)) hI1964 (((hF1965.2.1 238 ma_X11_must_231_238).trans ((hF1804.2.1 238 ma_X11_partAt_231_238).trans (hF1791.2.1 238 ma_X11_isSign_231_238)))) (((hF1965.2.1 239 ma_X11_must_231_239).trans ((hF1804.2.1 239 ma_X11_partAt_231_239).trans (hF1791.2.1 239 ma_X11_isSign_231_239)))) (((hF1965.2.1 240 ma_X11_must_231_240).trans ((hF1804.2.1 240 ma_X11_partAt_231_240).trans (hF1791.2.1 240 ma_X11_isSign_231_240)))) (((hF1965.2.1 241 ma_X11_must_231_241).trans ((hF1804.2.1 241 ma_X11_partAt_231_241).trans (hF1791.2.1 241 ma_X11_isSign_231_241)))) (((hF1965.1 231 17 mf_X11_must_231_231_17).trans ((hF1804.1 231 17 mf_X11_partAt_231_231_17).trans (hF1791.1 231 17 mf_X11_isSign_231_231_17)))) (((hF1965.1 231 23 mf_X11_must_231_231_23).trans ((hF1804.1 231 23 mf_X11_partAt_231_231_23).trans (hF1791.1 231 23 mf_X11_isSign_231_231_23))))
              have pg2055 := PG.emit (e' := 1) pg2056 hr2047 (hF2045.2.1 240 ma_X11_emit_231_240) (hF2045.2.1 241 ma_X11_emit_231_241) (hF2045.1 231 23 mf_X11_emit_231_231_23) (Or.inl ⟨by omega, by omega, by decide, by decide⟩)
              refine At.enter rfl ?_
              refine r_aload_n rfl ?_
              refine r_dup rfl ?_
              refine q_getI (Sh.int hI2044.1 kx_231 rfl) v1814 (((hF2045.1 231 20 mf_X11_emit_231_231_20).trans ((hF1965.1 231 20 mf_X11_must_231_231_20).trans ((hF1804.1 231 20 mf_X11_partAt_231_231_20).trans (hF1791.1 231 20 mf_X11_isSign_231_231_20)))).trans hv1814) ?_
              refine r_iconst 1 rfl ?_
              have bv2057 := q_bnd v1814
              refine q_iadd (v1814.toInt + 1) rfl (by omega) (fun v2058 hv2058 => ?_)
              refine q_putI (Sh.int hI2044.1 kx_231 rfl) rfl ?_
              have hI2059 := HI.wI0 hI2044 kx_231 rfl (p := 231) (b := 20) (v := v2058) rfl
              have hF2060 := Fr.wI (p := 231) (b := 20) (v := v2058) hF2048 rfl
              refine Ar.fall 45 rfl ?_
              refine At.enter rfl ?_
              refine q_vret ?_
              refine At.enter rfl ?_
              refine r_iconst 3 rfl ?_
              refine r_ireti ?_
              have x2061 := HI.eqI hI2059 (p := 231) (b := 8) ((((gI_sI_ne (by decide)).trans ((hF2045.1 231 8 mf_X11_emit_231_231_8).trans ((hF1965.1 231 8 mf_X11_must_231_231_8).trans ((hF1804.1 231 8 mf_X11_partAt_231_231_8).trans (hF1791.1 231 8 mf_X11_isSign_231_231_8))))).trans hv1))
              have x2062 := HI.eqI hI2059 (p := 231) (b := 9) ((((gI_sI_ne (by decide)).trans (hF2045.1 231 9 mf_X11_emit_231_231_9)).trans hv1976))
              have x2063 := HI.eqI hI2059 (p := 231) (b := 10) ((((gI_sI_ne (by decide)).trans (hF2045.1 231 10 mf_X11_emit_231_231_10)).trans hv1978))
              have x2064 := HI.eqI hI2059 (p := 231) (b := 11) ((((gI_sI_ne (by decide)).trans (hF2045.1 231 11 mf_X11_emit_231_231_11)).trans hv1980))
              obtain ⟨v2065, hv2065⟩ : ∃ v, gJ g1963 231 12 = v := ⟨_, rfl⟩
              have x2066 := HI.eqJ hI2059 (b := 12) ((((gJ_sI_ne (by decide)).trans (hF2045.2.2 231 12 mf_X11_emit_231_231_12)).trans hv2065))
              have x2067 := HI.eqI hI2059 (p := 231) (b := 14) ((((gI_sI_ne (by decide)).trans (hF2045.1 231 14 mf_X11_emit_231_231_14)).trans hv1982))
              have x2068 := HI.eqI hI2059 (p := 231) (b := 17) (((gI_sI_ne (by decide)).trans hv2052))
              have x2069 := HI.eqI hI2059 (p := 231) (b := 23) ((((gI_sI_ne (by decide)).trans ((hF2045.1 231 23 mf_X11_emit_231_231_23).trans ((hF1965.1 231 23 mf_X11_must_231_231_23).trans ((hF1804.1 231 23 mf_X11_partAt_231_231_23).trans (hF1791.1 231 23 mf_X11_isSign_231_231_23))))).trans hv8))
              have zv2071 : (3 : Int32).toInt = 3 := rfl
              have pg2072 := PG.cong pg2055 hI2059 ((gA_sI)) ((gA_sI)) ((gA_sI)) ((gA_sI)) ((gI_sI_ne (by decide))) ((gI_sI_ne (by decide)))
              have w262073 := W26.cong c1989 hI2059 (((gI_sI_ne (by decide)).trans (hF2045.1 231 9 mf_X11_emit_231_231_9))) (((gI_sI_ne (by decide)).trans (hF2045.1 231 10 mf_X11_emit_231_231_10))) (((gI_sI_ne (by decide)).trans (hF2045.1 231 11 mf_X11_emit_231_231_11))) (((gJ_sI_ne (by decide)).trans (hF2045.2.2 231 12 mf_X11_emit_231_231_12)))
              have x2075 := HI.eqI hI2059 (p := 231) (b := 13) ((((gI_sI_ne (by decide)).trans (hF2045.1 231 13 mf_X11_emit_231_231_13)).trans hv1995))
              obtain ⟨v2077, hv2077⟩ : ∃ v, gI g0 231 15 = v := ⟨_, rfl⟩
              have rv2077 := RgF.at hI0.2.1 (p := 231) (b := 15) rfl
              rw [hv2077] at rv2077
              dsimp only at rv2077
              have tv2077 := congrArg Int32.toInt hv2077
              have x2078 := HI.eqI hI2059 (p := 231) (b := 15) ((((gI_sI_ne (by decide)).trans ((hF2045.1 231 15 mf_X11_emit_231_231_15).trans ((hF1965.1 231 15 mf_X11_must_231_231_15).trans ((hF1804.1 231 15 mf_X11_partAt_231_231_15).trans (hF1791.1 231 15 mf_X11_isSign_231_231_15))))).trans hv2077))
              have x2079 := HI.eqI hI2059 (p := 231) (b := 20) ((gI_sI_eq hI2044.1 kx_231 rfl _))
              obtain ⟨v2081, hv2081⟩ : ∃ v, gI g0 231 24 = v := ⟨_, rfl⟩
              have tv2081 := congrArg Int32.toInt hv2081
              have x2082 := HI.eqI hI2059 (p := 231) (b := 24) ((((gI_sI_ne (by decide)).trans ((hF2045.1 231 24 mf_X11_emit_231_231_24).trans ((hF1965.1 231 24 mf_X11_must_231_231_24).trans ((hF1804.1 231 24 mf_X11_partAt_231_231_24).trans (hF1791.1 231 24 mf_X11_isSign_231_231_24))))).trans hv2081))
              have x2087 := HI.eqI hI0 (p := 231) (b := 20) (hv1814)
              have lp := pa1810
              unfold PAI at lp
              have ld := CDM.dig hK
              have y2090 : pI g0 11 = (gI g0 231 11).toInt := rfl
              have y2091 : wth g0 = (gJ g0 231 12).toInt := rfl
              have x2093 := HI.eqJ hI0 (b := 12) (hv5)
              have y2098 : (gI g1963 231 13).toInt = (gI g0 231 13).toInt := (mu1997.2.1 (show (gI g0 231 14).toInt = 0 from by omega) (by omega)).2.1
              exact ⟨_, rfl, hI2059, hF2060, _, rfl, by decide, ⟨by omega, by omega, by omega, by omega, w262073, by omega, by omega, (fun hbad => ⟨by omega, (PT.mk (fun h => by first | exact absurd h (by decide) | (exfalso; omega)) (fun _ => pg2072) (fun h h9 => by first | exact absurd h (by decide) | (exfalso; omega)) (fun h => by first | exact absurd h (by decide) | (exfalso; omega)))⟩), (fun hbad => by omega), (TKM.c hK1998 (((gA_sI).trans (hF2045.2.1 236 ma_X11_emit_231_236))) (((gI_sI_ne (by decide)).trans (hF2045.1 231 8 mf_X11_emit_231_231_8))) (((gI_sI_ne (by decide)).trans (hF2045.1 231 9 mf_X11_emit_231_231_9))) (((gI_sI_ne (by decide)).trans (hF2045.1 231 10 mf_X11_emit_231_231_10))) (((gI_sI_ne (by decide)).trans (hF2045.1 231 11 mf_X11_emit_231_231_11))) (((gJ_sI_ne (by decide)).trans (hF2045.2.2 231 12 mf_X11_emit_231_231_12)))), (fun c0 b hC h => M.leaf h (by rw [pI.c (((gI_sI_ne (by decide)).trans (hF2045.1 231 9 mf_X11_emit_231_231_9)))]; exact (MUSTP.tok hK mu1997 (by omega) (by omega))) (by omega) (show (gI g0 231 20).toInt < 50 from by omega) (((gA_sI).trans ((hF2045.2.1 240 ma_X11_emit_231_240).trans ((hF1965.2.1 240 ma_X11_must_231_240).trans ((hF1804.2.1 240 ma_X11_partAt_231_240).trans (hF1791.2.1 240 ma_X11_isSign_231_240)))))) (show (gI _ 231 23).toInt = (gI g0 231 23).toInt from (by first | exact x2069.trans tv8.symm | omega)) (show (gI _ 231 24).toInt = (gI g0 231 24).toInt from (by first | exact x2082.trans tv2081.symm | omega)) (show (gI _ 231 20).toInt = (gI g0 231 20).toInt + 1 from by omega) (show (gI _ 231 15).toInt = (gI g0 231 15).toInt from (by first | exact x2078.trans tv2077.symm | omega)) (fun _ => ⟨show (gI _ 231 14).toInt = 0 from by omega, show (gI _ 231 13).toInt = (gI g0 231 13).toInt from by omega⟩) (fun z => absurd (show (gI g0 231 14).toInt = 0 from (by first | exact h2 | omega)) z))⟩⟩
        · have c1813_ : v1805.toInt = (-1) := en_i_ne_f c1813
          exfalso; omega
      · have c1812_ : v1805.toInt = (-1) := en_i_ne_f c1812
        refine At.enter rfl ?_
        refine r_iload_n rfl ?_
        refine r_ift (by decide) ?_
        refine At.enter rfl ?_
        refine r_iconst 0 rfl ?_
        refine Ar.fall 62 rfl ?_
        refine At.enter rfl ?_
        refine r_iload_n rfl ?_
        refine r_iconst (-1) rfl ?_
        refine r_ics 67 rfl (fun c2099 => ?_) (fun c2099 => ?_)
        · have c2099_ : v1805.toInt ≠ (-1) := en_i_ne_t c2099
          exfalso; omega
        · have c2099_ : v1805.toInt = (-1) := en_i_ne_f c2099
          refine At.enter rfl ?_
          refine r_iconst 0 rfl ?_
          refine r_goto ?_
          refine At.enter rfl ?_
          refine r_iload_n rfl ?_
          refine r_ift (by decide) ?_
          refine At.enter rfl ?_
          refine r_iconst 0 rfl ?_
          refine Ar.fall 85 rfl ?_
          refine At.enter rfl ?_
          refine q_inlV 88 rfl [.ref 231, .int 0, .int 0, .int 0] [] (Nat.le_of_ble_eq_true rfl) rfl ?_
          refine Ev.mk rfl rfl ⟨Nat.le_of_ble_eq_true rfl, Or.inr (q_rc hI1803.1 kx_231 rfl)⟩ ?_
          show At _ none _ _ (0, [(0, .ref 231), (1, .int 0), (2, .int 0), (3, .int 0)], [], (_, _)) _
          refine At.enter rfl ?_
          refine r_aload_n rfl ?_
          refine r_iload_n rfl ?_
          refine r_ift (by decide) ?_
          refine At.enter rfl ?_
          refine r_iconst 0 rfl ?_
          refine Ar.fall 19 rfl ?_
          refine At.enter rfl ?_
          have x2100 := HI.eqI hI1803 (p := 231) (b := 8) ((((hF1804.1 231 8 mf_X11_partAt_231_231_8).trans (hF1791.1 231 8 mf_X11_isSign_231_231_8)).trans hv1))
          have x2101 := HI.eqI hI1803 (p := 231) (b := 9) ((((hF1804.1 231 9 mf_X11_partAt_231_231_9).trans (hF1791.1 231 9 mf_X11_isSign_231_231_9)).trans hv2))
          have x2102 := HI.eqI hI1803 (p := 231) (b := 10) ((((hF1804.1 231 10 mf_X11_partAt_231_231_10).trans (hF1791.1 231 10 mf_X11_isSign_231_231_10)).trans hv3))
          have w262104 := W26.cong hW hI1803 (((hF1804.1 231 9 mf_X11_partAt_231_231_9).trans (hF1791.1 231 9 mf_X11_isSign_231_231_9))) (((hF1804.1 231 10 mf_X11_partAt_231_231_10).trans (hF1791.1 231 10 mf_X11_isSign_231_231_10))) (((hF1804.1 231 11 mf_X11_partAt_231_231_11).trans (hF1791.1 231 11 mf_X11_isSign_231_231_11))) (((hF1804.2.2 231 12 mf_X11_partAt_231_231_12).trans (hF1791.2.2 231 12 mf_X11_isSign_231_231_12)))
          have zv2105 : (0 : Int32).toInt = 0 := rfl
          refine r_callV 22 rfl [.ref 231, .int 0] [] (Nat.le_of_ble_eq_true rfl) rfl (T_X11_must_231 _ hI1803 0 (by decide) (by refine ⟨?_, ?_, ?_, ?_⟩ <;> omega) w262104 (TKM.c hK (((hF1804.2.1 236 ma_X11_partAt_231_236).trans (hF1791.2.1 236 ma_X11_isSign_231_236))) (((hF1804.1 231 8 mf_X11_partAt_231_231_8).trans (hF1791.1 231 8 mf_X11_isSign_231_231_8))) (((hF1804.1 231 9 mf_X11_partAt_231_231_9).trans (hF1791.1 231 9 mf_X11_isSign_231_231_9))) (((hF1804.1 231 10 mf_X11_partAt_231_231_10).trans (hF1791.1 231 10 mf_X11_isSign_231_231_10))) (((hF1804.1 231 11 mf_X11_partAt_231_231_11).trans (hF1791.1 231 11 mf_X11_isSign_231_231_11))) (((hF1804.2.2 231 12 mf_X11_partAt_231_231_12).trans (hF1791.2.2 231 12 mf_X11_isSign_231_231_12))))) ?_
          rintro _ _ ⟨g2106, rfl, hI2107, hF2108, rfl, hr2110⟩
          refine At.stn ?_
          have hF2111 := Fr.tr hF1807 hF2108 rfl rfl
          have x2117 := HI.eqI hI1803 (p := 231) (b := 14) ((((hF1804.1 231 14 mf_X11_partAt_231_231_14).trans (hF1791.1 231 14 mf_X11_isSign_231_231_14)).trans hv6))
          have x2118 := HI.eqI hI2107 (p := 231) (b := 8) ((((hF2108.1 231 8 mf_X11_must_231_231_8).trans ((hF1804.1 231 8 mf_X11_partAt_231_231_8).trans (hF1791.1 231 8 mf_X11_isSign_231_231_8))).trans hv1))
          obtain ⟨v2119, hv2119⟩ : ∃ v, gI g2106 231 9 = v := ⟨_, rfl⟩
          have rv2119 := RgF.at hI2107.2.1 (p := 231) (b := 9) rfl
          rw [hv2119] at rv2119
          dsimp only at rv2119
          have tv2119 := congrArg Int32.toInt hv2119
          obtain ⟨v2121, hv2121⟩ : ∃ v, gI g2106 231 10 = v := ⟨_, rfl⟩
          have rv2121 := RgF.at hI2107.2.1 (p := 231) (b := 10) rfl
          rw [hv2121] at rv2121
          dsimp only at rv2121
          have tv2121 := congrArg Int32.toInt hv2121
          obtain ⟨v2123, hv2123⟩ : ∃ v, gI g2106 231 11 = v := ⟨_, rfl⟩
          have tv2123 := congrArg Int32.toInt hv2123
          obtain ⟨v2125, hv2125⟩ : ∃ v, gI g2106 231 14 = v := ⟨_, rfl⟩
          have tv2125 := congrArg Int32.toInt hv2125
          obtain ⟨c2127, c2128, c2129, c2130, c2131, c2132, c2133, c2134⟩ := hr2110
          obtain ⟨v2135, hv2135⟩ : ∃ v, gI g0 231 13 = v := ⟨_, rfl⟩
          have tv2135 := congrArg Int32.toInt hv2135
          have x2136 := HI.eqI hI1803 (p := 231) (b := 13) ((((hF1804.1 231 13 mf_X11_partAt_231_231_13).trans (hF1791.1 231 13 mf_X11_isSign_231_231_13)).trans hv2135))
          obtain ⟨v2138, hv2138⟩ : ∃ v, gI g2106 231 13 = v := ⟨_, rfl⟩
          have tv2138 := congrArg Int32.toInt hv2138
          unfold MUSTP at c2134
          rw [TM.c (((hF1804.2.1 236 ma_X11_partAt_231_236).trans (hF1791.2.1 236 ma_X11_isSign_231_236))), nM.c (((hF1804.1 231 8 mf_X11_partAt_231_231_8).trans (hF1791.1 231 8 mf_X11_isSign_231_231_8))), pI.c (b := 14) (((hF1804.1 231 14 mf_X11_partAt_231_231_14).trans (hF1791.1 231 14 mf_X11_isSign_231_231_14))), pI.c (b := 13) (((hF1804.1 231 13 mf_X11_partAt_231_231_13).trans (hF1791.1 231 13 mf_X11_isSign_231_231_13))), pI.c (b := 10) (((hF1804.1 231 10 mf_X11_partAt_231_231_10).trans (hF1791.1 231 10 mf_X11_isSign_231_231_10))), pI.c (b := 9) (((hF1804.1 231 9 mf_X11_partAt_231_231_9).trans (hF1791.1 231 9 mf_X11_isSign_231_231_9)))] at c2134
          have mu2140 : MUSTP g0 g2106 0 := c2134
          clear c2134
          have hK2141 := mu2140.1
          refine At.enter rfl ?_
          refine r_aload_n rfl ?_
          refine q_getI (Sh.int hI2107.1 kx_231 rfl) v2125 hv2125 ?_
          refine r_ifs 29 rfl (fun c2142 => ?_) (fun c2142 => ?_)
          · have c2142_ : v2125.toInt ≠ 0 := en_k_ne_t c2142
            clear c2133
            obtain ⟨i2143, i2144⟩ := MUSTP.y mu2140 (by omega) (by omega)
            refine At.enter rfl ?_
            refine q_vret ?_
            refine At.enter rfl ?_
            refine r_iconst 3 rfl ?_
            refine r_ireti ?_
            obtain ⟨v2149, hv2149⟩ : ∃ v, gJ g2106 231 12 = v := ⟨_, rfl⟩
            have x2150 := HI.eqJ hI2107 (b := 12) (hv2149)
            have x2152 := HI.eqI hI2107 (p := 231) (b := 17) ((((hF2108.1 231 17 mf_X11_must_231_231_17).trans ((hF1804.1 231 17 mf_X11_partAt_231_231_17).trans (hF1791.1 231 17 mf_X11_isSign_231_231_17))).trans hv7))
            have x2153 := HI.eqI hI2107 (p := 231) (b := 23) ((((hF2108.1 231 23 mf_X11_must_231_231_23).trans ((hF1804.1 231 23 mf_X11_partAt_231_231_23).trans (hF1791.1 231 23 mf_X11_isSign_231_231_23))).trans hv8))
            have zv2155 : (3 : Int32).toInt = 3 := rfl
            obtain ⟨v2159, hv2159⟩ : ∃ v, gI g0 231 15 = v := ⟨_, rfl⟩
            have rv2159 := RgF.at hI0.2.1 (p := 231) (b := 15) rfl
            rw [hv2159] at rv2159
            dsimp only at rv2159
            have tv2159 := congrArg Int32.toInt hv2159
            have x2160 := HI.eqI hI2107 (p := 231) (b := 15) ((((hF2108.1 231 15 mf_X11_must_231_231_15).trans ((hF1804.1 231 15 mf_X11_partAt_231_231_15).trans (hF1791.1 231 15 mf_X11_isSign_231_231_15))).trans hv2159))
            obtain ⟨v2161, hv2161⟩ : ∃ v, gI g0 231 20 = v := ⟨_, rfl⟩
            have tv2161 := congrArg Int32.toInt hv2161
            have x2162 := HI.eqI hI2107 (p := 231) (b := 20) ((((hF2108.1 231 20 mf_X11_must_231_231_20).trans ((hF1804.1 231 20 mf_X11_partAt_231_231_20).trans (hF1791.1 231 20 mf_X11_isSign_231_231_20))).trans hv2161))
            obtain ⟨v2164, hv2164⟩ : ∃ v, gI g0 231 24 = v := ⟨_, rfl⟩
            have tv2164 := congrArg Int32.toInt hv2164
            have x2165 := HI.eqI hI2107 (p := 231) (b := 24) ((((hF2108.1 231 24 mf_X11_must_231_231_24).trans ((hF1804.1 231 24 mf_X11_partAt_231_231_24).trans (hF1791.1 231 24 mf_X11_isSign_231_231_24))).trans hv2164))
            have lp := pa1810
            unfold PAI at lp
            have ld := CDM.dig hK
            have y2173 : pI g0 11 = (gI g0 231 11).toInt := rfl
            have y2174 : wth g0 = (gJ g0 231 12).toInt := rfl
            have x2176 := HI.eqJ hI0 (b := 12) (hv5)
            have mf2177 := mu2140.2.2.1 (show (gI g0 231 14).toInt = 0 from by omega) (by omega)
            have y2178 : (gI _ 231 14).toInt ≠ 0 := mf2177.1
            have y2179 : (gI _ 231 13).toInt = (gI g0 231 9).toInt := mf2177.2
            exact ⟨_, rfl, hI2107, hF2111, _, rfl, by decide, ⟨by omega, by omega, by omega, by omega, c2132, by omega, by omega, (fun hbad => ⟨by omega, (PT.mk (fun h => by first | exact absurd h (by decide) | (exfalso; omega)) (fun h => by first | exact absurd h (by decide) | (exfalso; omega)) (fun h h9 => by first | exact absurd h (by decide) | (exfalso; omega)) (fun h => by first | exact absurd h (by decide) | (exfalso; omega)))⟩), (fun hbad => by omega), hK2141, (fun c0 b hC h => M.leafF h (TKM.some hK).choose_spec (by omega) (fun z => by have z1 := z.1; have z2 : (gI g0 231 20).toInt < 50 := z.2; omega) (fun _ => ⟨show (gI _ 231 14).toInt ≠ 0 from by omega, show (gI _ 231 13).toInt = (gI g0 231 9).toInt from by omega⟩) (fun z => absurd (show (gI g0 231 14).toInt = 0 from (by first | exact h2 | omega)) z) _)⟩⟩
          · have c2142_ : v2125.toInt = 0 := en_k_ne_f c2142
            obtain ⟨i2180, i2181, i2182⟩ := c2133 (by omega)
            obtain ⟨i2183, i2184⟩ := MUSTP.z mu2140 (by omega) (by omega)
            refine At.enter rfl ?_
            refine r_aload_n rfl ?_
            refine r_iload_n rfl ?_
            refine r_iload_n rfl ?_
            have x2185 := HI.eqI hI2107 (p := 231) (b := 17) ((((hF2108.1 231 17 mf_X11_must_231_231_17).trans ((hF1804.1 231 17 mf_X11_partAt_231_231_17).trans (hF1791.1 231 17 mf_X11_isSign_231_231_17))).trans hv7))
            refine r_callV 35 rfl [.ref 231, .int 0, .int 0] [] (Nat.le_of_ble_eq_true rfl) rfl (T_X11_emit_231 _ hI2107 0 0 (by omega)) ?_
            rintro _ _ ⟨g2188, rfl, hI2189, hF2190, rfl, hr2192⟩
            refine At.stn ?_
            have hF2193 := Fr.tr hF2111 hF2190 rfl rfl
            have x2197 := HI.eqI hI2107 (p := 231) (b := 23) ((((hF2108.1 231 23 mf_X11_must_231_231_23).trans ((hF1804.1 231 23 mf_X11_partAt_231_231_23).trans (hF1791.1 231 23 mf_X11_isSign_231_231_23))).trans hv8))
            obtain ⟨v2198, hv2198⟩ : ∃ v, gI g2188 231 17 = v := ⟨_, rfl⟩
            have rv2198 := RgF.at hI2189.2.1 (p := 231) (b := 17) rfl
            rw [hv2198] at rv2198
            dsimp only at rv2198
            have tv2198 := congrArg Int32.toInt hv2198
            have y2200 : (gI _ 231 17).toInt = (gI _ 231 17).toInt + 1 := hr2192.1
            have pg2202 := PG.cong (hP.1 (by decide)) hI2107 (((hF2108.2.1 238 ma_X11_must_231_238).trans ((hF1804.2.1 238 ma_X11_partAt_231_238).trans (hF1791.2.1 238 ma_X11_isSign_231_238)))) (((hF2108.2.1 239 ma_X11_must_231_239).trans ((hF1804.2.1 239 ma_X11_partAt_231_239).trans (hF1791.2.1 239 ma_X11_isSign_231_239)))) (((hF2108.2.1 240 ma_X11_must_231_240).trans ((hF1804.2.1 240 ma_X11_partAt_231_240).trans (hF1791.2.1 240 ma_X11_isSign_231_240)))) (((hF2108.2.1 241 ma_X11_must_231_241).trans ((hF1804.2.1 241 ma_X11_partAt_231_241).trans (hF1791.2.1 241 ma_X11_isSign_231_241)))) (((hF2108.1 231 17 mf_X11_must_231_231_17).trans ((hF1804.1 231 17 mf_X11_partAt_231_231_17).trans (hF1791.1 231 17 mf_X11_isSign_231_231_17)))) (((hF2108.1 231 23 mf_X11_must_231_231_23).trans ((hF1804.1 231 23 mf_X11_partAt_231_231_23).trans (hF1791.1 231 23 mf_X11_isSign_231_231_23))))
            have pg2201 := PG.emit (e' := 1) pg2202 hr2192 (hF2190.2.1 240 ma_X11_emit_231_240) (hF2190.2.1 241 ma_X11_emit_231_241) (hF2190.1 231 23 mf_X11_emit_231_231_23) (Or.inl ⟨by omega, by omega, by decide, by decide⟩)
            refine At.enter rfl ?_
            refine r_aload_n rfl ?_
            refine r_dup rfl ?_
            obtain ⟨v2203, hv2203⟩ : ∃ v, gI g0 231 20 = v := ⟨_, rfl⟩
            refine q_getI (Sh.int hI2189.1 kx_231 rfl) v2203 (((hF2190.1 231 20 mf_X11_emit_231_231_20).trans ((hF2108.1 231 20 mf_X11_must_231_231_20).trans ((hF1804.1 231 20 mf_X11_partAt_231_231_20).trans (hF1791.1 231 20 mf_X11_isSign_231_231_20)))).trans hv2203) ?_
            refine r_iconst 1 rfl ?_
            refine q_iaddO (fun v2204 _ => ?_)
            refine q_putI (Sh.int hI2189.1 kx_231 rfl) rfl ?_
            have hI2205 := HI.wI0 hI2189 kx_231 rfl (p := 231) (b := 20) (v := v2204) rfl
            have hF2206 := Fr.wI (p := 231) (b := 20) (v := v2204) hF2193 rfl
            refine Ar.fall 45 rfl ?_
            refine At.enter rfl ?_
            refine q_vret ?_
            refine At.enter rfl ?_
            refine r_iconst 3 rfl ?_
            refine r_ireti ?_
            have x2207 := HI.eqI hI2205 (p := 231) (b := 8) ((((gI_sI_ne (by decide)).trans ((hF2190.1 231 8 mf_X11_emit_231_231_8).trans ((hF2108.1 231 8 mf_X11_must_231_231_8).trans ((hF1804.1 231 8 mf_X11_partAt_231_231_8).trans (hF1791.1 231 8 mf_X11_isSign_231_231_8))))).trans hv1))
            have x2208 := HI.eqI hI2205 (p := 231) (b := 9) ((((gI_sI_ne (by decide)).trans (hF2190.1 231 9 mf_X11_emit_231_231_9)).trans hv2119))
            have x2209 := HI.eqI hI2205 (p := 231) (b := 10) ((((gI_sI_ne (by decide)).trans (hF2190.1 231 10 mf_X11_emit_231_231_10)).trans hv2121))
            have x2210 := HI.eqI hI2205 (p := 231) (b := 11) ((((gI_sI_ne (by decide)).trans (hF2190.1 231 11 mf_X11_emit_231_231_11)).trans hv2123))
            obtain ⟨v2211, hv2211⟩ : ∃ v, gJ g2106 231 12 = v := ⟨_, rfl⟩
            have x2212 := HI.eqJ hI2205 (b := 12) ((((gJ_sI_ne (by decide)).trans (hF2190.2.2 231 12 mf_X11_emit_231_231_12)).trans hv2211))
            have x2213 := HI.eqI hI2205 (p := 231) (b := 14) ((((gI_sI_ne (by decide)).trans (hF2190.1 231 14 mf_X11_emit_231_231_14)).trans hv2125))
            have x2214 := HI.eqI hI2205 (p := 231) (b := 17) (((gI_sI_ne (by decide)).trans hv2198))
            have x2215 := HI.eqI hI2205 (p := 231) (b := 23) ((((gI_sI_ne (by decide)).trans ((hF2190.1 231 23 mf_X11_emit_231_231_23).trans ((hF2108.1 231 23 mf_X11_must_231_231_23).trans ((hF1804.1 231 23 mf_X11_partAt_231_231_23).trans (hF1791.1 231 23 mf_X11_isSign_231_231_23))))).trans hv8))
            have zv2217 : (3 : Int32).toInt = 3 := rfl
            have pg2218 := PG.cong pg2201 hI2205 ((gA_sI)) ((gA_sI)) ((gA_sI)) ((gA_sI)) ((gI_sI_ne (by decide))) ((gI_sI_ne (by decide)))
            have w262219 := W26.cong c2132 hI2205 (((gI_sI_ne (by decide)).trans (hF2190.1 231 9 mf_X11_emit_231_231_9))) (((gI_sI_ne (by decide)).trans (hF2190.1 231 10 mf_X11_emit_231_231_10))) (((gI_sI_ne (by decide)).trans (hF2190.1 231 11 mf_X11_emit_231_231_11))) (((gJ_sI_ne (by decide)).trans (hF2190.2.2 231 12 mf_X11_emit_231_231_12)))
            have x2221 := HI.eqI hI2205 (p := 231) (b := 13) ((((gI_sI_ne (by decide)).trans (hF2190.1 231 13 mf_X11_emit_231_231_13)).trans hv2138))
            obtain ⟨v2223, hv2223⟩ : ∃ v, gI g0 231 15 = v := ⟨_, rfl⟩
            have rv2223 := RgF.at hI0.2.1 (p := 231) (b := 15) rfl
            rw [hv2223] at rv2223
            dsimp only at rv2223
            have tv2223 := congrArg Int32.toInt hv2223
            have x2224 := HI.eqI hI2205 (p := 231) (b := 15) ((((gI_sI_ne (by decide)).trans ((hF2190.1 231 15 mf_X11_emit_231_231_15).trans ((hF2108.1 231 15 mf_X11_must_231_231_15).trans ((hF1804.1 231 15 mf_X11_partAt_231_231_15).trans (hF1791.1 231 15 mf_X11_isSign_231_231_15))))).trans hv2223))
            have x2225 := HI.eqI hI2205 (p := 231) (b := 20) ((gI_sI_eq hI2189.1 kx_231 rfl _))
            obtain ⟨v2227, hv2227⟩ : ∃ v, gI g0 231 24 = v := ⟨_, rfl⟩
            have tv2227 := congrArg Int32.toInt hv2227
            have x2228 := HI.eqI hI2205 (p := 231) (b := 24) ((((gI_sI_ne (by decide)).trans ((hF2190.1 231 24 mf_X11_emit_231_231_24).trans ((hF2108.1 231 24 mf_X11_must_231_231_24).trans ((hF1804.1 231 24 mf_X11_partAt_231_231_24).trans (hF1791.1 231 24 mf_X11_isSign_231_231_24))))).trans hv2227))
            have x2233 := HI.eqI hI0 (p := 231) (b := 20) (hv2203)
            have lp := pa1810
            unfold PAI at lp
            have ld := CDM.dig hK
            have y2236 : pI g0 11 = (gI g0 231 11).toInt := rfl
            have y2237 : wth g0 = (gJ g0 231 12).toInt := rfl
            have x2239 := HI.eqJ hI0 (b := 12) (hv5)
            have y2244 : (gI g2106 231 13).toInt = (gI g0 231 13).toInt := (mu2140.2.1 (show (gI g0 231 14).toInt = 0 from by omega) (by omega)).2.1
            exact ⟨_, rfl, hI2205, hF2206, _, rfl, by decide, ⟨by omega, by omega, by omega, by omega, w262219, by omega, by omega, (fun hbad => ⟨by omega, (PT.mk (fun h => by first | exact absurd h (by decide) | (exfalso; omega)) (fun _ => pg2218) (fun h h9 => by first | exact absurd h (by decide) | (exfalso; omega)) (fun h => by first | exact absurd h (by decide) | (exfalso; omega)))⟩), (fun hbad => by omega), (TKM.c hK2141 (((gA_sI).trans (hF2190.2.1 236 ma_X11_emit_231_236))) (((gI_sI_ne (by decide)).trans (hF2190.1 231 8 mf_X11_emit_231_231_8))) (((gI_sI_ne (by decide)).trans (hF2190.1 231 9 mf_X11_emit_231_231_9))) (((gI_sI_ne (by decide)).trans (hF2190.1 231 10 mf_X11_emit_231_231_10))) (((gI_sI_ne (by decide)).trans (hF2190.1 231 11 mf_X11_emit_231_231_11))) (((gJ_sI_ne (by decide)).trans (hF2190.2.2 231 12 mf_X11_emit_231_231_12)))), (fun c0 b hC h => M.leaf h (by rw [pI.c (((gI_sI_ne (by decide)).trans (hF2190.1 231 9 mf_X11_emit_231_231_9)))]; exact (MUSTP.tok hK mu2140 (by omega) (by omega))) (by omega) (show (gI g0 231 20).toInt < 50 from by omega) (((gA_sI).trans ((hF2190.2.1 240 ma_X11_emit_231_240).trans ((hF2108.2.1 240 ma_X11_must_231_240).trans ((hF1804.2.1 240 ma_X11_partAt_231_240).trans (hF1791.2.1 240 ma_X11_isSign_231_240)))))) (show (gI _ 231 23).toInt = (gI g0 231 23).toInt from (by first | exact x2215.trans tv8.symm | omega)) (show (gI _ 231 24).toInt = (gI g0 231 24).toInt from (by first | exact x2228.trans tv2227.symm | omega)) (show (gI _ 231 20).toInt = (gI g0 231 20).toInt + 1 from by omega) (show (gI _ 231 15).toInt = (gI g0 231 15).toInt from (by first | exact x2224.trans tv2223.symm | omega)) (fun _ => ⟨show (gI _ 231 14).toInt = 0 from by omega, show (gI _ 231 13).toInt = (gI g0 231 13).toInt from by omega⟩) (fun z => absurd (show (gI g0 231 14).toInt = 0 from (by first | exact h2 | omega)) z))⟩⟩
    · have c1811_ : v4.toInt = 2 := en_i_ne_f c1811
      refine At.enter rfl ?_
      refine r_aload_n rfl ?_
      refine q_getJv (Sh.long hI1803.1 kx_231 rfl) v5 (((hF1804.2.2 231 12 mf_X11_partAt_231_231_12).trans (hF1791.2.2 231 12 mf_X11_isSign_231_231_12)).trans hv5) ?_
      refine r_ldc2 1000 rfl ?_
      refine r_lcmp _ rfl ?_
      refine r_ifs 41 rfl (fun c2245 => ?_) (fun c2245 => ?_)
      · have c2245_ : v5.toInt > 1000 := en_j_gt_t c2245
        refine At.enter rfl ?_
        refine r_iconst 0 rfl ?_
        refine Ar.fall 46 rfl ?_
        refine At.enter rfl ?_
        refine r_istore_n ([(2, .int 0), (1, .int v1805), (0, .ref 231)]) rfl ?_
        refine r_aload_n rfl ?_
        refine r_iload_n rfl ?_
        refine r_iconst (-1) rfl ?_
        refine r_ics 53 rfl (fun c2246 => ?_) (fun c2246 => ?_)
        · have c2246_ : v1805.toInt ≠ (-1) := en_i_ne_t c2246
          refine At.enter rfl ?_
          refine r_iconst 1 rfl ?_
          refine r_goto ?_
          refine At.enter rfl ?_
          refine r_iload_n rfl ?_
          refine r_iconst (-1) rfl ?_
          refine r_ics 67 rfl (fun c2247 => ?_) (fun c2247 => ?_)
          · have c2247_ : v1805.toInt ≠ (-1) := en_i_ne_t c2247
            refine At.enter rfl ?_
            refine r_iload_n rfl ?_
            refine Ar.fall 72 rfl ?_
            refine At.enter rfl ?_
            refine r_iload_n rfl ?_
            refine r_ift (by decide) ?_
            refine At.enter rfl ?_
            refine r_iconst 0 rfl ?_
            refine Ar.fall 85 rfl ?_
            refine At.enter rfl ?_
            refine q_inlV 88 rfl [.ref 231, .int 1, .int v1805, .int 0] [] (Nat.le_of_ble_eq_true rfl) rfl ?_
            refine Ev.mk rfl rfl ⟨Nat.le_of_ble_eq_true rfl, Or.inr (q_rc hI1803.1 kx_231 rfl)⟩ ?_
            show At _ none _ _ (0, [(0, .ref 231), (1, .int 1), (2, .int v1805), (3, .int 0)], [], (_, _)) _
            refine At.enter rfl ?_
            refine r_aload_n rfl ?_
            refine r_iload_n rfl ?_
            refine r_iff 5 rfl (by decide) ?_
            refine At.enter rfl ?_
            refine r_aload_n rfl ?_
            obtain ⟨v2248, hv2248⟩ : ∃ v, gI g0 231 20 = v := ⟨_, rfl⟩
            refine q_getI (Sh.int hI1803.1 kx_231 rfl) v2248 (((hF1804.1 231 20 mf_X11_partAt_231_231_20).trans (hF1791.1 231 20 mf_X11_isSign_231_231_20)).trans hv2248) ?_
            refine r_bipush 50 rfl ?_
            refine r_ics 14 rfl (fun c2249 => ?_) (fun c2249 => ?_)
            · have c2249_ : v2248.toInt ≥ 50 := en_i_ge_t c2249
              refine At.enter rfl ?_
              refine r_iconst 0 rfl ?_
              refine Ar.fall 19 rfl ?_
              refine At.enter rfl ?_
              have x2250 := HI.eqI hI1803 (p := 231) (b := 8) ((((hF1804.1 231 8 mf_X11_partAt_231_231_8).trans (hF1791.1 231 8 mf_X11_isSign_231_231_8)).trans hv1))
              have x2251 := HI.eqI hI1803 (p := 231) (b := 9) ((((hF1804.1 231 9 mf_X11_partAt_231_231_9).trans (hF1791.1 231 9 mf_X11_isSign_231_231_9)).trans hv2))
              have x2252 := HI.eqI hI1803 (p := 231) (b := 10) ((((hF1804.1 231 10 mf_X11_partAt_231_231_10).trans (hF1791.1 231 10 mf_X11_isSign_231_231_10)).trans hv3))
              have w262254 := W26.cong hW hI1803 (((hF1804.1 231 9 mf_X11_partAt_231_231_9).trans (hF1791.1 231 9 mf_X11_isSign_231_231_9))) (((hF1804.1 231 10 mf_X11_partAt_231_231_10).trans (hF1791.1 231 10 mf_X11_isSign_231_231_10))) (((hF1804.1 231 11 mf_X11_partAt_231_231_11).trans (hF1791.1 231 11 mf_X11_isSign_231_231_11))) (((hF1804.2.2 231 12 mf_X11_partAt_231_231_12).trans (hF1791.2.2 231 12 mf_X11_isSign_231_231_12)))
              have zv2255 : (0 : Int32).toInt = 0 := rfl
              refine r_callV 22 rfl [.ref 231, .int 0] [] (Nat.le_of_ble_eq_true rfl) rfl (T_X11_must_231 _ hI1803 0 (by decide) (by refine ⟨?_, ?_, ?_, ?_⟩ <;> omega) w262254 (TKM.c hK (((hF1804.2.1 236 ma_X11_partAt_231_236).trans (hF1791.2.1 236 ma_X11_isSign_231_236))) (((hF1804.1 231 8 mf_X11_partAt_231_231_8).trans (hF1791.1 231 8 mf_X11_isSign_231_231_8))) (((hF1804.1 231 9 mf_X11_partAt_231_231_9).trans (hF1791.1 231 9 mf_X11_isSign_231_231_9))) (((hF1804.1 231 10 mf_X11_partAt_231_231_10).trans (hF1791.1 231 10 mf_X11_isSign_231_231_10))) (((hF1804.1 231 11 mf_X11_partAt_231_231_11).trans (hF1791.1 231 11 mf_X11_isSign_231_231_11))) (((hF1804.2.2 231 12 mf_X11_partAt_231_231_12).trans (hF1791.2.2 231 12 mf_X11_isSign_231_231_12))))) ?_
              rintro _ _ ⟨g2256, rfl, hI2257, hF2258, rfl, hr2260⟩
              refine At.stn ?_
              have hF2261 := Fr.tr hF1807 hF2258 rfl rfl
              have x2267 := HI.eqI hI1803 (p := 231) (b := 14) ((((hF1804.1 231 14 mf_X11_partAt_231_231_14).trans (hF1791.1 231 14 mf_X11_isSign_231_231_14)).trans hv6))
              have x2268 := HI.eqI hI2257 (p := 231) (b := 8) ((((hF2258.1 231 8 mf_X11_must_231_231_8).trans ((hF1804.1 231 8 mf_X11_partAt_231_231_8).trans (hF1791.1 231 8 mf_X11_isSign_231_231_8))).trans hv1))
              obtain ⟨v2269, hv2269⟩ : ∃ v, gI g2256 231 9 = v := ⟨_, rfl⟩
              have rv2269 := RgF.at hI2257.2.1 (p := 231) (b := 9) rfl
              rw [hv2269] at rv2269
              dsimp only at rv2269
              have tv2269 := congrArg Int32.toInt hv2269
              obtain ⟨v2271, hv2271⟩ : ∃ v, gI g2256 231 10 = v := ⟨_, rfl⟩
              have rv2271 := RgF.at hI2257.2.1 (p := 231) (b := 10) rfl
              rw [hv2271] at rv2271
              dsimp only at rv2271
              have tv2271 := congrArg Int32.toInt hv2271
              obtain ⟨v2273, hv2273⟩ : ∃ v, gI g2256 231 11 = v := ⟨_, rfl⟩
              have tv2273 := congrArg Int32.toInt hv2273
              obtain ⟨v2275, hv2275⟩ : ∃ v, gI g2256 231 14 = v := ⟨_, rfl⟩
              have tv2275 := congrArg Int32.toInt hv2275
              obtain ⟨c2277, c2278, c2279, c2280, c2281, c2282, c2283, c2284⟩ := hr2260
              obtain ⟨v2285, hv2285⟩ : ∃ v, gI g0 231 13 = v := ⟨_, rfl⟩
              have tv2285 := congrArg Int32.toInt hv2285
              have x2286 := HI.eqI hI1803 (p := 231) (b := 13) ((((hF1804.1 231 13 mf_X11_partAt_231_231_13).trans (hF1791.1 231 13 mf_X11_isSign_231_231_13)).trans hv2285))
              obtain ⟨v2288, hv2288⟩ : ∃ v, gI g2256 231 13 = v := ⟨_, rfl⟩
              have tv2288 := congrArg Int32.toInt hv2288
              unfold MUSTP at c2284
              rw [TM.c (((hF1804.2.1 236 ma_X11_partAt_231_236).trans (hF1791.2.1 236 ma_X11_isSign_231_236))), nM.c (((hF1804.1 231 8 mf_X11_partAt_231_231_8).trans (hF1791.1 231 8 mf_X11_isSign_231_231_8))), pI.c (b := 14) (((hF1804.1 231 14 mf_X11_partAt_231_231_14).trans (hF1791.1 231 14 mf_X11_isSign_231_231_14))), pI.c (b := 13) (((hF1804.1 231 13 mf_X11_partAt_231_231_13).trans (hF1791.1 231 13 mf_X11_isSign_231_231_13))), pI.c (b := 10) (((hF1804.1 231 10 mf_X11_partAt_231_231_10).trans (hF1791.1 231 10 mf_X11_isSign_231_231_10))), pI.c (b := 9) (((hF1804.1 231 9 mf_X11_partAt_231_231_9).trans (hF1791.1 231 9 mf_X11_isSign_231_231_9)))] at c2284
              have mu2290 : MUSTP g0 g2256 0 := c2284
              clear c2284
              have hK2291 := mu2290.1
              refine At.enter rfl ?_
              refine r_aload_n rfl ?_
              refine q_getI (Sh.int hI2257.1 kx_231 rfl) v2275 hv2275 ?_
              refine r_ifs 29 rfl (fun c2292 => ?_) (fun c2292 => ?_)
              · have c2292_ : v2275.toInt ≠ 0 := en_k_ne_t c2292
                clear c2283
                obtain ⟨i2293, i2294⟩ := MUSTP.y mu2290 (by omega) (by omega)
                refine At.enter rfl ?_
                refine q_vret ?_
                refine At.enter rfl ?_
                refine r_iconst 3 rfl ?_
                refine r_ireti ?_
                obtain ⟨v2299, hv2299⟩ : ∃ v, gJ g2256 231 12 = v := ⟨_, rfl⟩
                have x2300 := HI.eqJ hI2257 (b := 12) (hv2299)
                have x2302 := HI.eqI hI2257 (p := 231) (b := 17) ((((hF2258.1 231 17 mf_X11_must_231_231_17).trans ((hF1804.1 231 17 mf_X11_partAt_231_231_17).trans (hF1791.1 231 17 mf_X11_isSign_231_231_17))).trans hv7))
                have x2303 := HI.eqI hI2257 (p := 231) (b := 23) ((((hF2258.1 231 23 mf_X11_must_231_231_23).trans ((hF1804.1 231 23 mf_X11_partAt_231_231_23).trans (hF1791.1 231 23 mf_X11_isSign_231_231_23))).trans hv8))
                have zv2305 : (3 : Int32).toInt = 3 := rfl
                obtain ⟨v2309, hv2309⟩ : ∃ v, gI g0 231 15 = v := ⟨_, rfl⟩
                have rv2309 := RgF.at hI0.2.1 (p := 231) (b := 15) rfl
                rw [hv2309] at rv2309
                dsimp only at rv2309
                have tv2309 := congrArg Int32.toInt hv2309
                have x2310 := HI.eqI hI2257 (p := 231) (b := 15) ((((hF2258.1 231 15 mf_X11_must_231_231_15).trans ((hF1804.1 231 15 mf_X11_partAt_231_231_15).trans (hF1791.1 231 15 mf_X11_isSign_231_231_15))).trans hv2309))
                have x2311 := HI.eqI hI2257 (p := 231) (b := 20) ((((hF2258.1 231 20 mf_X11_must_231_231_20).trans ((hF1804.1 231 20 mf_X11_partAt_231_231_20).trans (hF1791.1 231 20 mf_X11_isSign_231_231_20))).trans hv2248))
                obtain ⟨v2313, hv2313⟩ : ∃ v, gI g0 231 24 = v := ⟨_, rfl⟩
                have tv2313 := congrArg Int32.toInt hv2313
                have x2314 := HI.eqI hI2257 (p := 231) (b := 24) ((((hF2258.1 231 24 mf_X11_must_231_231_24).trans ((hF1804.1 231 24 mf_X11_partAt_231_231_24).trans (hF1791.1 231 24 mf_X11_isSign_231_231_24))).trans hv2313))
                have x2319 := HI.eqI hI0 (p := 231) (b := 20) (hv2248)
                have lp := pa1810
                unfold PAI at lp
                have ld := CDM.dig hK
                have y2322 : pI g0 11 = (gI g0 231 11).toInt := rfl
                have y2323 : wth g0 = (gJ g0 231 12).toInt := rfl
                have x2325 := HI.eqJ hI0 (b := 12) (hv5)
                have mf2326 := mu2290.2.2.1 (show (gI g0 231 14).toInt = 0 from by omega) (by omega)
                have y2327 : (gI _ 231 14).toInt ≠ 0 := mf2326.1
                have y2328 : (gI _ 231 13).toInt = (gI g0 231 9).toInt := mf2326.2
                exact ⟨_, rfl, hI2257, hF2261, _, rfl, by decide, ⟨by omega, by omega, by omega, by omega, c2282, by omega, by omega, (fun hbad => ⟨by omega, (PT.mk (fun h => by first | exact absurd h (by decide) | (exfalso; omega)) (fun h => by first | exact absurd h (by decide) | (exfalso; omega)) (fun h h9 => by first | exact absurd h (by decide) | (exfalso; omega)) (fun h => by first | exact absurd h (by decide) | (exfalso; omega)))⟩), (fun hbad => by omega), hK2291, (fun c0 b hC h => M.leafF h (TKM.some hK).choose_spec (by omega) (fun z => by have z1 := z.1; have z2 : (gI g0 231 20).toInt < 50 := z.2; omega) (fun _ => ⟨show (gI _ 231 14).toInt ≠ 0 from by omega, show (gI _ 231 13).toInt = (gI g0 231 9).toInt from by omega⟩) (fun z => absurd (show (gI g0 231 14).toInt = 0 from (by first | exact h2 | omega)) z) _)⟩⟩
              · have c2292_ : v2275.toInt = 0 := en_k_ne_f c2292
                obtain ⟨i2329, i2330, i2331⟩ := c2283 (by omega)
                obtain ⟨i2332, i2333⟩ := MUSTP.z mu2290 (by omega) (by omega)
                refine At.enter rfl ?_
                refine r_aload_n rfl ?_
                refine r_iload_n rfl ?_
                refine r_iload_n rfl ?_
                have x2334 := HI.eqI hI2257 (p := 231) (b := 17) ((((hF2258.1 231 17 mf_X11_must_231_231_17).trans ((hF1804.1 231 17 mf_X11_partAt_231_231_17).trans (hF1791.1 231 17 mf_X11_isSign_231_231_17))).trans hv7))
                refine r_callV 35 rfl [.ref 231, .int v1805, .int 0] [] (Nat.le_of_ble_eq_true rfl) rfl (T_X11_emit_231 _ hI2257 v1805 0 (by omega)) ?_
                rintro _ _ ⟨g2336, rfl, hI2337, hF2338, rfl, hr2340⟩
                refine At.stn ?_
                have hF2341 := Fr.tr hF2261 hF2338 rfl rfl
                have x2344 := HI.eqI hI2257 (p := 231) (b := 23) ((((hF2258.1 231 23 mf_X11_must_231_231_23).trans ((hF1804.1 231 23 mf_X11_partAt_231_231_23).trans (hF1791.1 231 23 mf_X11_isSign_231_231_23))).trans hv8))
                obtain ⟨v2345, hv2345⟩ : ∃ v, gI g2336 231 17 = v := ⟨_, rfl⟩
                have rv2345 := RgF.at hI2337.2.1 (p := 231) (b := 17) rfl
                rw [hv2345] at rv2345
                dsimp only at rv2345
                have tv2345 := congrArg Int32.toInt hv2345
                have y2347 : (gI _ 231 17).toInt = (gI _ 231 17).toInt + 1 := hr2340.1
                have pg2349 := PG.cong (hP.1 (by decide)) hI2257 (((hF2258.2.1 238 ma_X11_must_231_238).trans ((hF1804.2.1 238 ma_X11_partAt_231_238).trans (hF1791.2.1 238 ma_X11_isSign_231_238)))) (((hF2258.2.1 239 ma_X11_must_231_239).trans ((hF1804.2.1 239 ma_X11_partAt_231_239).trans (hF1791.2.1 239 ma_X11_isSign_231_239)))) (((hF2258.2.1 240 ma_X11_must_231_240).trans ((hF1804.2.1 240 ma_X11_partAt_231_240).trans (hF1791.2.1 240 ma_X11_isSign_231_240)))) (((hF2258.2.1 241 ma_X11_must_231_241).trans ((hF1804.2.1 241 ma_X11_partAt_231_241).trans (hF1791.2.1 241 ma_X11_isSign_231_241)))) (((hF2258.1 231 17 mf_X11_must_231_231_17).trans ((hF1804.1 231 17 mf_X11_partAt_231_231_17).trans (hF1791.1 231 17 mf_X11_isSign_231_231_17)))) (((hF2258.1 231 23 mf_X11_must_231_231_23).trans ((hF1804.1 231 23 mf_X11_partAt_231_231_23).trans (hF1791.1 231 23 mf_X11_isSign_231_231_23))))
                have pg2348 := PG.emit (e' := 1) pg2349 hr2340 (hF2338.2.1 240 ma_X11_emit_231_240) (hF2338.2.1 241 ma_X11_emit_231_241) (hF2338.1 231 23 mf_X11_emit_231_231_23) (Or.inl ⟨by omega, by omega, by decide, by decide⟩)
                refine At.enter rfl ?_
                refine r_aload_n rfl ?_
                refine r_dup rfl ?_
                refine q_getI (Sh.int hI2337.1 kx_231 rfl) v2248 (((hF2338.1 231 20 mf_X11_emit_231_231_20).trans ((hF2258.1 231 20 mf_X11_must_231_231_20).trans ((hF1804.1 231 20 mf_X11_partAt_231_231_20).trans (hF1791.1 231 20 mf_X11_isSign_231_231_20)))).trans hv2248) ?_
                refine r_iconst 1 rfl ?_
                refine q_iaddO (fun v2350 _ => ?_)
                refine q_putI (Sh.int hI2337.1 kx_231 rfl) rfl ?_
                have hI2351 := HI.wI0 hI2337 kx_231 rfl (p := 231) (b := 20) (v := v2350) rfl
                have hF2352 := Fr.wI (p := 231) (b := 20) (v := v2350) hF2341 rfl
                refine Ar.fall 45 rfl ?_
                refine At.enter rfl ?_
                refine q_vret ?_
                refine At.enter rfl ?_
                refine r_iconst 3 rfl ?_
                refine r_ireti ?_
                have x2353 := HI.eqI hI2351 (p := 231) (b := 8) ((((gI_sI_ne (by decide)).trans ((hF2338.1 231 8 mf_X11_emit_231_231_8).trans ((hF2258.1 231 8 mf_X11_must_231_231_8).trans ((hF1804.1 231 8 mf_X11_partAt_231_231_8).trans (hF1791.1 231 8 mf_X11_isSign_231_231_8))))).trans hv1))
                have x2354 := HI.eqI hI2351 (p := 231) (b := 9) ((((gI_sI_ne (by decide)).trans (hF2338.1 231 9 mf_X11_emit_231_231_9)).trans hv2269))
                have x2355 := HI.eqI hI2351 (p := 231) (b := 10) ((((gI_sI_ne (by decide)).trans (hF2338.1 231 10 mf_X11_emit_231_231_10)).trans hv2271))
                have x2356 := HI.eqI hI2351 (p := 231) (b := 11) ((((gI_sI_ne (by decide)).trans (hF2338.1 231 11 mf_X11_emit_231_231_11)).trans hv2273))
                obtain ⟨v2357, hv2357⟩ : ∃ v, gJ g2256 231 12 = v := ⟨_, rfl⟩
                have x2358 := HI.eqJ hI2351 (b := 12) ((((gJ_sI_ne (by decide)).trans (hF2338.2.2 231 12 mf_X11_emit_231_231_12)).trans hv2357))
                have x2359 := HI.eqI hI2351 (p := 231) (b := 14) ((((gI_sI_ne (by decide)).trans (hF2338.1 231 14 mf_X11_emit_231_231_14)).trans hv2275))
                have x2360 := HI.eqI hI2351 (p := 231) (b := 17) (((gI_sI_ne (by decide)).trans hv2345))
                have x2361 := HI.eqI hI2351 (p := 231) (b := 23) ((((gI_sI_ne (by decide)).trans ((hF2338.1 231 23 mf_X11_emit_231_231_23).trans ((hF2258.1 231 23 mf_X11_must_231_231_23).trans ((hF1804.1 231 23 mf_X11_partAt_231_231_23).trans (hF1791.1 231 23 mf_X11_isSign_231_231_23))))).trans hv8))
                have zv2363 : (3 : Int32).toInt = 3 := rfl
                have pg2364 := PG.cong pg2348 hI2351 ((gA_sI)) ((gA_sI)) ((gA_sI)) ((gA_sI)) ((gI_sI_ne (by decide))) ((gI_sI_ne (by decide)))
                have w262365 := W26.cong c2282 hI2351 (((gI_sI_ne (by decide)).trans (hF2338.1 231 9 mf_X11_emit_231_231_9))) (((gI_sI_ne (by decide)).trans (hF2338.1 231 10 mf_X11_emit_231_231_10))) (((gI_sI_ne (by decide)).trans (hF2338.1 231 11 mf_X11_emit_231_231_11))) (((gJ_sI_ne (by decide)).trans (hF2338.2.2 231 12 mf_X11_emit_231_231_12)))
                have x2367 := HI.eqI hI2351 (p := 231) (b := 13) ((((gI_sI_ne (by decide)).trans (hF2338.1 231 13 mf_X11_emit_231_231_13)).trans hv2288))
                obtain ⟨v2369, hv2369⟩ : ∃ v, gI g0 231 15 = v := ⟨_, rfl⟩
                have rv2369 := RgF.at hI0.2.1 (p := 231) (b := 15) rfl
                rw [hv2369] at rv2369
                dsimp only at rv2369
                have tv2369 := congrArg Int32.toInt hv2369
                have x2370 := HI.eqI hI2351 (p := 231) (b := 15) ((((gI_sI_ne (by decide)).trans ((hF2338.1 231 15 mf_X11_emit_231_231_15).trans ((hF2258.1 231 15 mf_X11_must_231_231_15).trans ((hF1804.1 231 15 mf_X11_partAt_231_231_15).trans (hF1791.1 231 15 mf_X11_isSign_231_231_15))))).trans hv2369))
                have x2371 := HI.eqI hI2351 (p := 231) (b := 20) ((gI_sI_eq hI2337.1 kx_231 rfl _))
                obtain ⟨v2373, hv2373⟩ : ∃ v, gI g0 231 24 = v := ⟨_, rfl⟩
                have tv2373 := congrArg Int32.toInt hv2373
                have x2374 := HI.eqI hI2351 (p := 231) (b := 24) ((((gI_sI_ne (by decide)).trans ((hF2338.1 231 24 mf_X11_emit_231_231_24).trans ((hF2258.1 231 24 mf_X11_must_231_231_24).trans ((hF1804.1 231 24 mf_X11_partAt_231_231_24).trans (hF1791.1 231 24 mf_X11_isSign_231_231_24))))).trans hv2373))
                have x2379 := HI.eqI hI0 (p := 231) (b := 20) (hv2248)
                have lp := pa1810
                unfold PAI at lp
                have ld := CDM.dig hK
                have y2382 : pI g0 11 = (gI g0 231 11).toInt := rfl
                have y2383 : wth g0 = (gJ g0 231 12).toInt := rfl
                have x2385 := HI.eqJ hI0 (b := 12) (hv5)
                have y2390 : (gI g2256 231 13).toInt = (gI g0 231 13).toInt := (mu2290.2.1 (show (gI g0 231 14).toInt = 0 from by omega) (by omega)).2.1
                exact ⟨_, rfl, hI2351, hF2352, _, rfl, by decide, ⟨by omega, by omega, by omega, by omega, w262365, by omega, by omega, (fun hbad => ⟨by omega, (PT.mk (fun h => by first | exact absurd h (by decide) | (exfalso; omega)) (fun _ => pg2364) (fun h h9 => by first | exact absurd h (by decide) | (exfalso; omega)) (fun h => by first | exact absurd h (by decide) | (exfalso; omega)))⟩), (fun hbad => by omega), (TKM.c hK2291 (((gA_sI).trans (hF2338.2.1 236 ma_X11_emit_231_236))) (((gI_sI_ne (by decide)).trans (hF2338.1 231 8 mf_X11_emit_231_231_8))) (((gI_sI_ne (by decide)).trans (hF2338.1 231 9 mf_X11_emit_231_231_9))) (((gI_sI_ne (by decide)).trans (hF2338.1 231 10 mf_X11_emit_231_231_10))) (((gI_sI_ne (by decide)).trans (hF2338.1 231 11 mf_X11_emit_231_231_11))) (((gJ_sI_ne (by decide)).trans (hF2338.2.2 231 12 mf_X11_emit_231_231_12)))), (fun c0 b hC h => M.leaf h (by rw [pI.c (((gI_sI_ne (by decide)).trans (hF2338.1 231 9 mf_X11_emit_231_231_9)))]; exact (MUSTP.tok hK mu2290 (by omega) (by omega))) (by omega) (show (gI g0 231 20).toInt < 50 from by omega) (((gA_sI).trans ((hF2338.2.1 240 ma_X11_emit_231_240).trans ((hF2258.2.1 240 ma_X11_must_231_240).trans ((hF1804.2.1 240 ma_X11_partAt_231_240).trans (hF1791.2.1 240 ma_X11_isSign_231_240)))))) (show (gI _ 231 23).toInt = (gI g0 231 23).toInt from (by first | exact x2361.trans tv8.symm | omega)) (show (gI _ 231 24).toInt = (gI g0 231 24).toInt from (by first | exact x2374.trans tv2373.symm | omega)) (show (gI _ 231 20).toInt = (gI g0 231 20).toInt + 1 from by omega) (show (gI _ 231 15).toInt = (gI g0 231 15).toInt from (by first | exact x2370.trans tv2369.symm | omega)) (fun _ => ⟨show (gI _ 231 14).toInt = 0 from by omega, show (gI _ 231 13).toInt = (gI g0 231 13).toInt from by omega⟩) (fun z => absurd (show (gI g0 231 14).toInt = 0 from (by first | exact h2 | omega)) z))⟩⟩
            · have c2249_ : v2248.toInt < 50 := en_i_ge_f c2249
              refine At.enter rfl ?_
              refine r_iconst 1 rfl ?_
              refine r_goto ?_
              refine At.enter rfl ?_
              have x2391 := HI.eqI hI1803 (p := 231) (b := 8) ((((hF1804.1 231 8 mf_X11_partAt_231_231_8).trans (hF1791.1 231 8 mf_X11_isSign_231_231_8)).trans hv1))
              have x2392 := HI.eqI hI1803 (p := 231) (b := 9) ((((hF1804.1 231 9 mf_X11_partAt_231_231_9).trans (hF1791.1 231 9 mf_X11_isSign_231_231_9)).trans hv2))
              have x2393 := HI.eqI hI1803 (p := 231) (b := 10) ((((hF1804.1 231 10 mf_X11_partAt_231_231_10).trans (hF1791.1 231 10 mf_X11_isSign_231_231_10)).trans hv3))
              have w262395 := W26.cong hW hI1803 (((hF1804.1 231 9 mf_X11_partAt_231_231_9).trans (hF1791.1 231 9 mf_X11_isSign_231_231_9))) (((hF1804.1 231 10 mf_X11_partAt_231_231_10).trans (hF1791.1 231 10 mf_X11_isSign_231_231_10))) (((hF1804.1 231 11 mf_X11_partAt_231_231_11).trans (hF1791.1 231 11 mf_X11_isSign_231_231_11))) (((hF1804.2.2 231 12 mf_X11_partAt_231_231_12).trans (hF1791.2.2 231 12 mf_X11_isSign_231_231_12)))
              have zv2396 : (1 : Int32).toInt = 1 := rfl
              refine r_callV 22 rfl [.ref 231, .int 1] [] (Nat.le_of_ble_eq_true rfl) rfl (T_X11_must_231 _ hI1803 1 (by decide) (by refine ⟨?_, ?_, ?_, ?_⟩ <;> omega) w262395 (TKM.c hK (((hF1804.2.1 236 ma_X11_partAt_231_236).trans (hF1791.2.1 236 ma_X11_isSign_231_236))) (((hF1804.1 231 8 mf_X11_partAt_231_231_8).trans (hF1791.1 231 8 mf_X11_isSign_231_231_8))) (((hF1804.1 231 9 mf_X11_partAt_231_231_9).trans (hF1791.1 231 9 mf_X11_isSign_231_231_9))) (((hF1804.1 231 10 mf_X11_partAt_231_231_10).trans (hF1791.1 231 10 mf_X11_isSign_231_231_10))) (((hF1804.1 231 11 mf_X11_partAt_231_231_11).trans (hF1791.1 231 11 mf_X11_isSign_231_231_11))) (((hF1804.2.2 231 12 mf_X11_partAt_231_231_12).trans (hF1791.2.2 231 12 mf_X11_isSign_231_231_12))))) ?_
              rintro _ _ ⟨g2397, rfl, hI2398, hF2399, rfl, hr2401⟩
              refine At.stn ?_
              have hF2402 := Fr.tr hF1807 hF2399 rfl rfl
              have x2408 := HI.eqI hI1803 (p := 231) (b := 14) ((((hF1804.1 231 14 mf_X11_partAt_231_231_14).trans (hF1791.1 231 14 mf_X11_isSign_231_231_14)).trans hv6))
              have x2409 := HI.eqI hI2398 (p := 231) (b := 8) ((((hF2399.1 231 8 mf_X11_must_231_231_8).trans ((hF1804.1 231 8 mf_X11_partAt_231_231_8).trans (hF1791.1 231 8 mf_X11_isSign_231_231_8))).trans hv1))
              obtain ⟨v2410, hv2410⟩ : ∃ v, gI g2397 231 9 = v := ⟨_, rfl⟩
              have rv2410 := RgF.at hI2398.2.1 (p := 231) (b := 9) rfl
              rw [hv2410] at rv2410
              dsimp only at rv2410
              have tv2410 := congrArg Int32.toInt hv2410
              obtain ⟨v2412, hv2412⟩ : ∃ v, gI g2397 231 10 = v := ⟨_, rfl⟩
              have rv2412 := RgF.at hI2398.2.1 (p := 231) (b := 10) rfl
              rw [hv2412] at rv2412
              dsimp only at rv2412
              have tv2412 := congrArg Int32.toInt hv2412
              obtain ⟨v2414, hv2414⟩ : ∃ v, gI g2397 231 11 = v := ⟨_, rfl⟩
              have tv2414 := congrArg Int32.toInt hv2414
              obtain ⟨v2416, hv2416⟩ : ∃ v, gI g2397 231 14 = v := ⟨_, rfl⟩
              have tv2416 := congrArg Int32.toInt hv2416
              obtain ⟨c2418, c2419, c2420, c2421, c2422, c2423, c2424, c2425⟩ := hr2401
              obtain ⟨v2426, hv2426⟩ : ∃ v, gI g0 231 13 = v := ⟨_, rfl⟩
              have tv2426 := congrArg Int32.toInt hv2426
              have x2427 := HI.eqI hI1803 (p := 231) (b := 13) ((((hF1804.1 231 13 mf_X11_partAt_231_231_13).trans (hF1791.1 231 13 mf_X11_isSign_231_231_13)).trans hv2426))
              obtain ⟨v2429, hv2429⟩ : ∃ v, gI g2397 231 13 = v := ⟨_, rfl⟩
              have tv2429 := congrArg Int32.toInt hv2429
              unfold MUSTP at c2425
              rw [TM.c (((hF1804.2.1 236 ma_X11_partAt_231_236).trans (hF1791.2.1 236 ma_X11_isSign_231_236))), nM.c (((hF1804.1 231 8 mf_X11_partAt_231_231_8).trans (hF1791.1 231 8 mf_X11_isSign_231_231_8))), pI.c (b := 14) (((hF1804.1 231 14 mf_X11_partAt_231_231_14).trans (hF1791.1 231 14 mf_X11_isSign_231_231_14))), pI.c (b := 13) (((hF1804.1 231 13 mf_X11_partAt_231_231_13).trans (hF1791.1 231 13 mf_X11_isSign_231_231_13))), pI.c (b := 10) (((hF1804.1 231 10 mf_X11_partAt_231_231_10).trans (hF1791.1 231 10 mf_X11_isSign_231_231_10))), pI.c (b := 9) (((hF1804.1 231 9 mf_X11_partAt_231_231_9).trans (hF1791.1 231 9 mf_X11_isSign_231_231_9)))] at c2425
              have mu2431 : MUSTP g0 g2397 1 := c2425
              clear c2425
              have hK2432 := mu2431.1
              refine At.enter rfl ?_
              refine r_aload_n rfl ?_
              refine q_getI (Sh.int hI2398.1 kx_231 rfl) v2416 hv2416 ?_
              refine r_ifs 29 rfl (fun c2433 => ?_) (fun c2433 => ?_)
              · have c2433_ : v2416.toInt ≠ 0 := en_k_ne_t c2433
                clear c2424
                obtain ⟨i2434, i2435⟩ := MUSTP.y mu2431 (by omega) (by omega)
                refine At.enter rfl ?_
                refine q_vret ?_
                refine At.enter rfl ?_
                refine r_iconst 3 rfl ?_
                refine r_ireti ?_
                obtain ⟨v2440, hv2440⟩ : ∃ v, gJ g2397 231 12 = v := ⟨_, rfl⟩
                have x2441 := HI.eqJ hI2398 (b := 12) (hv2440)
                have x2443 := HI.eqI hI2398 (p := 231) (b := 17) ((((hF2399.1 231 17 mf_X11_must_231_231_17).trans ((hF1804.1 231 17 mf_X11_partAt_231_231_17).trans (hF1791.1 231 17 mf_X11_isSign_231_231_17))).trans hv7))
                have x2444 := HI.eqI hI2398 (p := 231) (b := 23) ((((hF2399.1 231 23 mf_X11_must_231_231_23).trans ((hF1804.1 231 23 mf_X11_partAt_231_231_23).trans (hF1791.1 231 23 mf_X11_isSign_231_231_23))).trans hv8))
                have zv2446 : (3 : Int32).toInt = 3 := rfl
                obtain ⟨v2450, hv2450⟩ : ∃ v, gI g0 231 15 = v := ⟨_, rfl⟩
                have rv2450 := RgF.at hI0.2.1 (p := 231) (b := 15) rfl
                rw [hv2450] at rv2450
                dsimp only at rv2450
                have tv2450 := congrArg Int32.toInt hv2450
                have x2451 := HI.eqI hI2398 (p := 231) (b := 15) ((((hF2399.1 231 15 mf_X11_must_231_231_15).trans ((hF1804.1 231 15 mf_X11_partAt_231_231_15).trans (hF1791.1 231 15 mf_X11_isSign_231_231_15))).trans hv2450))
                have x2452 := HI.eqI hI2398 (p := 231) (b := 20) ((((hF2399.1 231 20 mf_X11_must_231_231_20).trans ((hF1804.1 231 20 mf_X11_partAt_231_231_20).trans (hF1791.1 231 20 mf_X11_isSign_231_231_20))).trans hv2248))
                obtain ⟨v2454, hv2454⟩ : ∃ v, gI g0 231 24 = v := ⟨_, rfl⟩
                have tv2454 := congrArg Int32.toInt hv2454
                have x2455 := HI.eqI hI2398 (p := 231) (b := 24) ((((hF2399.1 231 24 mf_X11_must_231_231_24).trans ((hF1804.1 231 24 mf_X11_partAt_231_231_24).trans (hF1791.1 231 24 mf_X11_isSign_231_231_24))).trans hv2454))
                have x2460 := HI.eqI hI0 (p := 231) (b := 20) (hv2248)
                have lp := pa1810
                unfold PAI at lp
                have ld := CDM.dig hK
                have y2463 : pI g0 11 = (gI g0 231 11).toInt := rfl
                have y2464 : wth g0 = (gJ g0 231 12).toInt := rfl
                have x2466 := HI.eqJ hI0 (b := 12) (hv5)
                have mf2467 := mu2431.2.2.1 (show (gI g0 231 14).toInt = 0 from by omega) (by omega)
                have y2468 : (gI _ 231 14).toInt ≠ 0 := mf2467.1
                have y2469 : (gI _ 231 13).toInt = (gI g0 231 9).toInt := mf2467.2
                exact ⟨_, rfl, hI2398, hF2402, _, rfl, by decide, ⟨by omega, by omega, by omega, by omega, c2423, by omega, by omega, (fun hbad => ⟨by omega, (PT.mk (fun h => by first | exact absurd h (by decide) | (exfalso; omega)) (fun h => by first | exact absurd h (by decide) | (exfalso; omega)) (fun h h9 => by first | exact absurd h (by decide) | (exfalso; omega)) (fun h => by first | exact absurd h (by decide) | (exfalso; omega)))⟩), (fun hbad => by omega), hK2432, (fun c0 b hC h => M.leafF h (TKM.some hK).choose_spec (by omega) (fun z => by have z1 := z.1; have z2 : (gI g0 231 20).toInt < 50 := z.2; omega) (fun _ => ⟨show (gI _ 231 14).toInt ≠ 0 from by omega, show (gI _ 231 13).toInt = (gI g0 231 9).toInt from by omega⟩) (fun z => absurd (show (gI g0 231 14).toInt = 0 from (by first | exact h2 | omega)) z) _)⟩⟩
              · have c2433_ : v2416.toInt = 0 := en_k_ne_f c2433
                obtain ⟨i2470, i2471, i2472⟩ := c2424 (by omega)
                obtain ⟨i2473, i2474⟩ := MUSTP.z mu2431 (by omega) (by omega)
                refine At.enter rfl ?_
                refine r_aload_n rfl ?_
                refine r_iload_n rfl ?_
                refine r_iload_n rfl ?_
                have x2475 := HI.eqI hI2398 (p := 231) (b := 17) ((((hF2399.1 231 17 mf_X11_must_231_231_17).trans ((hF1804.1 231 17 mf_X11_partAt_231_231_17).trans (hF1791.1 231 17 mf_X11_isSign_231_231_17))).trans hv7))
                have zv2476 : (0 : Int32).toInt = 0 := rfl
                refine r_callV 35 rfl [.ref 231, .int v1805, .int 0] [] (Nat.le_of_ble_eq_true rfl) rfl (T_X11_emit_231 _ hI2398 v1805 0 (by omega)) ?_
                rintro _ _ ⟨g2477, rfl, hI2478, hF2479, rfl, hr2481⟩
                refine At.stn ?_
                have hF2482 := Fr.tr hF2402 hF2479 rfl rfl
                have x2485 := HI.eqI hI2398 (p := 231) (b := 23) ((((hF2399.1 231 23 mf_X11_must_231_231_23).trans ((hF1804.1 231 23 mf_X11_partAt_231_231_23).trans (hF1791.1 231 23 mf_X11_isSign_231_231_23))).trans hv8))
                obtain ⟨v2486, hv2486⟩ : ∃ v, gI g2477 231 17 = v := ⟨_, rfl⟩
                have rv2486 := RgF.at hI2478.2.1 (p := 231) (b := 17) rfl
                rw [hv2486] at rv2486
                dsimp only at rv2486
                have tv2486 := congrArg Int32.toInt hv2486
                have y2488 : (gI _ 231 17).toInt = (gI _ 231 17).toInt + 1 := hr2481.1
                have pg2490 := PG.cong (hP.1 (by decide)) hI2398 (((hF2399.2.1 238 ma_X11_must_231_238).trans ((hF1804.2.1 238 ma_X11_partAt_231_238).trans (hF1791.2.1 238 ma_X11_isSign_231_238)))) (((hF2399.2.1 239 ma_X11_must_231_239).trans ((hF1804.2.1 239 ma_X11_partAt_231_239).trans (hF1791.2.1 239 ma_X11_isSign_231_239)))) (((hF2399.2.1 240 ma_X11_must_231_240).trans ((hF1804.2.1 240 ma_X11_partAt_231_240).trans (hF1791.2.1 240 ma_X11_isSign_231_240)))) (((hF2399.2.1 241 ma_X11_must_231_241).trans ((hF1804.2.1 241 ma_X11_partAt_231_241).trans (hF1791.2.1 241 ma_X11_isSign_231_241)))) (((hF2399.1 231 17 mf_X11_must_231_231_17).trans ((hF1804.1 231 17 mf_X11_partAt_231_231_17).trans (hF1791.1 231 17 mf_X11_isSign_231_231_17)))) (((hF2399.1 231 23 mf_X11_must_231_231_23).trans ((hF1804.1 231 23 mf_X11_partAt_231_231_23).trans (hF1791.1 231 23 mf_X11_isSign_231_231_23))))
                have pg2489 := PG.emit (e' := 1) pg2490 hr2481 (hF2479.2.1 240 ma_X11_emit_231_240) (hF2479.2.1 241 ma_X11_emit_231_241) (hF2479.1 231 23 mf_X11_emit_231_231_23) (Or.inl ⟨by omega, by omega, by decide, by decide⟩)
                refine At.enter rfl ?_
                refine r_aload_n rfl ?_
                refine r_dup rfl ?_
                refine q_getI (Sh.int hI2478.1 kx_231 rfl) v2248 (((hF2479.1 231 20 mf_X11_emit_231_231_20).trans ((hF2399.1 231 20 mf_X11_must_231_231_20).trans ((hF1804.1 231 20 mf_X11_partAt_231_231_20).trans (hF1791.1 231 20 mf_X11_isSign_231_231_20)))).trans hv2248) ?_
                refine r_iconst 1 rfl ?_
                have bv2491 := q_bnd v2248
                refine q_iadd (v2248.toInt + 1) rfl (by omega) (fun v2492 hv2492 => ?_)
                refine q_putI (Sh.int hI2478.1 kx_231 rfl) rfl ?_
                have hI2493 := HI.wI0 hI2478 kx_231 rfl (p := 231) (b := 20) (v := v2492) rfl
                have hF2494 := Fr.wI (p := 231) (b := 20) (v := v2492) hF2482 rfl
                refine Ar.fall 45 rfl ?_
                refine At.enter rfl ?_
                refine q_vret ?_
                refine At.enter rfl ?_
                refine r_iconst 3 rfl ?_
                refine r_ireti ?_
                have x2495 := HI.eqI hI2493 (p := 231) (b := 8) ((((gI_sI_ne (by decide)).trans ((hF2479.1 231 8 mf_X11_emit_231_231_8).trans ((hF2399.1 231 8 mf_X11_must_231_231_8).trans ((hF1804.1 231 8 mf_X11_partAt_231_231_8).trans (hF1791.1 231 8 mf_X11_isSign_231_231_8))))).trans hv1))
                have x2496 := HI.eqI hI2493 (p := 231) (b := 9) ((((gI_sI_ne (by decide)).trans (hF2479.1 231 9 mf_X11_emit_231_231_9)).trans hv2410))
                have x2497 := HI.eqI hI2493 (p := 231) (b := 10) ((((gI_sI_ne (by decide)).trans (hF2479.1 231 10 mf_X11_emit_231_231_10)).trans hv2412))
                have x2498 := HI.eqI hI2493 (p := 231) (b := 11) ((((gI_sI_ne (by decide)).trans (hF2479.1 231 11 mf_X11_emit_231_231_11)).trans hv2414))
                obtain ⟨v2499, hv2499⟩ : ∃ v, gJ g2397 231 12 = v := ⟨_, rfl⟩
                have x2500 := HI.eqJ hI2493 (b := 12) ((((gJ_sI_ne (by decide)).trans (hF2479.2.2 231 12 mf_X11_emit_231_231_12)).trans hv2499))
                have x2501 := HI.eqI hI2493 (p := 231) (b := 14) ((((gI_sI_ne (by decide)).trans (hF2479.1 231 14 mf_X11_emit_231_231_14)).trans hv2416))
                have x2502 := HI.eqI hI2493 (p := 231) (b := 17) (((gI_sI_ne (by decide)).trans hv2486))
                have x2503 := HI.eqI hI2493 (p := 231) (b := 23) ((((gI_sI_ne (by decide)).trans ((hF2479.1 231 23 mf_X11_emit_231_231_23).trans ((hF2399.1 231 23 mf_X11_must_231_231_23).trans ((hF1804.1 231 23 mf_X11_partAt_231_231_23).trans (hF1791.1 231 23 mf_X11_isSign_231_231_23))))).trans hv8))
                have zv2505 : (3 : Int32).toInt = 3 := rfl
                have pg2506 := PG.cong pg2489 hI2493 ((gA_sI)) ((gA_sI)) ((gA_sI)) ((gA_sI)) ((gI_sI_ne (by decide))) ((gI_sI_ne (by decide)))
                have w262507 := W26.cong c2423 hI2493 (((gI_sI_ne (by decide)).trans (hF2479.1 231 9 mf_X11_emit_231_231_9))) (((gI_sI_ne (by decide)).trans (hF2479.1 231 10 mf_X11_emit_231_231_10))) (((gI_sI_ne (by decide)).trans (hF2479.1 231 11 mf_X11_emit_231_231_11))) (((gJ_sI_ne (by decide)).trans (hF2479.2.2 231 12 mf_X11_emit_231_231_12)))
                have x2509 := HI.eqI hI2493 (p := 231) (b := 13) ((((gI_sI_ne (by decide)).trans (hF2479.1 231 13 mf_X11_emit_231_231_13)).trans hv2429))
                obtain ⟨v2511, hv2511⟩ : ∃ v, gI g0 231 15 = v := ⟨_, rfl⟩
                have rv2511 := RgF.at hI0.2.1 (p := 231) (b := 15) rfl
                rw [hv2511] at rv2511
                dsimp only at rv2511
                have tv2511 := congrArg Int32.toInt hv2511
                have x2512 := HI.eqI hI2493 (p := 231) (b := 15) ((((gI_sI_ne (by decide)).trans ((hF2479.1 231 15 mf_X11_emit_231_231_15).trans ((hF2399.1 231 15 mf_X11_must_231_231_15).trans ((hF1804.1 231 15 mf_X11_partAt_231_231_15).trans (hF1791.1 231 15 mf_X11_isSign_231_231_15))))).trans hv2511))
                have x2513 := HI.eqI hI2493 (p := 231) (b := 20) ((gI_sI_eq hI2478.1 kx_231 rfl _))
                obtain ⟨v2515, hv2515⟩ : ∃ v, gI g0 231 24 = v := ⟨_, rfl⟩
                have tv2515 := congrArg Int32.toInt hv2515
                have x2516 := HI.eqI hI2493 (p := 231) (b := 24) ((((gI_sI_ne (by decide)).trans ((hF2479.1 231 24 mf_X11_emit_231_231_24).trans ((hF2399.1 231 24 mf_X11_must_231_231_24).trans ((hF1804.1 231 24 mf_X11_partAt_231_231_24).trans (hF1791.1 231 24 mf_X11_isSign_231_231_24))))).trans hv2515))
                have x2521 := HI.eqI hI0 (p := 231) (b := 20) (hv2248)
                have lp := pa1810
                unfold PAI at lp
                have ld := CDM.dig hK
                have y2524 : pI g0 11 = (gI g0 231 11).toInt := rfl
                have y2525 : wth g0 = (gJ g0 231 12).toInt := rfl
                have x2527 := HI.eqJ hI0 (b := 12) (hv5)
                have y2532 : (gI g2397 231 13).toInt = (gI g0 231 13).toInt := (mu2431.2.1 (show (gI g0 231 14).toInt = 0 from by omega) (by omega)).2.1
                exact ⟨_, rfl, hI2493, hF2494, _, rfl, by decide, ⟨by omega, by omega, by omega, by omega, w262507, by omega, by omega, (fun hbad => ⟨by omega, (PT.mk (fun h => by first | exact absurd h (by decide) | (exfalso; omega)) (fun _ => pg2506) (fun h h9 => by first | exact absurd h (by decide) | (exfalso; omega)) (fun h => by first | exact absurd h (by decide) | (exfalso; omega)))⟩), (fun hbad => by omega), (TKM.c hK2432 (((gA_sI).trans (hF2479.2.1 236 ma_X11_emit_231_236))) (((gI_sI_ne (by decide)).trans (hF2479.1 231 8 mf_X11_emit_231_231_8))) (((gI_sI_ne (by decide)).trans (hF2479.1 231 9 mf_X11_emit_231_231_9))) (((gI_sI_ne (by decide)).trans (hF2479.1 231 10 mf_X11_emit_231_231_10))) (((gI_sI_ne (by decide)).trans (hF2479.1 231 11 mf_X11_emit_231_231_11))) (((gJ_sI_ne (by decide)).trans (hF2479.2.2 231 12 mf_X11_emit_231_231_12)))), (fun c0 b hC h => M.leaf h (by rw [pI.c (((gI_sI_ne (by decide)).trans (hF2479.1 231 9 mf_X11_emit_231_231_9)))]; exact (MUSTP.tok hK mu2431 (by omega) (by omega))) (by omega) (show (gI g0 231 20).toInt < 50 from by omega) (((gA_sI).trans ((hF2479.2.1 240 ma_X11_emit_231_240).trans ((hF2399.2.1 240 ma_X11_must_231_240).trans ((hF1804.2.1 240 ma_X11_partAt_231_240).trans (hF1791.2.1 240 ma_X11_isSign_231_240)))))) (show (gI _ 231 23).toInt = (gI g0 231 23).toInt from (by first | exact x2503.trans tv8.symm | omega)) (show (gI _ 231 24).toInt = (gI g0 231 24).toInt from (by first | exact x2516.trans tv2515.symm | omega)) (show (gI _ 231 20).toInt = (gI g0 231 20).toInt + 1 from by omega) (show (gI _ 231 15).toInt = (gI g0 231 15).toInt from (by first | exact x2512.trans tv2511.symm | omega)) (fun _ => ⟨show (gI _ 231 14).toInt = 0 from by omega, show (gI _ 231 13).toInt = (gI g0 231 13).toInt from by omega⟩) (fun z => absurd (show (gI g0 231 14).toInt = 0 from (by first | exact h2 | omega)) z))⟩⟩
          · have c2247_ : v1805.toInt = (-1) := en_i_ne_f c2247
            exfalso; omega
        · have c2246_ : v1805.toInt = (-1) := en_i_ne_f c2246
          refine At.enter rfl ?_
          refine r_iload_n rfl ?_
          refine r_ift (by decide) ?_
          refine At.enter rfl ?_
          refine r_iconst 0 rfl ?_
          refine Ar.fall 62 rfl ?_
          refine At.enter rfl ?_
          refine r_iload_n rfl ?_
          refine r_iconst (-1) rfl ?_
          refine r_ics 67 rfl (fun c2533 => ?_) (fun c2533 => ?_)
          · have c2533_ : v1805.toInt ≠ (-1) := en_i_ne_t c2533
            exfalso; omega
          · have c2533_ : v1805.toInt = (-1) := en_i_ne_f c2533
            refine At.enter rfl ?_
            refine r_iconst 0 rfl ?_
            refine r_goto ?_
            refine At.enter rfl ?_
            refine r_iload_n rfl ?_
            refine r_ift (by decide) ?_
            refine At.enter rfl ?_
            refine r_iconst 0 rfl ?_
            refine Ar.fall 85 rfl ?_
            refine At.enter rfl ?_
            refine q_inlV 88 rfl [.ref 231, .int 0, .int 0, .int 0] [] (Nat.le_of_ble_eq_true rfl) rfl ?_
            refine Ev.mk rfl rfl ⟨Nat.le_of_ble_eq_true rfl, Or.inr (q_rc hI1803.1 kx_231 rfl)⟩ ?_
            show At _ none _ _ (0, [(0, .ref 231), (1, .int 0), (2, .int 0), (3, .int 0)], [], (_, _)) _
            refine At.enter rfl ?_
            refine r_aload_n rfl ?_
            refine r_iload_n rfl ?_
            refine r_ift (by decide) ?_
            refine At.enter rfl ?_
            refine r_iconst 0 rfl ?_
            refine Ar.fall 19 rfl ?_
            refine At.enter rfl ?_
            have x2534 := HI.eqI hI1803 (p := 231) (b := 8) ((((hF1804.1 231 8 mf_X11_partAt_231_231_8).trans (hF1791.1 231 8 mf_X11_isSign_231_231_8)).trans hv1))
            have x2535 := HI.eqI hI1803 (p := 231) (b := 9) ((((hF1804.1 231 9 mf_X11_partAt_231_231_9).trans (hF1791.1 231 9 mf_X11_isSign_231_231_9)).trans hv2))
            have x2536 := HI.eqI hI1803 (p := 231) (b := 10) ((((hF1804.1 231 10 mf_X11_partAt_231_231_10).trans (hF1791.1 231 10 mf_X11_isSign_231_231_10)).trans hv3))
            have w262538 := W26.cong hW hI1803 (((hF1804.1 231 9 mf_X11_partAt_231_231_9).trans (hF1791.1 231 9 mf_X11_isSign_231_231_9))) (((hF1804.1 231 10 mf_X11_partAt_231_231_10).trans (hF1791.1 231 10 mf_X11_isSign_231_231_10))) (((hF1804.1 231 11 mf_X11_partAt_231_231_11).trans (hF1791.1 231 11 mf_X11_isSign_231_231_11))) (((hF1804.2.2 231 12 mf_X11_partAt_231_231_12).trans (hF1791.2.2 231 12 mf_X11_isSign_231_231_12)))
            have zv2539 : (0 : Int32).toInt = 0 := rfl
            refine r_callV 22 rfl [.ref 231, .int 0] [] (Nat.le_of_ble_eq_true rfl) rfl (T_X11_must_231 _ hI1803 0 (by decide) (by refine ⟨?_, ?_, ?_, ?_⟩ <;> omega) w262538 (TKM.c hK (((hF1804.2.1 236 ma_X11_partAt_231_236).trans (hF1791.2.1 236 ma_X11_isSign_231_236))) (((hF1804.1 231 8 mf_X11_partAt_231_231_8).trans (hF1791.1 231 8 mf_X11_isSign_231_231_8))) (((hF1804.1 231 9 mf_X11_partAt_231_231_9).trans (hF1791.1 231 9 mf_X11_isSign_231_231_9))) (((hF1804.1 231 10 mf_X11_partAt_231_231_10).trans (hF1791.1 231 10 mf_X11_isSign_231_231_10))) (((hF1804.1 231 11 mf_X11_partAt_231_231_11).trans (hF1791.1 231 11 mf_X11_isSign_231_231_11))) (((hF1804.2.2 231 12 mf_X11_partAt_231_231_12).trans (hF1791.2.2 231 12 mf_X11_isSign_231_231_12))))) ?_
            rintro _ _ ⟨g2540, rfl, hI2541, hF2542, rfl, hr2544⟩
            refine At.stn ?_
            have hF2545 := Fr.tr hF1807 hF2542 rfl rfl
            have x2551 := HI.eqI hI1803 (p := 231) (b := 14) ((((hF1804.1 231 14 mf_X11_partAt_231_231_14).trans (hF1791.1 231 14 mf_X11_isSign_231_231_14)).trans hv6))
            have x2552 := HI.eqI hI2541 (p := 231) (b := 8) ((((hF2542.1 231 8 mf_X11_must_231_231_8).trans ((hF1804.1 231 8 mf_X11_partAt_231_231_8).trans (hF1791.1 231 8 mf_X11_isSign_231_231_8))).trans hv1))
            obtain ⟨v2553, hv2553⟩ : ∃ v, gI g2540 231 9 = v := ⟨_, rfl⟩
            have rv2553 := RgF.at hI2541.2.1 (p := 231) (b := 9) rfl
            rw [hv2553] at rv2553
            dsimp only at rv2553
            have tv2553 := congrArg Int32.toInt hv2553
            obtain ⟨v2555, hv2555⟩ : ∃ v, gI g2540 231 10 = v := ⟨_, rfl⟩
            have rv2555 := RgF.at hI2541.2.1 (p := 231) (b := 10) rfl
            rw [hv2555] at rv2555
            dsimp only at rv2555
            have tv2555 := congrArg Int32.toInt hv2555
            obtain ⟨v2557, hv2557⟩ : ∃ v, gI g2540 231 11 = v := ⟨_, rfl⟩
            have tv2557 := congrArg Int32.toInt hv2557
            obtain ⟨v2559, hv2559⟩ : ∃ v, gI g2540 231 14 = v := ⟨_, rfl⟩
            have tv2559 := congrArg Int32.toInt hv2559
            obtain ⟨c2561, c2562, c2563, c2564, c2565, c2566, c2567, c2568⟩ := hr2544
            obtain ⟨v2569, hv2569⟩ : ∃ v, gI g0 231 13 = v := ⟨_, rfl⟩
            have tv2569 := congrArg Int32.toInt hv2569
            have x2570 := HI.eqI hI1803 (p := 231) (b := 13) ((((hF1804.1 231 13 mf_X11_partAt_231_231_13).trans (hF1791.1 231 13 mf_X11_isSign_231_231_13)).trans hv2569))
            obtain ⟨v2572, hv2572⟩ : ∃ v, gI g2540 231 13 = v := ⟨_, rfl⟩
            have tv2572 := congrArg Int32.toInt hv2572
            unfold MUSTP at c2568
            rw [TM.c (((hF1804.2.1 236 ma_X11_partAt_231_236).trans (hF1791.2.1 236 ma_X11_isSign_231_236))), nM.c (((hF1804.1 231 8 mf_X11_partAt_231_231_8).trans (hF1791.1 231 8 mf_X11_isSign_231_231_8))), pI.c (b := 14) (((hF1804.1 231 14 mf_X11_partAt_231_231_14).trans (hF1791.1 231 14 mf_X11_isSign_231_231_14))), pI.c (b := 13) (((hF1804.1 231 13 mf_X11_partAt_231_231_13).trans (hF1791.1 231 13 mf_X11_isSign_231_231_13))), pI.c (b := 10) (((hF1804.1 231 10 mf_X11_partAt_231_231_10).trans (hF1791.1 231 10 mf_X11_isSign_231_231_10))), pI.c (b := 9) (((hF1804.1 231 9 mf_X11_partAt_231_231_9).trans (hF1791.1 231 9 mf_X11_isSign_231_231_9)))] at c2568
            have mu2574 : MUSTP g0 g2540 0 := c2568
            clear c2568
            have hK2575 := mu2574.1
            refine At.enter rfl ?_
            refine r_aload_n rfl ?_
            refine q_getI (Sh.int hI2541.1 kx_231 rfl) v2559 hv2559 ?_
            refine r_ifs 29 rfl (fun c2576 => ?_) (fun c2576 => ?_)
            · have c2576_ : v2559.toInt ≠ 0 := en_k_ne_t c2576
              clear c2567
              obtain ⟨i2577, i2578⟩ := MUSTP.y mu2574 (by omega) (by omega)
              refine At.enter rfl ?_
              refine q_vret ?_
              refine At.enter rfl ?_
              refine r_iconst 3 rfl ?_
              refine r_ireti ?_
              obtain ⟨v2583, hv2583⟩ : ∃ v, gJ g2540 231 12 = v := ⟨_, rfl⟩
              have x2584 := HI.eqJ hI2541 (b := 12) (hv2583)
              have x2586 := HI.eqI hI2541 (p := 231) (b := 17) ((((hF2542.1 231 17 mf_X11_must_231_231_17).trans ((hF1804.1 231 17 mf_X11_partAt_231_231_17).trans (hF1791.1 231 17 mf_X11_isSign_231_231_17))).trans hv7))
              have x2587 := HI.eqI hI2541 (p := 231) (b := 23) ((((hF2542.1 231 23 mf_X11_must_231_231_23).trans ((hF1804.1 231 23 mf_X11_partAt_231_231_23).trans (hF1791.1 231 23 mf_X11_isSign_231_231_23))).trans hv8))
              have zv2589 : (3 : Int32).toInt = 3 := rfl
              obtain ⟨v2593, hv2593⟩ : ∃ v, gI g0 231 15 = v := ⟨_, rfl⟩
              have rv2593 := RgF.at hI0.2.1 (p := 231) (b := 15) rfl
              rw [hv2593] at rv2593
              dsimp only at rv2593
              have tv2593 := congrArg Int32.toInt hv2593
              have x2594 := HI.eqI hI2541 (p := 231) (b := 15) ((((hF2542.1 231 15 mf_X11_must_231_231_15).trans ((hF1804.1 231 15 mf_X11_partAt_231_231_15).trans (hF1791.1 231 15 mf_X11_isSign_231_231_15))).trans hv2593))
              obtain ⟨v2595, hv2595⟩ : ∃ v, gI g0 231 20 = v := ⟨_, rfl⟩
              have tv2595 := congrArg Int32.toInt hv2595
              have x2596 := HI.eqI hI2541 (p := 231) (b := 20) ((((hF2542.1 231 20 mf_X11_must_231_231_20).trans ((hF1804.1 231 20 mf_X11_partAt_231_231_20).trans (hF1791.1 231 20 mf_X11_isSign_231_231_20))).trans hv2595))
              obtain ⟨v2598, hv2598⟩ : ∃ v, gI g0 231 24 = v := ⟨_, rfl⟩
              have tv2598 := congrArg Int32.toInt hv2598
              have x2599 := HI.eqI hI2541 (p := 231) (b := 24) ((((hF2542.1 231 24 mf_X11_must_231_231_24).trans ((hF1804.1 231 24 mf_X11_partAt_231_231_24).trans (hF1791.1 231 24 mf_X11_isSign_231_231_24))).trans hv2598))
              have lp := pa1810
              unfold PAI at lp
              have ld := CDM.dig hK
              have y2607 : pI g0 11 = (gI g0 231 11).toInt := rfl
              have y2608 : wth g0 = (gJ g0 231 12).toInt := rfl
              have x2610 := HI.eqJ hI0 (b := 12) (hv5)
              have mf2611 := mu2574.2.2.1 (show (gI g0 231 14).toInt = 0 from by omega) (by omega)
              have y2612 : (gI _ 231 14).toInt ≠ 0 := mf2611.1
              have y2613 : (gI _ 231 13).toInt = (gI g0 231 9).toInt := mf2611.2
              exact ⟨_, rfl, hI2541, hF2545, _, rfl, by decide, ⟨by omega, by omega, by omega, by omega, c2566, by omega, by omega, (fun hbad => ⟨by omega, (PT.mk (fun h => by first | exact absurd h (by decide) | (exfalso; omega)) (fun h => by first | exact absurd h (by decide) | (exfalso; omega)) (fun h h9 => by first | exact absurd h (by decide) | (exfalso; omega)) (fun h => by first | exact absurd h (by decide) | (exfalso; omega)))⟩), (fun hbad => by omega), hK2575, (fun c0 b hC h => M.leafF h (TKM.some hK).choose_spec (by omega) (fun z => by have z1 := z.1; have z2 : (gI g0 231 20).toInt < 50 := z.2; omega) (fun _ => ⟨show (gI _ 231 14).toInt ≠ 0 from by omega, show (gI _ 231 13).toInt = (gI g0 231 9).toInt from by omega⟩) (fun z => absurd (show (gI g0 231 14).toInt = 0 from (by first | exact h2 | omega)) z) _)⟩⟩
            · have c2576_ : v2559.toInt = 0 := en_k_ne_f c2576
              obtain ⟨i2614, i2615, i2616⟩ := c2567 (by omega)
              obtain ⟨i2617, i2618⟩ := MUSTP.z mu2574 (by omega) (by omega)
              refine At.enter rfl ?_
              refine r_aload_n rfl ?_
              refine r_iload_n rfl ?_
              refine r_iload_n rfl ?_
              have x2619 := HI.eqI hI2541 (p := 231) (b := 17) ((((hF2542.1 231 17 mf_X11_must_231_231_17).trans ((hF1804.1 231 17 mf_X11_partAt_231_231_17).trans (hF1791.1 231 17 mf_X11_isSign_231_231_17))).trans hv7))
              refine r_callV 35 rfl [.ref 231, .int 0, .int 0] [] (Nat.le_of_ble_eq_true rfl) rfl (T_X11_emit_231 _ hI2541 0 0 (by omega)) ?_
              rintro _ _ ⟨g2622, rfl, hI2623, hF2624, rfl, hr2626⟩
              refine At.stn ?_
              have hF2627 := Fr.tr hF2545 hF2624 rfl rfl
              have x2631 := HI.eqI hI2541 (p := 231) (b := 23) ((((hF2542.1 231 23 mf_X11_must_231_231_23).trans ((hF1804.1 231 23 mf_X11_partAt_231_231_23).trans (hF1791.1 231 23 mf_X11_isSign_231_231_23))).trans hv8))
              obtain ⟨v2632, hv2632⟩ : ∃ v, gI g2622 231 17 = v := ⟨_, rfl⟩
              have rv2632 := RgF.at hI2623.2.1 (p := 231) (b := 17) rfl
              rw [hv2632] at rv2632
              dsimp only at rv2632
              have tv2632 := congrArg Int32.toInt hv2632
              have y2634 : (gI _ 231 17).toInt = (gI _ 231 17).toInt + 1 := hr2626.1
              have pg2636 := PG.cong (hP.1 (by decide)) hI2541 (((hF2542.2.1 238 ma_X11_must_231_238).trans ((hF1804.2.1 238 ma_X11_partAt_231_238).trans (hF1791.2.1 238 ma_X11_isSign_231_238)))) (((hF2542.2.1 239 ma_X11_must_231_239).trans ((hF1804.2.1 239 ma_X11_partAt_231_239).trans (hF1791.2.1 239 ma_X11_isSign_231_239)))) (((hF2542.2.1 240 ma_X11_must_231_240).trans ((hF1804.2.1 240 ma_X11_partAt_231_240).trans (hF1791.2.1 240 ma_X11_isSign_231_240)))) (((hF2542.2.1 241 ma_X11_must_231_241).trans ((hF1804.2.1 241 ma_X11_partAt_231_241).trans (hF1791.2.1 241 ma_X11_isSign_231_241)))) (((hF2542.1 231 17 mf_X11_must_231_231_17).trans ((hF1804.1 231 17 mf_X11_partAt_231_231_17).trans (hF1791.1 231 17 mf_X11_isSign_231_231_17)))) (((hF2542.1 231 23 mf_X11_must_231_231_23).trans ((hF1804.1 231 23 mf_X11_partAt_231_231_23).trans (hF1791.1 231 23 mf_X11_isSign_231_231_23))))
              have pg2635 := PG.emit (e' := 1) pg2636 hr2626 (hF2624.2.1 240 ma_X11_emit_231_240) (hF2624.2.1 241 ma_X11_emit_231_241) (hF2624.1 231 23 mf_X11_emit_231_231_23) (Or.inl ⟨by omega, by omega, by decide, by decide⟩)
              refine At.enter rfl ?_
              refine r_aload_n rfl ?_
              refine r_dup rfl ?_
              obtain ⟨v2637, hv2637⟩ : ∃ v, gI g0 231 20 = v := ⟨_, rfl⟩
              refine q_getI (Sh.int hI2623.1 kx_231 rfl) v2637 (((hF2624.1 231 20 mf_X11_emit_231_231_20).trans ((hF2542.1 231 20 mf_X11_must_231_231_20).trans ((hF1804.1 231 20 mf_X11_partAt_231_231_20).trans (hF1791.1 231 20 mf_X11_isSign_231_231_20)))).trans hv2637) ?_
              refine r_iconst 1 rfl ?_
              refine q_iaddO (fun v2638 _ => ?_)
              refine q_putI (Sh.int hI2623.1 kx_231 rfl) rfl ?_
              have hI2639 := HI.wI0 hI2623 kx_231 rfl (p := 231) (b := 20) (v := v2638) rfl
              have hF2640 := Fr.wI (p := 231) (b := 20) (v := v2638) hF2627 rfl
              refine Ar.fall 45 rfl ?_
              refine At.enter rfl ?_
              refine q_vret ?_
              refine At.enter rfl ?_
              refine r_iconst 3 rfl ?_
              refine r_ireti ?_
              have x2641 := HI.eqI hI2639 (p := 231) (b := 8) ((((gI_sI_ne (by decide)).trans ((hF2624.1 231 8 mf_X11_emit_231_231_8).trans ((hF2542.1 231 8 mf_X11_must_231_231_8).trans ((hF1804.1 231 8 mf_X11_partAt_231_231_8).trans (hF1791.1 231 8 mf_X11_isSign_231_231_8))))).trans hv1))
              have x2642 := HI.eqI hI2639 (p := 231) (b := 9) ((((gI_sI_ne (by decide)).trans (hF2624.1 231 9 mf_X11_emit_231_231_9)).trans hv2553))
              have x2643 := HI.eqI hI2639 (p := 231) (b := 10) ((((gI_sI_ne (by decide)).trans (hF2624.1 231 10 mf_X11_emit_231_231_10)).trans hv2555))
              have x2644 := HI.eqI hI2639 (p := 231) (b := 11) ((((gI_sI_ne (by decide)).trans (hF2624.1 231 11 mf_X11_emit_231_231_11)).trans hv2557))
              obtain ⟨v2645, hv2645⟩ : ∃ v, gJ g2540 231 12 = v := ⟨_, rfl⟩
              have x2646 := HI.eqJ hI2639 (b := 12) ((((gJ_sI_ne (by decide)).trans (hF2624.2.2 231 12 mf_X11_emit_231_231_12)).trans hv2645))
              have x2647 := HI.eqI hI2639 (p := 231) (b := 14) ((((gI_sI_ne (by decide)).trans (hF2624.1 231 14 mf_X11_emit_231_231_14)).trans hv2559))
              have x2648 := HI.eqI hI2639 (p := 231) (b := 17) (((gI_sI_ne (by decide)).trans hv2632))
              have x2649 := HI.eqI hI2639 (p := 231) (b := 23) ((((gI_sI_ne (by decide)).trans ((hF2624.1 231 23 mf_X11_emit_231_231_23).trans ((hF2542.1 231 23 mf_X11_must_231_231_23).trans ((hF1804.1 231 23 mf_X11_partAt_231_231_23).trans (hF1791.1 231 23 mf_X11_isSign_231_231_23))))).trans hv8))
              have zv2651 : (3 : Int32).toInt = 3 := rfl
              have pg2652 := PG.cong pg2635 hI2639 ((gA_sI)) ((gA_sI)) ((gA_sI)) ((gA_sI)) ((gI_sI_ne (by decide))) ((gI_sI_ne (by decide)))
              have w262653 := W26.cong c2566 hI2639 (((gI_sI_ne (by decide)).trans (hF2624.1 231 9 mf_X11_emit_231_231_9))) (((gI_sI_ne (by decide)).trans (hF2624.1 231 10 mf_X11_emit_231_231_10))) (((gI_sI_ne (by decide)).trans (hF2624.1 231 11 mf_X11_emit_231_231_11))) (((gJ_sI_ne (by decide)).trans (hF2624.2.2 231 12 mf_X11_emit_231_231_12)))
              have x2655 := HI.eqI hI2639 (p := 231) (b := 13) ((((gI_sI_ne (by decide)).trans (hF2624.1 231 13 mf_X11_emit_231_231_13)).trans hv2572))
              obtain ⟨v2657, hv2657⟩ : ∃ v, gI g0 231 15 = v := ⟨_, rfl⟩
              have rv2657 := RgF.at hI0.2.1 (p := 231) (b := 15) rfl
              rw [hv2657] at rv2657
              dsimp only at rv2657
              have tv2657 := congrArg Int32.toInt hv2657
              have x2658 := HI.eqI hI2639 (p := 231) (b := 15) ((((gI_sI_ne (by decide)).trans ((hF2624.1 231 15 mf_X11_emit_231_231_15).trans ((hF2542.1 231 15 mf_X11_must_231_231_15).trans ((hF1804.1 231 15 mf_X11_partAt_231_231_15).trans (hF1791.1 231 15 mf_X11_isSign_231_231_15))))).trans hv2657))
              have x2659 := HI.eqI hI2639 (p := 231) (b := 20) ((gI_sI_eq hI2623.1 kx_231 rfl _))
              obtain ⟨v2661, hv2661⟩ : ∃ v, gI g0 231 24 = v := ⟨_, rfl⟩
              have tv2661 := congrArg Int32.toInt hv2661
              have x2662 := HI.eqI hI2639 (p := 231) (b := 24) ((((gI_sI_ne (by decide)).trans ((hF2624.1 231 24 mf_X11_emit_231_231_24).trans ((hF2542.1 231 24 mf_X11_must_231_231_24).trans ((hF1804.1 231 24 mf_X11_partAt_231_231_24).trans (hF1791.1 231 24 mf_X11_isSign_231_231_24))))).trans hv2661))
              have x2667 := HI.eqI hI0 (p := 231) (b := 20) (hv2637)
              have lp := pa1810
              unfold PAI at lp
              have ld := CDM.dig hK
              have y2670 : pI g0 11 = (gI g0 231 11).toInt := rfl
              have y2671 : wth g0 = (gJ g0 231 12).toInt := rfl
              have x2673 := HI.eqJ hI0 (b := 12) (hv5)
              have y2678 : (gI g2540 231 13).toInt = (gI g0 231 13).toInt := (mu2574.2.1 (show (gI g0 231 14).toInt = 0 from by omega) (by omega)).2.1
              exact ⟨_, rfl, hI2639, hF2640, _, rfl, by decide, ⟨by omega, by omega, by omega, by omega, w262653, by omega, by omega, (fun hbad => ⟨by omega, (PT.mk (fun h => by first | exact absurd h (by decide) | (exfalso; omega)) (fun _ => pg2652) (fun h h9 => by first | exact absurd h (by decide) | (exfalso; omega)) (fun h => by first | exact absurd h (by decide) | (exfalso; omega)))⟩), (fun hbad => by omega), (TKM.c hK2575 (((gA_sI).trans (hF2624.2.1 236 ma_X11_emit_231_236))) (((gI_sI_ne (by decide)).trans (hF2624.1 231 8 mf_X11_emit_231_231_8))) (((gI_sI_ne (by decide)).trans (hF2624.1 231 9 mf_X11_emit_231_231_9))) (((gI_sI_ne (by decide)).trans (hF2624.1 231 10 mf_X11_emit_231_231_10))) (((gI_sI_ne (by decide)).trans (hF2624.1 231 11 mf_X11_emit_231_231_11))) (((gJ_sI_ne (by decide)).trans (hF2624.2.2 231 12 mf_X11_emit_231_231_12)))), (fun c0 b hC h => M.leaf h (by rw [pI.c (((gI_sI_ne (by decide)).trans (hF2624.1 231 9 mf_X11_emit_231_231_9)))]; exact (MUSTP.tok hK mu2574 (by omega) (by omega))) (by omega) (show (gI g0 231 20).toInt < 50 from by omega) (((gA_sI).trans ((hF2624.2.1 240 ma_X11_emit_231_240).trans ((hF2542.2.1 240 ma_X11_must_231_240).trans ((hF1804.2.1 240 ma_X11_partAt_231_240).trans (hF1791.2.1 240 ma_X11_isSign_231_240)))))) (show (gI _ 231 23).toInt = (gI g0 231 23).toInt from (by first | exact x2649.trans tv8.symm | omega)) (show (gI _ 231 24).toInt = (gI g0 231 24).toInt from (by first | exact x2662.trans tv2661.symm | omega)) (show (gI _ 231 20).toInt = (gI g0 231 20).toInt + 1 from by omega) (show (gI _ 231 15).toInt = (gI g0 231 15).toInt from (by first | exact x2658.trans tv2657.symm | omega)) (fun _ => ⟨show (gI _ 231 14).toInt = 0 from by omega, show (gI _ 231 13).toInt = (gI g0 231 13).toInt from by omega⟩) (fun z => absurd (show (gI g0 231 14).toInt = 0 from (by first | exact h2 | omega)) z))⟩⟩
      · have c2245_ : v5.toInt ≤ 1000 := en_j_gt_f c2245
        refine At.enter rfl ?_
        refine r_iconst 1 rfl ?_
        refine r_goto ?_
        refine At.enter rfl ?_
        refine r_istore_n ([(2, .int 1), (1, .int v1805), (0, .ref 231)]) rfl ?_
        refine r_aload_n rfl ?_
        refine r_iload_n rfl ?_
        refine r_iconst (-1) rfl ?_
        refine r_ics 53 rfl (fun c2679 => ?_) (fun c2679 => ?_)
        · have c2679_ : v1805.toInt ≠ (-1) := en_i_ne_t c2679
          refine At.enter rfl ?_
          refine r_iconst 1 rfl ?_
          refine r_goto ?_
          refine At.enter rfl ?_
          refine r_iload_n rfl ?_
          refine r_iconst (-1) rfl ?_
          refine r_ics 67 rfl (fun c2680 => ?_) (fun c2680 => ?_)
          · have c2680_ : v1805.toInt ≠ (-1) := en_i_ne_t c2680
            refine At.enter rfl ?_
            refine r_iload_n rfl ?_
            refine Ar.fall 72 rfl ?_
            refine At.enter rfl ?_
            refine r_iload_n rfl ?_
            refine r_iff 76 rfl (by decide) ?_
            refine At.enter rfl ?_
            refine r_aload_n rfl ?_
            refine q_getJv (Sh.long hI1803.1 kx_231 rfl) v5 (((hF1804.2.2 231 12 mf_X11_partAt_231_231_12).trans (hF1791.2.2 231 12 mf_X11_isSign_231_231_12)).trans hv5) ?_
            refine q_l2iO (fun v2681 hv2681 => ?_)
            refine r_goto ?_
            refine At.enter rfl ?_
            refine q_inlV 88 rfl [.ref 231, .int 1, .int v1805, .int v2681] [] (Nat.le_of_ble_eq_true rfl) rfl ?_
            refine Ev.mk rfl rfl ⟨Nat.le_of_ble_eq_true rfl, Or.inr (q_rc hI1803.1 kx_231 rfl)⟩ ?_
            show At _ none _ _ (0, [(0, .ref 231), (1, .int 1), (2, .int v1805), (3, .int v2681)], [], (_, _)) _
            refine At.enter rfl ?_
            refine r_aload_n rfl ?_
            refine r_iload_n rfl ?_
            refine r_iff 5 rfl (by decide) ?_
            refine At.enter rfl ?_
            refine r_aload_n rfl ?_
            obtain ⟨v2682, hv2682⟩ : ∃ v, gI g0 231 20 = v := ⟨_, rfl⟩
            refine q_getI (Sh.int hI1803.1 kx_231 rfl) v2682 (((hF1804.1 231 20 mf_X11_partAt_231_231_20).trans (hF1791.1 231 20 mf_X11_isSign_231_231_20)).trans hv2682) ?_
            refine r_bipush 50 rfl ?_
            refine r_ics 14 rfl (fun c2683 => ?_) (fun c2683 => ?_)
            · have c2683_ : v2682.toInt ≥ 50 := en_i_ge_t c2683
              refine At.enter rfl ?_
              refine r_iconst 0 rfl ?_
              refine Ar.fall 19 rfl ?_
              refine At.enter rfl ?_
              have x2684 := HI.eqI hI1803 (p := 231) (b := 8) ((((hF1804.1 231 8 mf_X11_partAt_231_231_8).trans (hF1791.1 231 8 mf_X11_isSign_231_231_8)).trans hv1))
              have x2685 := HI.eqI hI1803 (p := 231) (b := 9) ((((hF1804.1 231 9 mf_X11_partAt_231_231_9).trans (hF1791.1 231 9 mf_X11_isSign_231_231_9)).trans hv2))
              have x2686 := HI.eqI hI1803 (p := 231) (b := 10) ((((hF1804.1 231 10 mf_X11_partAt_231_231_10).trans (hF1791.1 231 10 mf_X11_isSign_231_231_10)).trans hv3))
              have w262688 := W26.cong hW hI1803 (((hF1804.1 231 9 mf_X11_partAt_231_231_9).trans (hF1791.1 231 9 mf_X11_isSign_231_231_9))) (((hF1804.1 231 10 mf_X11_partAt_231_231_10).trans (hF1791.1 231 10 mf_X11_isSign_231_231_10))) (((hF1804.1 231 11 mf_X11_partAt_231_231_11).trans (hF1791.1 231 11 mf_X11_isSign_231_231_11))) (((hF1804.2.2 231 12 mf_X11_partAt_231_231_12).trans (hF1791.2.2 231 12 mf_X11_isSign_231_231_12)))
              have zv2689 : (0 : Int32).toInt = 0 := rfl
              refine r_callV 22 rfl [.ref 231, .int 0] [] (Nat.le_of_ble_eq_true rfl) rfl (T_X11_must_231 _ hI1803 0 (by decide) (by refine ⟨?_, ?_, ?_, ?_⟩ <;> omega) w262688 (TKM.c hK (((hF1804.2.1 236 ma_X11_partAt_231_236).trans (hF1791.2.1 236 ma_X11_isSign_231_236))) (((hF1804.1 231 8 mf_X11_partAt_231_231_8).trans (hF1791.1 231 8 mf_X11_isSign_231_231_8))) (((hF1804.1 231 9 mf_X11_partAt_231_231_9).trans (hF1791.1 231 9 mf_X11_isSign_231_231_9))) (((hF1804.1 231 10 mf_X11_partAt_231_231_10).trans (hF1791.1 231 10 mf_X11_isSign_231_231_10))) (((hF1804.1 231 11 mf_X11_partAt_231_231_11).trans (hF1791.1 231 11 mf_X11_isSign_231_231_11))) (((hF1804.2.2 231 12 mf_X11_partAt_231_231_12).trans (hF1791.2.2 231 12 mf_X11_isSign_231_231_12))))) ?_
              rintro _ _ ⟨g2690, rfl, hI2691, hF2692, rfl, hr2694⟩
              refine At.stn ?_
              have hF2695 := Fr.tr hF1807 hF2692 rfl rfl
              have x2701 := HI.eqI hI1803 (p := 231) (b := 14) ((((hF1804.1 231 14 mf_X11_partAt_231_231_14).trans (hF1791.1 231 14 mf_X11_isSign_231_231_14)).trans hv6))
              have x2702 := HI.eqI hI2691 (p := 231) (b := 8) ((((hF2692.1 231 8 mf_X11_must_231_231_8).trans ((hF1804.1 231 8 mf_X11_partAt_231_231_8).trans (hF1791.1 231 8 mf_X11_isSign_231_231_8))).trans hv1))
              obtain ⟨v2703, hv2703⟩ : ∃ v, gI g2690 231 9 = v := ⟨_, rfl⟩
              have rv2703 := RgF.at hI2691.2.1 (p := 231) (b := 9) rfl
              rw [hv2703] at rv2703
              dsimp only at rv2703
              have tv2703 := congrArg Int32.toInt hv2703
              obtain ⟨v2705, hv2705⟩ : ∃ v, gI g2690 231 10 = v := ⟨_, rfl⟩
              have rv2705 := RgF.at hI2691.2.1 (p := 231) (b := 10) rfl
              rw [hv2705] at rv2705
              dsimp only at rv2705
              have tv2705 := congrArg Int32.toInt hv2705
              obtain ⟨v2707, hv2707⟩ : ∃ v, gI g2690 231 11 = v := ⟨_, rfl⟩
              have tv2707 := congrArg Int32.toInt hv2707
              obtain ⟨v2709, hv2709⟩ : ∃ v, gI g2690 231 14 = v := ⟨_, rfl⟩
              have tv2709 := congrArg Int32.toInt hv2709
              obtain ⟨c2711, c2712, c2713, c2714, c2715, c2716, c2717, c2718⟩ := hr2694
              obtain ⟨v2719, hv2719⟩ : ∃ v, gI g0 231 13 = v := ⟨_, rfl⟩
              have tv2719 := congrArg Int32.toInt hv2719
              have x2720 := HI.eqI hI1803 (p := 231) (b := 13) ((((hF1804.1 231 13 mf_X11_partAt_231_231_13).trans (hF1791.1 231 13 mf_X11_isSign_231_231_13)).trans hv2719))
              obtain ⟨v2722, hv2722⟩ : ∃ v, gI g2690 231 13 = v := ⟨_, rfl⟩
              have tv2722 := congrArg Int32.toInt hv2722
              unfold MUSTP at c2718
              rw [TM.c (((hF1804.2.1 236 ma_X11_partAt_231_236).trans (hF1791.2.1 236 ma_X11_isSign_231_236))), nM.c (((hF1804.1 231 8 mf_X11_partAt_231_231_8).trans (hF1791.1 231 8 mf_X11_isSign_231_231_8))), pI.c (b := 14) (((hF1804.1 231 14 mf_X11_partAt_231_231_14).trans (hF1791.1 231 14 mf_X11_isSign_231_231_14))), pI.c (b := 13) (((hF1804.1 231 13 mf_X11_partAt_231_231_13).trans (hF1791.1 231 13 mf_X11_isSign_231_231_13))), pI.c (b := 10) (((hF1804.1 231 10 mf_X11_partAt_231_231_10).trans (hF1791.1 231 10 mf_X11_isSign_231_231_10))), pI.c (b := 9) (((hF1804.1 231 9 mf_X11_partAt_231_231_9).trans (hF1791.1 231 9 mf_X11_isSign_231_231_9)))] at c2718
              have mu2724 : MUSTP g0 g2690 0 := c2718
              clear c2718
              have hK2725 := mu2724.1
              refine At.enter rfl ?_
              refine r_aload_n rfl ?_
              refine q_getI (Sh.int hI2691.1 kx_231 rfl) v2709 hv2709 ?_
              refine r_ifs 29 rfl (fun c2726 => ?_) (fun c2726 => ?_)
              · have c2726_ : v2709.toInt ≠ 0 := en_k_ne_t c2726
                clear c2717
                obtain ⟨i2727, i2728⟩ := MUSTP.y mu2724 (by omega) (by omega)
                refine At.enter rfl ?_
                refine q_vret ?_
                refine At.enter rfl ?_
                refine r_iconst 3 rfl ?_
                refine r_ireti ?_
                obtain ⟨v2733, hv2733⟩ : ∃ v, gJ g2690 231 12 = v := ⟨_, rfl⟩
                have x2734 := HI.eqJ hI2691 (b := 12) (hv2733)
                have x2736 := HI.eqI hI2691 (p := 231) (b := 17) ((((hF2692.1 231 17 mf_X11_must_231_231_17).trans ((hF1804.1 231 17 mf_X11_partAt_231_231_17).trans (hF1791.1 231 17 mf_X11_isSign_231_231_17))).trans hv7))
                have x2737 := HI.eqI hI2691 (p := 231) (b := 23) ((((hF2692.1 231 23 mf_X11_must_231_231_23).trans ((hF1804.1 231 23 mf_X11_partAt_231_231_23).trans (hF1791.1 231 23 mf_X11_isSign_231_231_23))).trans hv8))
                have zv2739 : (3 : Int32).toInt = 3 := rfl
                obtain ⟨v2743, hv2743⟩ : ∃ v, gI g0 231 15 = v := ⟨_, rfl⟩
                have rv2743 := RgF.at hI0.2.1 (p := 231) (b := 15) rfl
                rw [hv2743] at rv2743
                dsimp only at rv2743
                have tv2743 := congrArg Int32.toInt hv2743
                have x2744 := HI.eqI hI2691 (p := 231) (b := 15) ((((hF2692.1 231 15 mf_X11_must_231_231_15).trans ((hF1804.1 231 15 mf_X11_partAt_231_231_15).trans (hF1791.1 231 15 mf_X11_isSign_231_231_15))).trans hv2743))
                have x2745 := HI.eqI hI2691 (p := 231) (b := 20) ((((hF2692.1 231 20 mf_X11_must_231_231_20).trans ((hF1804.1 231 20 mf_X11_partAt_231_231_20).trans (hF1791.1 231 20 mf_X11_isSign_231_231_20))).trans hv2682))
                obtain ⟨v2747, hv2747⟩ : ∃ v, gI g0 231 24 = v := ⟨_, rfl⟩
                have tv2747 := congrArg Int32.toInt hv2747
                have x2748 := HI.eqI hI2691 (p := 231) (b := 24) ((((hF2692.1 231 24 mf_X11_must_231_231_24).trans ((hF1804.1 231 24 mf_X11_partAt_231_231_24).trans (hF1791.1 231 24 mf_X11_isSign_231_231_24))).trans hv2747))
                have x2753 := HI.eqI hI0 (p := 231) (b := 20) (hv2682)
                have lp := pa1810
                unfold PAI at lp
                have ld := CDM.dig hK
                have y2756 : pI g0 11 = (gI g0 231 11).toInt := rfl
                have y2757 : wth g0 = (gJ g0 231 12).toInt := rfl
                have x2759 := HI.eqJ hI0 (b := 12) (hv5)
                have mf2760 := mu2724.2.2.1 (show (gI g0 231 14).toInt = 0 from by omega) (by omega)
                have y2761 : (gI _ 231 14).toInt ≠ 0 := mf2760.1
                have y2762 : (gI _ 231 13).toInt = (gI g0 231 9).toInt := mf2760.2
                exact ⟨_, rfl, hI2691, hF2695, _, rfl, by decide, ⟨by omega, by omega, by omega, by omega, c2716, by omega, by omega, (fun hbad => ⟨by omega, (PT.mk (fun h => by first | exact absurd h (by decide) | (exfalso; omega)) (fun h => by first | exact absurd h (by decide) | (exfalso; omega)) (fun h h9 => by first | exact absurd h (by decide) | (exfalso; omega)) (fun h => by first | exact absurd h (by decide) | (exfalso; omega)))⟩), (fun hbad => by omega), hK2725, (fun c0 b hC h => M.leafF h (TKM.some hK).choose_spec (by omega) (fun z => by have z1 := z.1; have z2 : (gI g0 231 20).toInt < 50 := z.2; omega) (fun _ => ⟨show (gI _ 231 14).toInt ≠ 0 from by omega, show (gI _ 231 13).toInt = (gI g0 231 9).toInt from by omega⟩) (fun z => absurd (show (gI g0 231 14).toInt = 0 from (by first | exact h2 | omega)) z) _)⟩⟩
              · have c2726_ : v2709.toInt = 0 := en_k_ne_f c2726
                obtain ⟨i2763, i2764, i2765⟩ := c2717 (by omega)
                obtain ⟨i2766, i2767⟩ := MUSTP.z mu2724 (by omega) (by omega)
                refine At.enter rfl ?_
                refine r_aload_n rfl ?_
                refine r_iload_n rfl ?_
                refine r_iload_n rfl ?_
                have x2768 := HI.eqI hI2691 (p := 231) (b := 17) ((((hF2692.1 231 17 mf_X11_must_231_231_17).trans ((hF1804.1 231 17 mf_X11_partAt_231_231_17).trans (hF1791.1 231 17 mf_X11_isSign_231_231_17))).trans hv7))
                refine r_callV 35 rfl [.ref 231, .int v1805, .int v2681] [] (Nat.le_of_ble_eq_true rfl) rfl (T_X11_emit_231 _ hI2691 v1805 v2681 (by omega)) ?_
                rintro _ _ ⟨g2769, rfl, hI2770, hF2771, rfl, hr2773⟩
                refine At.stn ?_
                have hF2774 := Fr.tr hF2695 hF2771 rfl rfl
                have x2776 := HI.eqI hI2691 (p := 231) (b := 23) ((((hF2692.1 231 23 mf_X11_must_231_231_23).trans ((hF1804.1 231 23 mf_X11_partAt_231_231_23).trans (hF1791.1 231 23 mf_X11_isSign_231_231_23))).trans hv8))
                obtain ⟨v2777, hv2777⟩ : ∃ v, gI g2769 231 17 = v := ⟨_, rfl⟩
                have rv2777 := RgF.at hI2770.2.1 (p := 231) (b := 17) rfl
                rw [hv2777] at rv2777
                dsimp only at rv2777
                have tv2777 := congrArg Int32.toInt hv2777
                have y2779 : (gI _ 231 17).toInt = (gI _ 231 17).toInt + 1 := hr2773.1
                have pg2781 := PG.cong (hP.1 (by decide)) hI2691 (((hF2692.2.1 238 ma_X11_must_231_238).trans ((hF1804.2.1 238 ma_X11_partAt_231_238).trans (hF1791.2.1 238 ma_X11_isSign_231_238)))) (((hF2692.2.1 239 ma_X11_must_231_239).trans ((hF1804.2.1 239 ma_X11_partAt_231_239).trans (hF1791.2.1 239 ma_X11_isSign_231_239)))) (((hF2692.2.1 240 ma_X11_must_231_240).trans ((hF1804.2.1 240 ma_X11_partAt_231_240).trans (hF1791.2.1 240 ma_X11_isSign_231_240)))) (((hF2692.2.1 241 ma_X11_must_231_241).trans ((hF1804.2.1 241 ma_X11_partAt_231_241).trans (hF1791.2.1 241 ma_X11_isSign_231_241)))) (((hF2692.1 231 17 mf_X11_must_231_231_17).trans ((hF1804.1 231 17 mf_X11_partAt_231_231_17).trans (hF1791.1 231 17 mf_X11_isSign_231_231_17)))) (((hF2692.1 231 23 mf_X11_must_231_231_23).trans ((hF1804.1 231 23 mf_X11_partAt_231_231_23).trans (hF1791.1 231 23 mf_X11_isSign_231_231_23))))
                have pg2780 := PG.emit (e' := 1) pg2781 hr2773 (hF2771.2.1 240 ma_X11_emit_231_240) (hF2771.2.1 241 ma_X11_emit_231_241) (hF2771.1 231 23 mf_X11_emit_231_231_23) (Or.inl ⟨by omega, by omega, by decide, by decide⟩)
                refine At.enter rfl ?_
                refine r_aload_n rfl ?_
                refine r_dup rfl ?_
                refine q_getI (Sh.int hI2770.1 kx_231 rfl) v2682 (((hF2771.1 231 20 mf_X11_emit_231_231_20).trans ((hF2692.1 231 20 mf_X11_must_231_231_20).trans ((hF1804.1 231 20 mf_X11_partAt_231_231_20).trans (hF1791.1 231 20 mf_X11_isSign_231_231_20)))).trans hv2682) ?_
                refine r_iconst 1 rfl ?_
                refine q_iaddO (fun v2782 _ => ?_)
                refine q_putI (Sh.int hI2770.1 kx_231 rfl) rfl ?_
                have hI2783 := HI.wI0 hI2770 kx_231 rfl (p := 231) (b := 20) (v := v2782) rfl
                have hF2784 := Fr.wI (p := 231) (b := 20) (v := v2782) hF2774 rfl
                refine Ar.fall 45 rfl ?_
                refine At.enter rfl ?_
                refine q_vret ?_
                refine At.enter rfl ?_
                refine r_iconst 3 rfl ?_
                refine r_ireti ?_
                have x2785 := HI.eqI hI2783 (p := 231) (b := 8) ((((gI_sI_ne (by decide)).trans ((hF2771.1 231 8 mf_X11_emit_231_231_8).trans ((hF2692.1 231 8 mf_X11_must_231_231_8).trans ((hF1804.1 231 8 mf_X11_partAt_231_231_8).trans (hF1791.1 231 8 mf_X11_isSign_231_231_8))))).trans hv1))
                have x2786 := HI.eqI hI2783 (p := 231) (b := 9) ((((gI_sI_ne (by decide)).trans (hF2771.1 231 9 mf_X11_emit_231_231_9)).trans hv2703))
                have x2787 := HI.eqI hI2783 (p := 231) (b := 10) ((((gI_sI_ne (by decide)).trans (hF2771.1 231 10 mf_X11_emit_231_231_10)).trans hv2705))
                have x2788 := HI.eqI hI2783 (p := 231) (b := 11) ((((gI_sI_ne (by decide)).trans (hF2771.1 231 11 mf_X11_emit_231_231_11)).trans hv2707))
                obtain ⟨v2789, hv2789⟩ : ∃ v, gJ g2690 231 12 = v := ⟨_, rfl⟩
                have x2790 := HI.eqJ hI2783 (b := 12) ((((gJ_sI_ne (by decide)).trans (hF2771.2.2 231 12 mf_X11_emit_231_231_12)).trans hv2789))
                have x2791 := HI.eqI hI2783 (p := 231) (b := 14) ((((gI_sI_ne (by decide)).trans (hF2771.1 231 14 mf_X11_emit_231_231_14)).trans hv2709))
                have x2792 := HI.eqI hI2783 (p := 231) (b := 17) (((gI_sI_ne (by decide)).trans hv2777))
                have x2793 := HI.eqI hI2783 (p := 231) (b := 23) ((((gI_sI_ne (by decide)).trans ((hF2771.1 231 23 mf_X11_emit_231_231_23).trans ((hF2692.1 231 23 mf_X11_must_231_231_23).trans ((hF1804.1 231 23 mf_X11_partAt_231_231_23).trans (hF1791.1 231 23 mf_X11_isSign_231_231_23))))).trans hv8))
                have zv2795 : (3 : Int32).toInt = 3 := rfl
                have pg2796 := PG.cong pg2780 hI2783 ((gA_sI)) ((gA_sI)) ((gA_sI)) ((gA_sI)) ((gI_sI_ne (by decide))) ((gI_sI_ne (by decide)))
                have w262797 := W26.cong c2716 hI2783 (((gI_sI_ne (by decide)).trans (hF2771.1 231 9 mf_X11_emit_231_231_9))) (((gI_sI_ne (by decide)).trans (hF2771.1 231 10 mf_X11_emit_231_231_10))) (((gI_sI_ne (by decide)).trans (hF2771.1 231 11 mf_X11_emit_231_231_11))) (((gJ_sI_ne (by decide)).trans (hF2771.2.2 231 12 mf_X11_emit_231_231_12)))
                have x2799 := HI.eqI hI2783 (p := 231) (b := 13) ((((gI_sI_ne (by decide)).trans (hF2771.1 231 13 mf_X11_emit_231_231_13)).trans hv2722))
                obtain ⟨v2801, hv2801⟩ : ∃ v, gI g0 231 15 = v := ⟨_, rfl⟩
                have rv2801 := RgF.at hI0.2.1 (p := 231) (b := 15) rfl
                rw [hv2801] at rv2801
                dsimp only at rv2801
                have tv2801 := congrArg Int32.toInt hv2801
                have x2802 := HI.eqI hI2783 (p := 231) (b := 15) ((((gI_sI_ne (by decide)).trans ((hF2771.1 231 15 mf_X11_emit_231_231_15).trans ((hF2692.1 231 15 mf_X11_must_231_231_15).trans ((hF1804.1 231 15 mf_X11_partAt_231_231_15).trans (hF1791.1 231 15 mf_X11_isSign_231_231_15))))).trans hv2801))
                have x2803 := HI.eqI hI2783 (p := 231) (b := 20) ((gI_sI_eq hI2770.1 kx_231 rfl _))
                obtain ⟨v2805, hv2805⟩ : ∃ v, gI g0 231 24 = v := ⟨_, rfl⟩
                have tv2805 := congrArg Int32.toInt hv2805
                have x2806 := HI.eqI hI2783 (p := 231) (b := 24) ((((gI_sI_ne (by decide)).trans ((hF2771.1 231 24 mf_X11_emit_231_231_24).trans ((hF2692.1 231 24 mf_X11_must_231_231_24).trans ((hF1804.1 231 24 mf_X11_partAt_231_231_24).trans (hF1791.1 231 24 mf_X11_isSign_231_231_24))))).trans hv2805))
                have x2811 := HI.eqI hI0 (p := 231) (b := 20) (hv2682)
                have lp := pa1810
                unfold PAI at lp
                have ld := CDM.dig hK
                have y2814 : pI g0 11 = (gI g0 231 11).toInt := rfl
                have y2815 : wth g0 = (gJ g0 231 12).toInt := rfl
                have x2817 := HI.eqJ hI0 (b := 12) (hv5)
                have y2822 : (gI g2690 231 13).toInt = (gI g0 231 13).toInt := (mu2724.2.1 (show (gI g0 231 14).toInt = 0 from by omega) (by omega)).2.1
                exact ⟨_, rfl, hI2783, hF2784, _, rfl, by decide, ⟨by omega, by omega, by omega, by omega, w262797, by omega, by omega, (fun hbad => ⟨by omega, (PT.mk (fun h => by first | exact absurd h (by decide) | (exfalso; omega)) (fun _ => pg2796) (fun h h9 => by first | exact absurd h (by decide) | (exfalso; omega)) (fun h => by first | exact absurd h (by decide) | (exfalso; omega)))⟩), (fun hbad => by omega), (TKM.c hK2725 (((gA_sI).trans (hF2771.2.1 236 ma_X11_emit_231_236))) (((gI_sI_ne (by decide)).trans (hF2771.1 231 8 mf_X11_emit_231_231_8))) (((gI_sI_ne (by decide)).trans (hF2771.1 231 9 mf_X11_emit_231_231_9))) (((gI_sI_ne (by decide)).trans (hF2771.1 231 10 mf_X11_emit_231_231_10))) (((gI_sI_ne (by decide)).trans (hF2771.1 231 11 mf_X11_emit_231_231_11))) (((gJ_sI_ne (by decide)).trans (hF2771.2.2 231 12 mf_X11_emit_231_231_12)))), (fun c0 b hC h => M.leaf h (by rw [pI.c (((gI_sI_ne (by decide)).trans (hF2771.1 231 9 mf_X11_emit_231_231_9)))]; exact (MUSTP.tok hK mu2724 (by omega) (by omega))) (by omega) (show (gI g0 231 20).toInt < 50 from by omega) (((gA_sI).trans ((hF2771.2.1 240 ma_X11_emit_231_240).trans ((hF2692.2.1 240 ma_X11_must_231_240).trans ((hF1804.2.1 240 ma_X11_partAt_231_240).trans (hF1791.2.1 240 ma_X11_isSign_231_240)))))) (show (gI _ 231 23).toInt = (gI g0 231 23).toInt from (by first | exact x2793.trans tv8.symm | omega)) (show (gI _ 231 24).toInt = (gI g0 231 24).toInt from (by first | exact x2806.trans tv2805.symm | omega)) (show (gI _ 231 20).toInt = (gI g0 231 20).toInt + 1 from by omega) (show (gI _ 231 15).toInt = (gI g0 231 15).toInt from (by first | exact x2802.trans tv2801.symm | omega)) (fun _ => ⟨show (gI _ 231 14).toInt = 0 from by omega, show (gI _ 231 13).toInt = (gI g0 231 13).toInt from by omega⟩) (fun z => absurd (show (gI g0 231 14).toInt = 0 from (by first | exact h2 | omega)) z))⟩⟩
            · have c2683_ : v2682.toInt < 50 := en_i_ge_f c2683
              refine At.enter rfl ?_
              refine r_iconst 1 rfl ?_
              refine r_goto ?_
              refine At.enter rfl ?_
              have x2823 := HI.eqI hI1803 (p := 231) (b := 8) ((((hF1804.1 231 8 mf_X11_partAt_231_231_8).trans (hF1791.1 231 8 mf_X11_isSign_231_231_8)).trans hv1))
              have x2824 := HI.eqI hI1803 (p := 231) (b := 9) ((((hF1804.1 231 9 mf_X11_partAt_231_231_9).trans (hF1791.1 231 9 mf_X11_isSign_231_231_9)).trans hv2))
              have x2825 := HI.eqI hI1803 (p := 231) (b := 10) ((((hF1804.1 231 10 mf_X11_partAt_231_231_10).trans (hF1791.1 231 10 mf_X11_isSign_231_231_10)).trans hv3))
              have w262827 := W26.cong hW hI1803 (((hF1804.1 231 9 mf_X11_partAt_231_231_9).trans (hF1791.1 231 9 mf_X11_isSign_231_231_9))) (((hF1804.1 231 10 mf_X11_partAt_231_231_10).trans (hF1791.1 231 10 mf_X11_isSign_231_231_10))) (((hF1804.1 231 11 mf_X11_partAt_231_231_11).trans (hF1791.1 231 11 mf_X11_isSign_231_231_11))) (((hF1804.2.2 231 12 mf_X11_partAt_231_231_12).trans (hF1791.2.2 231 12 mf_X11_isSign_231_231_12)))
              have zv2828 : (1 : Int32).toInt = 1 := rfl
              refine r_callV 22 rfl [.ref 231, .int 1] [] (Nat.le_of_ble_eq_true rfl) rfl (T_X11_must_231 _ hI1803 1 (by decide) (by refine ⟨?_, ?_, ?_, ?_⟩ <;> omega) w262827 (TKM.c hK (((hF1804.2.1 236 ma_X11_partAt_231_236).trans (hF1791.2.1 236 ma_X11_isSign_231_236))) (((hF1804.1 231 8 mf_X11_partAt_231_231_8).trans (hF1791.1 231 8 mf_X11_isSign_231_231_8))) (((hF1804.1 231 9 mf_X11_partAt_231_231_9).trans (hF1791.1 231 9 mf_X11_isSign_231_231_9))) (((hF1804.1 231 10 mf_X11_partAt_231_231_10).trans (hF1791.1 231 10 mf_X11_isSign_231_231_10))) (((hF1804.1 231 11 mf_X11_partAt_231_231_11).trans (hF1791.1 231 11 mf_X11_isSign_231_231_11))) (((hF1804.2.2 231 12 mf_X11_partAt_231_231_12).trans (hF1791.2.2 231 12 mf_X11_isSign_231_231_12))))) ?_
              rintro _ _ ⟨g2829, rfl, hI2830, hF2831, rfl, hr2833⟩
              refine At.stn ?_
              have hF2834 := Fr.tr hF1807 hF2831 rfl rfl
              have x2840 := HI.eqI hI1803 (p := 231) (b := 14) ((((hF1804.1 231 14 mf_X11_partAt_231_231_14).trans (hF1791.1 231 14 mf_X11_isSign_231_231_14)).trans hv6))
              have x2841 := HI.eqI hI2830 (p := 231) (b := 8) ((((hF2831.1 231 8 mf_X11_must_231_231_8).trans ((hF1804.1 231 8 mf_X11_partAt_231_231_8).trans (hF1791.1 231 8 mf_X11_isSign_231_231_8))).trans hv1))
              obtain ⟨v2842, hv2842⟩ : ∃ v, gI g2829 231 9 = v := ⟨_, rfl⟩
              have rv2842 := RgF.at hI2830.2.1 (p := 231) (b := 9) rfl
              rw [hv2842] at rv2842
              dsimp only at rv2842
              have tv2842 := congrArg Int32.toInt hv2842
              obtain ⟨v2844, hv2844⟩ : ∃ v, gI g2829 231 10 = v := ⟨_, rfl⟩
              have rv2844 := RgF.at hI2830.2.1 (p := 231) (b := 10) rfl
              rw [hv2844] at rv2844
              dsimp only at rv2844
              have tv2844 := congrArg Int32.toInt hv2844
              obtain ⟨v2846, hv2846⟩ : ∃ v, gI g2829 231 11 = v := ⟨_, rfl⟩
              have tv2846 := congrArg Int32.toInt hv2846
              obtain ⟨v2848, hv2848⟩ : ∃ v, gI g2829 231 14 = v := ⟨_, rfl⟩
              have tv2848 := congrArg Int32.toInt hv2848
              obtain ⟨c2850, c2851, c2852, c2853, c2854, c2855, c2856, c2857⟩ := hr2833
              obtain ⟨v2858, hv2858⟩ : ∃ v, gI g0 231 13 = v := ⟨_, rfl⟩
              have tv2858 := congrArg Int32.toInt hv2858
              have x2859 := HI.eqI hI1803 (p := 231) (b := 13) ((((hF1804.1 231 13 mf_X11_partAt_231_231_13).trans (hF1791.1 231 13 mf_X11_isSign_231_231_13)).trans hv2858))
              obtain ⟨v2861, hv2861⟩ : ∃ v, gI g2829 231 13 = v := ⟨_, rfl⟩
              have tv2861 := congrArg Int32.toInt hv2861
              unfold MUSTP at c2857
              rw [TM.c (((hF1804.2.1 236 ma_X11_partAt_231_236).trans (hF1791.2.1 236 ma_X11_isSign_231_236))), nM.c (((hF1804.1 231 8 mf_X11_partAt_231_231_8).trans (hF1791.1 231 8 mf_X11_isSign_231_231_8))), pI.c (b := 14) (((hF1804.1 231 14 mf_X11_partAt_231_231_14).trans (hF1791.1 231 14 mf_X11_isSign_231_231_14))), pI.c (b := 13) (((hF1804.1 231 13 mf_X11_partAt_231_231_13).trans (hF1791.1 231 13 mf_X11_isSign_231_231_13))), pI.c (b := 10) (((hF1804.1 231 10 mf_X11_partAt_231_231_10).trans (hF1791.1 231 10 mf_X11_isSign_231_231_10))), pI.c (b := 9) (((hF1804.1 231 9 mf_X11_partAt_231_231_9).trans (hF1791.1 231 9 mf_X11_isSign_231_231_9)))] at c2857
              have mu2863 : MUSTP g0 g2829 1 := c2857
              clear c2857
              have hK2864 := mu2863.1
              refine At.enter rfl ?_
              refine r_aload_n rfl ?_
              refine q_getI (Sh.int hI2830.1 kx_231 rfl) v2848 hv2848 ?_
              refine r_ifs 29 rfl (fun c2865 => ?_) (fun c2865 => ?_)
              · have c2865_ : v2848.toInt ≠ 0 := en_k_ne_t c2865
                clear c2856
                obtain ⟨i2866, i2867⟩ := MUSTP.y mu2863 (by omega) (by omega)
                refine At.enter rfl ?_
                refine q_vret ?_
                refine At.enter rfl ?_
                refine r_iconst 3 rfl ?_
                refine r_ireti ?_
                obtain ⟨v2872, hv2872⟩ : ∃ v, gJ g2829 231 12 = v := ⟨_, rfl⟩
                have x2873 := HI.eqJ hI2830 (b := 12) (hv2872)
                have x2875 := HI.eqI hI2830 (p := 231) (b := 17) ((((hF2831.1 231 17 mf_X11_must_231_231_17).trans ((hF1804.1 231 17 mf_X11_partAt_231_231_17).trans (hF1791.1 231 17 mf_X11_isSign_231_231_17))).trans hv7))
                have x2876 := HI.eqI hI2830 (p := 231) (b := 23) ((((hF2831.1 231 23 mf_X11_must_231_231_23).trans ((hF1804.1 231 23 mf_X11_partAt_231_231_23).trans (hF1791.1 231 23 mf_X11_isSign_231_231_23))).trans hv8))
                have zv2878 : (3 : Int32).toInt = 3 := rfl
                obtain ⟨v2882, hv2882⟩ : ∃ v, gI g0 231 15 = v := ⟨_, rfl⟩
                have rv2882 := RgF.at hI0.2.1 (p := 231) (b := 15) rfl
                rw [hv2882] at rv2882
                dsimp only at rv2882
                have tv2882 := congrArg Int32.toInt hv2882
                have x2883 := HI.eqI hI2830 (p := 231) (b := 15) ((((hF2831.1 231 15 mf_X11_must_231_231_15).trans ((hF1804.1 231 15 mf_X11_partAt_231_231_15).trans (hF1791.1 231 15 mf_X11_isSign_231_231_15))).trans hv2882))
                have x2884 := HI.eqI hI2830 (p := 231) (b := 20) ((((hF2831.1 231 20 mf_X11_must_231_231_20).trans ((hF1804.1 231 20 mf_X11_partAt_231_231_20).trans (hF1791.1 231 20 mf_X11_isSign_231_231_20))).trans hv2682))
                obtain ⟨v2886, hv2886⟩ : ∃ v, gI g0 231 24 = v := ⟨_, rfl⟩
                have tv2886 := congrArg Int32.toInt hv2886
                have x2887 := HI.eqI hI2830 (p := 231) (b := 24) ((((hF2831.1 231 24 mf_X11_must_231_231_24).trans ((hF1804.1 231 24 mf_X11_partAt_231_231_24).trans (hF1791.1 231 24 mf_X11_isSign_231_231_24))).trans hv2886))
                have x2892 := HI.eqI hI0 (p := 231) (b := 20) (hv2682)
                have lp := pa1810
                unfold PAI at lp
                have ld := CDM.dig hK
                have y2895 : pI g0 11 = (gI g0 231 11).toInt := rfl
                have y2896 : wth g0 = (gJ g0 231 12).toInt := rfl
                have x2898 := HI.eqJ hI0 (b := 12) (hv5)
                have mf2899 := mu2863.2.2.1 (show (gI g0 231 14).toInt = 0 from by omega) (by omega)
                have y2900 : (gI _ 231 14).toInt ≠ 0 := mf2899.1
                have y2901 : (gI _ 231 13).toInt = (gI g0 231 9).toInt := mf2899.2
                exact ⟨_, rfl, hI2830, hF2834, _, rfl, by decide, ⟨by omega, by omega, by omega, by omega, c2855, by omega, by omega, (fun hbad => ⟨by omega, (PT.mk (fun h => by first | exact absurd h (by decide) | (exfalso; omega)) (fun h => by first | exact absurd h (by decide) | (exfalso; omega)) (fun h h9 => by first | exact absurd h (by decide) | (exfalso; omega)) (fun h => by first | exact absurd h (by decide) | (exfalso; omega)))⟩), (fun hbad => by omega), hK2864, (fun c0 b hC h => M.leafF h (TKM.some hK).choose_spec (by omega) (fun z => by have z1 := z.1; have z2 : (gI g0 231 20).toInt < 50 := z.2; omega) (fun _ => ⟨show (gI _ 231 14).toInt ≠ 0 from by omega, show (gI _ 231 13).toInt = (gI g0 231 9).toInt from by omega⟩) (fun z => absurd (show (gI g0 231 14).toInt = 0 from (by first | exact h2 | omega)) z) _)⟩⟩
              · have c2865_ : v2848.toInt = 0 := en_k_ne_f c2865
                obtain ⟨i2902, i2903, i2904⟩ := c2856 (by omega)
                obtain ⟨i2905, i2906⟩ := MUSTP.z mu2863 (by omega) (by omega)
                refine At.enter rfl ?_
                refine r_aload_n rfl ?_
                refine r_iload_n rfl ?_
                refine r_iload_n rfl ?_
                have x2907 := HI.eqI hI2830 (p := 231) (b := 17) ((((hF2831.1 231 17 mf_X11_must_231_231_17).trans ((hF1804.1 231 17 mf_X11_partAt_231_231_17).trans (hF1791.1 231 17 mf_X11_isSign_231_231_17))).trans hv7))
                refine r_callV 35 rfl [.ref 231, .int v1805, .int v2681] [] (Nat.le_of_ble_eq_true rfl) rfl (T_X11_emit_231 _ hI2830 v1805 v2681 (by omega)) ?_
                rintro _ _ ⟨g2908, rfl, hI2909, hF2910, rfl, hr2912⟩
                refine At.stn ?_
                have hF2913 := Fr.tr hF2834 hF2910 rfl rfl
                have x2915 := HI.eqI hI2830 (p := 231) (b := 23) ((((hF2831.1 231 23 mf_X11_must_231_231_23).trans ((hF1804.1 231 23 mf_X11_partAt_231_231_23).trans (hF1791.1 231 23 mf_X11_isSign_231_231_23))).trans hv8))
                obtain ⟨v2916, hv2916⟩ : ∃ v, gI g2908 231 17 = v := ⟨_, rfl⟩
                have rv2916 := RgF.at hI2909.2.1 (p := 231) (b := 17) rfl
                rw [hv2916] at rv2916
                dsimp only at rv2916
                have tv2916 := congrArg Int32.toInt hv2916
                have y2918 : (gI _ 231 17).toInt = (gI _ 231 17).toInt + 1 := hr2912.1
                have pg2920 := PG.cong (hP.1 (by decide)) hI2830 (((hF2831.2.1 238 ma_X11_must_231_238).trans ((hF1804.2.1 238 ma_X11_partAt_231_238).trans (hF1791.2.1 238 ma_X11_isSign_231_238)))) (((hF2831.2.1 239 ma_X11_must_231_239).trans ((hF1804.2.1 239 ma_X11_partAt_231_239).trans (hF1791.2.1 239 ma_X11_isSign_231_239)))) (((hF2831.2.1 240 ma_X11_must_231_240).trans ((hF1804.2.1 240 ma_X11_partAt_231_240).trans (hF1791.2.1 240 ma_X11_isSign_231_240)))) (((hF2831.2.1 241 ma_X11_must_231_241).trans ((hF1804.2.1 241 ma_X11_partAt_231_241).trans (hF1791.2.1 241 ma_X11_isSign_231_241)))) (((hF2831.1 231 17 mf_X11_must_231_231_17).trans ((hF1804.1 231 17 mf_X11_partAt_231_231_17).trans (hF1791.1 231 17 mf_X11_isSign_231_231_17)))) (((hF2831.1 231 23 mf_X11_must_231_231_23).trans ((hF1804.1 231 23 mf_X11_partAt_231_231_23).trans (hF1791.1 231 23 mf_X11_isSign_231_231_23))))
                have pg2919 := PG.emit (e' := 1) pg2920 hr2912 (hF2910.2.1 240 ma_X11_emit_231_240) (hF2910.2.1 241 ma_X11_emit_231_241) (hF2910.1 231 23 mf_X11_emit_231_231_23) (Or.inl ⟨by omega, by omega, by decide, by decide⟩)
                refine At.enter rfl ?_
                refine r_aload_n rfl ?_
                refine r_dup rfl ?_
                refine q_getI (Sh.int hI2909.1 kx_231 rfl) v2682 (((hF2910.1 231 20 mf_X11_emit_231_231_20).trans ((hF2831.1 231 20 mf_X11_must_231_231_20).trans ((hF1804.1 231 20 mf_X11_partAt_231_231_20).trans (hF1791.1 231 20 mf_X11_isSign_231_231_20)))).trans hv2682) ?_
                refine r_iconst 1 rfl ?_
                have bv2921 := q_bnd v2682
                refine q_iadd (v2682.toInt + 1) rfl (by omega) (fun v2922 hv2922 => ?_)
                refine q_putI (Sh.int hI2909.1 kx_231 rfl) rfl ?_
                have hI2923 := HI.wI0 hI2909 kx_231 rfl (p := 231) (b := 20) (v := v2922) rfl
                have hF2924 := Fr.wI (p := 231) (b := 20) (v := v2922) hF2913 rfl
                refine Ar.fall 45 rfl ?_
                refine At.enter rfl ?_
                refine q_vret ?_
                refine At.enter rfl ?_
                refine r_iconst 3 rfl ?_
                refine r_ireti ?_
                have x2925 := HI.eqI hI2923 (p := 231) (b := 8) ((((gI_sI_ne (by decide)).trans ((hF2910.1 231 8 mf_X11_emit_231_231_8).trans ((hF2831.1 231 8 mf_X11_must_231_231_8).trans ((hF1804.1 231 8 mf_X11_partAt_231_231_8).trans (hF1791.1 231 8 mf_X11_isSign_231_231_8))))).trans hv1))
                have x2926 := HI.eqI hI2923 (p := 231) (b := 9) ((((gI_sI_ne (by decide)).trans (hF2910.1 231 9 mf_X11_emit_231_231_9)).trans hv2842))
                have x2927 := HI.eqI hI2923 (p := 231) (b := 10) ((((gI_sI_ne (by decide)).trans (hF2910.1 231 10 mf_X11_emit_231_231_10)).trans hv2844))
                have x2928 := HI.eqI hI2923 (p := 231) (b := 11) ((((gI_sI_ne (by decide)).trans (hF2910.1 231 11 mf_X11_emit_231_231_11)).trans hv2846))
                obtain ⟨v2929, hv2929⟩ : ∃ v, gJ g2829 231 12 = v := ⟨_, rfl⟩
                have x2930 := HI.eqJ hI2923 (b := 12) ((((gJ_sI_ne (by decide)).trans (hF2910.2.2 231 12 mf_X11_emit_231_231_12)).trans hv2929))
                have x2931 := HI.eqI hI2923 (p := 231) (b := 14) ((((gI_sI_ne (by decide)).trans (hF2910.1 231 14 mf_X11_emit_231_231_14)).trans hv2848))
                have x2932 := HI.eqI hI2923 (p := 231) (b := 17) (((gI_sI_ne (by decide)).trans hv2916))
                have x2933 := HI.eqI hI2923 (p := 231) (b := 23) ((((gI_sI_ne (by decide)).trans ((hF2910.1 231 23 mf_X11_emit_231_231_23).trans ((hF2831.1 231 23 mf_X11_must_231_231_23).trans ((hF1804.1 231 23 mf_X11_partAt_231_231_23).trans (hF1791.1 231 23 mf_X11_isSign_231_231_23))))).trans hv8))
                have zv2935 : (3 : Int32).toInt = 3 := rfl
                have pg2936 := PG.cong pg2919 hI2923 ((gA_sI)) ((gA_sI)) ((gA_sI)) ((gA_sI)) ((gI_sI_ne (by decide))) ((gI_sI_ne (by decide)))
                have w262937 := W26.cong c2855 hI2923 (((gI_sI_ne (by decide)).trans (hF2910.1 231 9 mf_X11_emit_231_231_9))) (((gI_sI_ne (by decide)).trans (hF2910.1 231 10 mf_X11_emit_231_231_10))) (((gI_sI_ne (by decide)).trans (hF2910.1 231 11 mf_X11_emit_231_231_11))) (((gJ_sI_ne (by decide)).trans (hF2910.2.2 231 12 mf_X11_emit_231_231_12)))
                have x2939 := HI.eqI hI2923 (p := 231) (b := 13) ((((gI_sI_ne (by decide)).trans (hF2910.1 231 13 mf_X11_emit_231_231_13)).trans hv2861))
                obtain ⟨v2941, hv2941⟩ : ∃ v, gI g0 231 15 = v := ⟨_, rfl⟩
                have rv2941 := RgF.at hI0.2.1 (p := 231) (b := 15) rfl
                rw [hv2941] at rv2941
                dsimp only at rv2941
                have tv2941 := congrArg Int32.toInt hv2941
                have x2942 := HI.eqI hI2923 (p := 231) (b := 15) ((((gI_sI_ne (by decide)).trans ((hF2910.1 231 15 mf_X11_emit_231_231_15).trans ((hF2831.1 231 15 mf_X11_must_231_231_15).trans ((hF1804.1 231 15 mf_X11_partAt_231_231_15).trans (hF1791.1 231 15 mf_X11_isSign_231_231_15))))).trans hv2941))
                have x2943 := HI.eqI hI2923 (p := 231) (b := 20) ((gI_sI_eq hI2909.1 kx_231 rfl _))
                obtain ⟨v2945, hv2945⟩ : ∃ v, gI g0 231 24 = v := ⟨_, rfl⟩
                have tv2945 := congrArg Int32.toInt hv2945
                have x2946 := HI.eqI hI2923 (p := 231) (b := 24) ((((gI_sI_ne (by decide)).trans ((hF2910.1 231 24 mf_X11_emit_231_231_24).trans ((hF2831.1 231 24 mf_X11_must_231_231_24).trans ((hF1804.1 231 24 mf_X11_partAt_231_231_24).trans (hF1791.1 231 24 mf_X11_isSign_231_231_24))))).trans hv2945))
                have x2951 := HI.eqI hI0 (p := 231) (b := 20) (hv2682)
                have lp := pa1810
                unfold PAI at lp
                have ld := CDM.dig hK
                have y2954 : pI g0 11 = (gI g0 231 11).toInt := rfl
                have y2955 : wth g0 = (gJ g0 231 12).toInt := rfl
                have x2957 := HI.eqJ hI0 (b := 12) (hv5)
                have y2962 : (gI g2829 231 13).toInt = (gI g0 231 13).toInt := (mu2863.2.1 (show (gI g0 231 14).toInt = 0 from by omega) (by omega)).2.1
                exact ⟨_, rfl, hI2923, hF2924, _, rfl, by decide, ⟨by omega, by omega, by omega, by omega, w262937, by omega, by omega, (fun hbad => ⟨by omega, (PT.mk (fun h => by first | exact absurd h (by decide) | (exfalso; omega)) (fun _ => pg2936) (fun h h9 => by first | exact absurd h (by decide) | (exfalso; omega)) (fun h => by first | exact absurd h (by decide) | (exfalso; omega)))⟩), (fun hbad => by omega), (TKM.c hK2864 (((gA_sI).trans (hF2910.2.1 236 ma_X11_emit_231_236))) (((gI_sI_ne (by decide)).trans (hF2910.1 231 8 mf_X11_emit_231_231_8))) (((gI_sI_ne (by decide)).trans (hF2910.1 231 9 mf_X11_emit_231_231_9))) (((gI_sI_ne (by decide)).trans (hF2910.1 231 10 mf_X11_emit_231_231_10))) (((gI_sI_ne (by decide)).trans (hF2910.1 231 11 mf_X11_emit_231_231_11))) (((gJ_sI_ne (by decide)).trans (hF2910.2.2 231 12 mf_X11_emit_231_231_12)))), (fun c0 b hC h => M.leaf h (by rw [pI.c (((gI_sI_ne (by decide)).trans (hF2910.1 231 9 mf_X11_emit_231_231_9)))]; exact (MUSTP.tok hK mu2863 (by omega) (by omega))) (by omega) (show (gI g0 231 20).toInt < 50 from by omega) (((gA_sI).trans ((hF2910.2.1 240 ma_X11_emit_231_240).trans ((hF2831.2.1 240 ma_X11_must_231_240).trans ((hF1804.2.1 240 ma_X11_partAt_231_240).trans (hF1791.2.1 240 ma_X11_isSign_231_240)))))) (show (gI _ 231 23).toInt = (gI g0 231 23).toInt from (by first | exact x2933.trans tv8.symm | omega)) (show (gI _ 231 24).toInt = (gI g0 231 24).toInt from (by first | exact x2946.trans tv2945.symm | omega)) (show (gI _ 231 20).toInt = (gI g0 231 20).toInt + 1 from by omega) (show (gI _ 231 15).toInt = (gI g0 231 15).toInt from (by first | exact x2942.trans tv2941.symm | omega)) (fun _ => ⟨show (gI _ 231 14).toInt = 0 from by omega, show (gI _ 231 13).toInt = (gI g0 231 13).toInt from by omega⟩) (fun z => absurd (show (gI g0 231 14).toInt = 0 from (by first | exact h2 | omega)) z))⟩⟩
          · have c2680_ : v1805.toInt = (-1) := en_i_ne_f c2680
            exfalso; omega
        · have c2679_ : v1805.toInt = (-1) := en_i_ne_f c2679
          refine At.enter rfl ?_
          refine r_iload_n rfl ?_
          refine r_iff 57 rfl (by decide) ?_
          refine At.enter rfl ?_
          refine r_iconst 1 rfl ?_
          refine r_goto ?_
          refine At.enter rfl ?_
          refine r_iload_n rfl ?_
          refine r_iconst (-1) rfl ?_
          refine r_ics 67 rfl (fun c2963 => ?_) (fun c2963 => ?_)
          · have c2963_ : v1805.toInt ≠ (-1) := en_i_ne_t c2963
            exfalso; omega
          · have c2963_ : v1805.toInt = (-1) := en_i_ne_f c2963
            refine At.enter rfl ?_
            refine r_iconst 0 rfl ?_
            refine r_goto ?_
            refine At.enter rfl ?_
            refine r_iload_n rfl ?_
            refine r_iff 76 rfl (by decide) ?_
            refine At.enter rfl ?_
            refine r_aload_n rfl ?_
            refine q_getJv (Sh.long hI1803.1 kx_231 rfl) v5 (((hF1804.2.2 231 12 mf_X11_partAt_231_231_12).trans (hF1791.2.2 231 12 mf_X11_isSign_231_231_12)).trans hv5) ?_
            refine q_l2iO (fun v2964 hv2964 => ?_)
            refine r_goto ?_
            refine At.enter rfl ?_
            refine q_inlV 88 rfl [.ref 231, .int 1, .int 0, .int v2964] [] (Nat.le_of_ble_eq_true rfl) rfl ?_
            refine Ev.mk rfl rfl ⟨Nat.le_of_ble_eq_true rfl, Or.inr (q_rc hI1803.1 kx_231 rfl)⟩ ?_
            show At _ none _ _ (0, [(0, .ref 231), (1, .int 1), (2, .int 0), (3, .int v2964)], [], (_, _)) _
            refine At.enter rfl ?_
            refine r_aload_n rfl ?_
            refine r_iload_n rfl ?_
            refine r_iff 5 rfl (by decide) ?_
            refine At.enter rfl ?_
            refine r_aload_n rfl ?_
            obtain ⟨v2965, hv2965⟩ : ∃ v, gI g0 231 20 = v := ⟨_, rfl⟩
            refine q_getI (Sh.int hI1803.1 kx_231 rfl) v2965 (((hF1804.1 231 20 mf_X11_partAt_231_231_20).trans (hF1791.1 231 20 mf_X11_isSign_231_231_20)).trans hv2965) ?_
            refine r_bipush 50 rfl ?_
            refine r_ics 14 rfl (fun c2966 => ?_) (fun c2966 => ?_)
            · have c2966_ : v2965.toInt ≥ 50 := en_i_ge_t c2966
              refine At.enter rfl ?_
              refine r_iconst 0 rfl ?_
              refine Ar.fall 19 rfl ?_
              refine At.enter rfl ?_
              have x2967 := HI.eqI hI1803 (p := 231) (b := 8) ((((hF1804.1 231 8 mf_X11_partAt_231_231_8).trans (hF1791.1 231 8 mf_X11_isSign_231_231_8)).trans hv1))
              have x2968 := HI.eqI hI1803 (p := 231) (b := 9) ((((hF1804.1 231 9 mf_X11_partAt_231_231_9).trans (hF1791.1 231 9 mf_X11_isSign_231_231_9)).trans hv2))
              have x2969 := HI.eqI hI1803 (p := 231) (b := 10) ((((hF1804.1 231 10 mf_X11_partAt_231_231_10).trans (hF1791.1 231 10 mf_X11_isSign_231_231_10)).trans hv3))
              have w262971 := W26.cong hW hI1803 (((hF1804.1 231 9 mf_X11_partAt_231_231_9).trans (hF1791.1 231 9 mf_X11_isSign_231_231_9))) (((hF1804.1 231 10 mf_X11_partAt_231_231_10).trans (hF1791.1 231 10 mf_X11_isSign_231_231_10))) (((hF1804.1 231 11 mf_X11_partAt_231_231_11).trans (hF1791.1 231 11 mf_X11_isSign_231_231_11))) (((hF1804.2.2 231 12 mf_X11_partAt_231_231_12).trans (hF1791.2.2 231 12 mf_X11_isSign_231_231_12)))
              have zv2972 : (0 : Int32).toInt = 0 := rfl
              refine r_callV 22 rfl [.ref 231, .int 0] [] (Nat.le_of_ble_eq_true rfl) rfl (T_X11_must_231 _ hI1803 0 (by decide) (by refine ⟨?_, ?_, ?_, ?_⟩ <;> omega) w262971 (TKM.c hK (((hF1804.2.1 236 ma_X11_partAt_231_236).trans (hF1791.2.1 236 ma_X11_isSign_231_236))) (((hF1804.1 231 8 mf_X11_partAt_231_231_8).trans (hF1791.1 231 8 mf_X11_isSign_231_231_8))) (((hF1804.1 231 9 mf_X11_partAt_231_231_9).trans (hF1791.1 231 9 mf_X11_isSign_231_231_9))) (((hF1804.1 231 10 mf_X11_partAt_231_231_10).trans (hF1791.1 231 10 mf_X11_isSign_231_231_10))) (((hF1804.1 231 11 mf_X11_partAt_231_231_11).trans (hF1791.1 231 11 mf_X11_isSign_231_231_11))) (((hF1804.2.2 231 12 mf_X11_partAt_231_231_12).trans (hF1791.2.2 231 12 mf_X11_isSign_231_231_12))))) ?_
              rintro _ _ ⟨g2973, rfl, hI2974, hF2975, rfl, hr2977⟩
              refine At.stn ?_
              have hF2978 := Fr.tr hF1807 hF2975 rfl rfl
              have x2984 := HI.eqI hI1803 (p := 231) (b := 14) ((((hF1804.1 231 14 mf_X11_partAt_231_231_14).trans (hF1791.1 231 14 mf_X11_isSign_231_231_14)).trans hv6))
              have x2985 := HI.eqI hI2974 (p := 231) (b := 8) ((((hF2975.1 231 8 mf_X11_must_231_231_8).trans ((hF1804.1 231 8 mf_X11_partAt_231_231_8).trans (hF1791.1 231 8 mf_X11_isSign_231_231_8))).trans hv1))
              obtain ⟨v2986, hv2986⟩ : ∃ v, gI g2973 231 9 = v := ⟨_, rfl⟩
              have rv2986 := RgF.at hI2974.2.1 (p := 231) (b := 9) rfl
              rw [hv2986] at rv2986
              dsimp only at rv2986
              have tv2986 := congrArg Int32.toInt hv2986
              obtain ⟨v2988, hv2988⟩ : ∃ v, gI g2973 231 10 = v := ⟨_, rfl⟩
              have rv2988 := RgF.at hI2974.2.1 (p := 231) (b := 10) rfl
              rw [hv2988] at rv2988
              dsimp only at rv2988
              have tv2988 := congrArg Int32.toInt hv2988
              obtain ⟨v2990, hv2990⟩ : ∃ v, gI g2973 231 11 = v := ⟨_, rfl⟩
              have tv2990 := congrArg Int32.toInt hv2990
              obtain ⟨v2992, hv2992⟩ : ∃ v, gI g2973 231 14 = v := ⟨_, rfl⟩
              have tv2992 := congrArg Int32.toInt hv2992
              obtain ⟨c2994, c2995, c2996, c2997, c2998, c2999, c3000, c3001⟩ := hr2977
              obtain ⟨v3002, hv3002⟩ : ∃ v, gI g0 231 13 = v := ⟨_, rfl⟩
              have tv3002 := congrArg Int32.toInt hv3002
              have x3003 := HI.eqI hI1803 (p := 231) (b := 13) ((((hF1804.1 231 13 mf_X11_partAt_231_231_13).trans (hF1791.1 231 13 mf_X11_isSign_231_231_13)).trans hv3002))
              obtain ⟨v3005, hv3005⟩ : ∃ v, gI g2973 231 13 = v := ⟨_, rfl⟩
              have tv3005 := congrArg Int32.toInt hv3005
              unfold MUSTP at c3001
              rw [TM.c (((hF1804.2.1 236 ma_X11_partAt_231_236).trans (hF1791.2.1 236 ma_X11_isSign_231_236))), nM.c (((hF1804.1 231 8 mf_X11_partAt_231_231_8).trans (hF1791.1 231 8 mf_X11_isSign_231_231_8))), pI.c (b := 14) (((hF1804.1 231 14 mf_X11_partAt_231_231_14).trans (hF1791.1 231 14 mf_X11_isSign_231_231_14))), pI.c (b := 13) (((hF1804.1 231 13 mf_X11_partAt_231_231_13).trans (hF1791.1 231 13 mf_X11_isSign_231_231_13))), pI.c (b := 10) (((hF1804.1 231 10 mf_X11_partAt_231_231_10).trans (hF1791.1 231 10 mf_X11_isSign_231_231_10))), pI.c (b := 9) (((hF1804.1 231 9 mf_X11_partAt_231_231_9).trans (hF1791.1 231 9 mf_X11_isSign_231_231_9)))] at c3001
              have mu3007 : MUSTP g0 g2973 0 := c3001
              clear c3001
              have hK3008 := mu3007.1
              refine At.enter rfl ?_
              refine r_aload_n rfl ?_
              refine q_getI (Sh.int hI2974.1 kx_231 rfl) v2992 hv2992 ?_
              refine r_ifs 29 rfl (fun c3009 => ?_) (fun c3009 => ?_)
              · have c3009_ : v2992.toInt ≠ 0 := en_k_ne_t c3009
                clear c3000
                obtain ⟨i3010, i3011⟩ := MUSTP.y mu3007 (by omega) (by omega)
                refine At.enter rfl ?_
                refine q_vret ?_
                refine At.enter rfl ?_
                refine r_iconst 3 rfl ?_
                refine r_ireti ?_
                obtain ⟨v3016, hv3016⟩ : ∃ v, gJ g2973 231 12 = v := ⟨_, rfl⟩
                have x3017 := HI.eqJ hI2974 (b := 12) (hv3016)
                have x3019 := HI.eqI hI2974 (p := 231) (b := 17) ((((hF2975.1 231 17 mf_X11_must_231_231_17).trans ((hF1804.1 231 17 mf_X11_partAt_231_231_17).trans (hF1791.1 231 17 mf_X11_isSign_231_231_17))).trans hv7))
                have x3020 := HI.eqI hI2974 (p := 231) (b := 23) ((((hF2975.1 231 23 mf_X11_must_231_231_23).trans ((hF1804.1 231 23 mf_X11_partAt_231_231_23).trans (hF1791.1 231 23 mf_X11_isSign_231_231_23))).trans hv8))
                have zv3022 : (3 : Int32).toInt = 3 := rfl
                obtain ⟨v3026, hv3026⟩ : ∃ v, gI g0 231 15 = v := ⟨_, rfl⟩
                have rv3026 := RgF.at hI0.2.1 (p := 231) (b := 15) rfl
                rw [hv3026] at rv3026
                dsimp only at rv3026
                have tv3026 := congrArg Int32.toInt hv3026
                have x3027 := HI.eqI hI2974 (p := 231) (b := 15) ((((hF2975.1 231 15 mf_X11_must_231_231_15).trans ((hF1804.1 231 15 mf_X11_partAt_231_231_15).trans (hF1791.1 231 15 mf_X11_isSign_231_231_15))).trans hv3026))
                have x3028 := HI.eqI hI2974 (p := 231) (b := 20) ((((hF2975.1 231 20 mf_X11_must_231_231_20).trans ((hF1804.1 231 20 mf_X11_partAt_231_231_20).trans (hF1791.1 231 20 mf_X11_isSign_231_231_20))).trans hv2965))
                obtain ⟨v3030, hv3030⟩ : ∃ v, gI g0 231 24 = v := ⟨_, rfl⟩
                have tv3030 := congrArg Int32.toInt hv3030
                have x3031 := HI.eqI hI2974 (p := 231) (b := 24) ((((hF2975.1 231 24 mf_X11_must_231_231_24).trans ((hF1804.1 231 24 mf_X11_partAt_231_231_24).trans (hF1791.1 231 24 mf_X11_isSign_231_231_24))).trans hv3030))
                have x3036 := HI.eqI hI0 (p := 231) (b := 20) (hv2965)
                have lp := pa1810
                unfold PAI at lp
                have ld := CDM.dig hK
                have y3039 : pI g0 11 = (gI g0 231 11).toInt := rfl
                have y3040 : wth g0 = (gJ g0 231 12).toInt := rfl
                have x3042 := HI.eqJ hI0 (b := 12) (hv5)
                have mf3043 := mu3007.2.2.1 (show (gI g0 231 14).toInt = 0 from by omega) (by omega)
                have y3044 : (gI _ 231 14).toInt ≠ 0 := mf3043.1
                have y3045 : (gI _ 231 13).toInt = (gI g0 231 9).toInt := mf3043.2
                exact ⟨_, rfl, hI2974, hF2978, _, rfl, by decide, ⟨by omega, by omega, by omega, by omega, c2999, by omega, by omega, (fun hbad => ⟨by omega, (PT.mk (fun h => by first | exact absurd h (by decide) | (exfalso; omega)) (fun h => by first | exact absurd h (by decide) | (exfalso; omega)) (fun h h9 => by first | exact absurd h (by decide) | (exfalso; omega)) (fun h => by first | exact absurd h (by decide) | (exfalso; omega)))⟩), (fun hbad => by omega), hK3008, (fun c0 b hC h => M.leafF h (TKM.some hK).choose_spec (by omega) (fun z => by have z1 := z.1; have z2 : (gI g0 231 20).toInt < 50 := z.2; omega) (fun _ => ⟨show (gI _ 231 14).toInt ≠ 0 from by omega, show (gI _ 231 13).toInt = (gI g0 231 9).toInt from by omega⟩) (fun z => absurd (show (gI g0 231 14).toInt = 0 from (by first | exact h2 | omega)) z) _)⟩⟩
              · have c3009_ : v2992.toInt = 0 := en_k_ne_f c3009
                obtain ⟨i3046, i3047, i3048⟩ := c3000 (by omega)
                obtain ⟨i3049, i3050⟩ := MUSTP.z mu3007 (by omega) (by omega)
                refine At.enter rfl ?_
                refine r_aload_n rfl ?_
                refine r_iload_n rfl ?_
                refine r_iload_n rfl ?_
                have x3051 := HI.eqI hI2974 (p := 231) (b := 17) ((((hF2975.1 231 17 mf_X11_must_231_231_17).trans ((hF1804.1 231 17 mf_X11_partAt_231_231_17).trans (hF1791.1 231 17 mf_X11_isSign_231_231_17))).trans hv7))
                refine r_callV 35 rfl [.ref 231, .int 0, .int v2964] [] (Nat.le_of_ble_eq_true rfl) rfl (T_X11_emit_231 _ hI2974 0 v2964 (by omega)) ?_
                rintro _ _ ⟨g3053, rfl, hI3054, hF3055, rfl, hr3057⟩
                refine At.stn ?_
                have hF3058 := Fr.tr hF2978 hF3055 rfl rfl
                have x3061 := HI.eqI hI2974 (p := 231) (b := 23) ((((hF2975.1 231 23 mf_X11_must_231_231_23).trans ((hF1804.1 231 23 mf_X11_partAt_231_231_23).trans (hF1791.1 231 23 mf_X11_isSign_231_231_23))).trans hv8))
                obtain ⟨v3062, hv3062⟩ : ∃ v, gI g3053 231 17 = v := ⟨_, rfl⟩
                have rv3062 := RgF.at hI3054.2.1 (p := 231) (b := 17) rfl
                rw [hv3062] at rv3062
                dsimp only at rv3062
                have tv3062 := congrArg Int32.toInt hv3062
                have y3064 : (gI _ 231 17).toInt = (gI _ 231 17).toInt + 1 := hr3057.1
                have pg3066 := PG.cong (hP.1 (by decide)) hI2974 (((hF2975.2.1 238 ma_X11_must_231_238).trans ((hF1804.2.1 238 ma_X11_partAt_231_238).trans (hF1791.2.1 238 ma_X11_isSign_231_238)))) (((hF2975.2.1 239 ma_X11_must_231_239).trans ((hF1804.2.1 239 ma_X11_partAt_231_239).trans (hF1791.2.1 239 ma_X11_isSign_231_239)))) (((hF2975.2.1 240 ma_X11_must_231_240).trans ((hF1804.2.1 240 ma_X11_partAt_231_240).trans (hF1791.2.1 240 ma_X11_isSign_231_240)))) (((hF2975.2.1 241 ma_X11_must_231_241).trans ((hF1804.2.1 241 ma_X11_partAt_231_241).trans (hF1791.2.1 241 ma_X11_isSign_231_241)))) (((hF2975.1 231 17 mf_X11_must_231_231_17).trans ((hF1804.1 231 17 mf_X11_partAt_231_231_17).trans (hF1791.1 231 17 mf_X11_isSign_231_231_17)))) (((hF2975.1 231 23 mf_X11_must_231_231_23).trans ((hF1804.1 231 23 mf_X11_partAt_231_231_23).trans (hF1791.1 231 23 mf_X11_isSign_231_231_23))))
                have pg3065 := PG.emit (e' := 1) pg3066 hr3057 (hF3055.2.1 240 ma_X11_emit_231_240) (hF3055.2.1 241 ma_X11_emit_231_241) (hF3055.1 231 23 mf_X11_emit_231_231_23) (Or.inl ⟨by omega, by omega, by decide, by decide⟩)
                refine At.enter rfl ?_
                refine r_aload_n rfl ?_
                refine r_dup rfl ?_
                refine q_getI (Sh.int hI3054.1 kx_231 rfl) v2965 (((hF3055.1 231 20 mf_X11_emit_231_231_20).trans ((hF2975.1 231 20 mf_X11_must_231_231_20).trans ((hF1804.1 231 20 mf_X11_partAt_231_231_20).trans (hF1791.1 231 20 mf_X11_isSign_231_231_20)))).trans hv2965) ?_
                refine r_iconst 1 rfl ?_
                refine q_iaddO (fun v3067 _ => ?_)
                refine q_putI (Sh.int hI3054.1 kx_231 rfl) rfl ?_
                have hI3068 := HI.wI0 hI3054 kx_231 rfl (p := 231) (b := 20) (v := v3067) rfl
                have hF3069 := Fr.wI (p := 231) (b := 20) (v := v3067) hF3058 rfl
                refine Ar.fall 45 rfl ?_
                refine At.enter rfl ?_
                refine q_vret ?_
                refine At.enter rfl ?_
                refine r_iconst 3 rfl ?_
                refine r_ireti ?_
                have x3070 := HI.eqI hI3068 (p := 231) (b := 8) ((((gI_sI_ne (by decide)).trans ((hF3055.1 231 8 mf_X11_emit_231_231_8).trans ((hF2975.1 231 8 mf_X11_must_231_231_8).trans ((hF1804.1 231 8 mf_X11_partAt_231_231_8).trans (hF1791.1 231 8 mf_X11_isSign_231_231_8))))).trans hv1))
                have x3071 := HI.eqI hI3068 (p := 231) (b := 9) ((((gI_sI_ne (by decide)).trans (hF3055.1 231 9 mf_X11_emit_231_231_9)).trans hv2986))
                have x3072 := HI.eqI hI3068 (p := 231) (b := 10) ((((gI_sI_ne (by decide)).trans (hF3055.1 231 10 mf_X11_emit_231_231_10)).trans hv2988))
                have x3073 := HI.eqI hI3068 (p := 231) (b := 11) ((((gI_sI_ne (by decide)).trans (hF3055.1 231 11 mf_X11_emit_231_231_11)).trans hv2990))
                obtain ⟨v3074, hv3074⟩ : ∃ v, gJ g2973 231 12 = v := ⟨_, rfl⟩
                have x3075 := HI.eqJ hI3068 (b := 12) ((((gJ_sI_ne (by decide)).trans (hF3055.2.2 231 12 mf_X11_emit_231_231_12)).trans hv3074))
                have x3076 := HI.eqI hI3068 (p := 231) (b := 14) ((((gI_sI_ne (by decide)).trans (hF3055.1 231 14 mf_X11_emit_231_231_14)).trans hv2992))
                have x3077 := HI.eqI hI3068 (p := 231) (b := 17) (((gI_sI_ne (by decide)).trans hv3062))
                have x3078 := HI.eqI hI3068 (p := 231) (b := 23) ((((gI_sI_ne (by decide)).trans ((hF3055.1 231 23 mf_X11_emit_231_231_23).trans ((hF2975.1 231 23 mf_X11_must_231_231_23).trans ((hF1804.1 231 23 mf_X11_partAt_231_231_23).trans (hF1791.1 231 23 mf_X11_isSign_231_231_23))))).trans hv8))
                have zv3080 : (3 : Int32).toInt = 3 := rfl
                have pg3081 := PG.cong pg3065 hI3068 ((gA_sI)) ((gA_sI)) ((gA_sI)) ((gA_sI)) ((gI_sI_ne (by decide))) ((gI_sI_ne (by decide)))
                have w263082 := W26.cong c2999 hI3068 (((gI_sI_ne (by decide)).trans (hF3055.1 231 9 mf_X11_emit_231_231_9))) (((gI_sI_ne (by decide)).trans (hF3055.1 231 10 mf_X11_emit_231_231_10))) (((gI_sI_ne (by decide)).trans (hF3055.1 231 11 mf_X11_emit_231_231_11))) (((gJ_sI_ne (by decide)).trans (hF3055.2.2 231 12 mf_X11_emit_231_231_12)))
                have x3084 := HI.eqI hI3068 (p := 231) (b := 13) ((((gI_sI_ne (by decide)).trans (hF3055.1 231 13 mf_X11_emit_231_231_13)).trans hv3005))
                obtain ⟨v3086, hv3086⟩ : ∃ v, gI g0 231 15 = v := ⟨_, rfl⟩
                have rv3086 := RgF.at hI0.2.1 (p := 231) (b := 15) rfl
                rw [hv3086] at rv3086
                dsimp only at rv3086
                have tv3086 := congrArg Int32.toInt hv3086
                have x3087 := HI.eqI hI3068 (p := 231) (b := 15) ((((gI_sI_ne (by decide)).trans ((hF3055.1 231 15 mf_X11_emit_231_231_15).trans ((hF2975.1 231 15 mf_X11_must_231_231_15).trans ((hF1804.1 231 15 mf_X11_partAt_231_231_15).trans (hF1791.1 231 15 mf_X11_isSign_231_231_15))))).trans hv3086))
                have x3088 := HI.eqI hI3068 (p := 231) (b := 20) ((gI_sI_eq hI3054.1 kx_231 rfl _))
                obtain ⟨v3090, hv3090⟩ : ∃ v, gI g0 231 24 = v := ⟨_, rfl⟩
                have tv3090 := congrArg Int32.toInt hv3090
                have x3091 := HI.eqI hI3068 (p := 231) (b := 24) ((((gI_sI_ne (by decide)).trans ((hF3055.1 231 24 mf_X11_emit_231_231_24).trans ((hF2975.1 231 24 mf_X11_must_231_231_24).trans ((hF1804.1 231 24 mf_X11_partAt_231_231_24).trans (hF1791.1 231 24 mf_X11_isSign_231_231_24))))).trans hv3090))
                have x3096 := HI.eqI hI0 (p := 231) (b := 20) (hv2965)
                have lp := pa1810
                unfold PAI at lp
                have ld := CDM.dig hK
                have y3099 : pI g0 11 = (gI g0 231 11).toInt := rfl
                have y3100 : wth g0 = (gJ g0 231 12).toInt := rfl
                have x3102 := HI.eqJ hI0 (b := 12) (hv5)
                have y3107 : (gI g2973 231 13).toInt = (gI g0 231 13).toInt := (mu3007.2.1 (show (gI g0 231 14).toInt = 0 from by omega) (by omega)).2.1
                exact ⟨_, rfl, hI3068, hF3069, _, rfl, by decide, ⟨by omega, by omega, by omega, by omega, w263082, by omega, by omega, (fun hbad => ⟨by omega, (PT.mk (fun h => by first | exact absurd h (by decide) | (exfalso; omega)) (fun _ => pg3081) (fun h h9 => by first | exact absurd h (by decide) | (exfalso; omega)) (fun h => by first | exact absurd h (by decide) | (exfalso; omega)))⟩), (fun hbad => by omega), (TKM.c hK3008 (((gA_sI).trans (hF3055.2.1 236 ma_X11_emit_231_236))) (((gI_sI_ne (by decide)).trans (hF3055.1 231 8 mf_X11_emit_231_231_8))) (((gI_sI_ne (by decide)).trans (hF3055.1 231 9 mf_X11_emit_231_231_9))) (((gI_sI_ne (by decide)).trans (hF3055.1 231 10 mf_X11_emit_231_231_10))) (((gI_sI_ne (by decide)).trans (hF3055.1 231 11 mf_X11_emit_231_231_11))) (((gJ_sI_ne (by decide)).trans (hF3055.2.2 231 12 mf_X11_emit_231_231_12)))), (fun c0 b hC h => M.leaf h (by rw [pI.c (((gI_sI_ne (by decide)).trans (hF3055.1 231 9 mf_X11_emit_231_231_9)))]; exact (MUSTP.tok hK mu3007 (by omega) (by omega))) (by omega) (show (gI g0 231 20).toInt < 50 from by omega) (((gA_sI).trans ((hF3055.2.1 240 ma_X11_emit_231_240).trans ((hF2975.2.1 240 ma_X11_must_231_240).trans ((hF1804.2.1 240 ma_X11_partAt_231_240).trans (hF1791.2.1 240 ma_X11_isSign_231_240)))))) (show (gI _ 231 23).toInt = (gI g0 231 23).toInt from (by first | exact x3078.trans tv8.symm | omega)) (show (gI _ 231 24).toInt = (gI g0 231 24).toInt from (by first | exact x3091.trans tv3090.symm | omega)) (show (gI _ 231 20).toInt = (gI g0 231 20).toInt + 1 from by omega) (show (gI _ 231 15).toInt = (gI g0 231 15).toInt from (by first | exact x3087.trans tv3086.symm | omega)) (fun _ => ⟨show (gI _ 231 14).toInt = 0 from by omega, show (gI _ 231 13).toInt = (gI g0 231 13).toInt from by omega⟩) (fun z => absurd (show (gI g0 231 14).toInt = 0 from (by first | exact h2 | omega)) z))⟩⟩
            · have c2966_ : v2965.toInt < 50 := en_i_ge_f c2966
              refine At.enter rfl ?_
              refine r_iconst 1 rfl ?_
              refine r_goto ?_
              refine At.enter rfl ?_
              have x3108 := HI.eqI hI1803 (p := 231) (b := 8) ((((hF1804.1 231 8 mf_X11_partAt_231_231_8).trans (hF1791.1 231 8 mf_X11_isSign_231_231_8)).trans hv1))
              have x3109 := HI.eqI hI1803 (p := 231) (b := 9) ((((hF1804.1 231 9 mf_X11_partAt_231_231_9).trans (hF1791.1 231 9 mf_X11_isSign_231_231_9)).trans hv2))
              have x3110 := HI.eqI hI1803 (p := 231) (b := 10) ((((hF1804.1 231 10 mf_X11_partAt_231_231_10).trans (hF1791.1 231 10 mf_X11_isSign_231_231_10)).trans hv3))
              have w263112 := W26.cong hW hI1803 (((hF1804.1 231 9 mf_X11_partAt_231_231_9).trans (hF1791.1 231 9 mf_X11_isSign_231_231_9))) (((hF1804.1 231 10 mf_X11_partAt_231_231_10).trans (hF1791.1 231 10 mf_X11_isSign_231_231_10))) (((hF1804.1 231 11 mf_X11_partAt_231_231_11).trans (hF1791.1 231 11 mf_X11_isSign_231_231_11))) (((hF1804.2.2 231 12 mf_X11_partAt_231_231_12).trans (hF1791.2.2 231 12 mf_X11_isSign_231_231_12)))
              have zv3113 : (1 : Int32).toInt = 1 := rfl
              refine r_callV 22 rfl [.ref 231, .int 1] [] (Nat.le_of_ble_eq_true rfl) rfl (T_X11_must_231 _ hI1803 1 (by decide) (by refine ⟨?_, ?_, ?_, ?_⟩ <;> omega) w263112 (TKM.c hK (((hF1804.2.1 236 ma_X11_partAt_231_236).trans (hF1791.2.1 236 ma_X11_isSign_231_236))) (((hF1804.1 231 8 mf_X11_partAt_231_231_8).trans (hF1791.1 231 8 mf_X11_isSign_231_231_8))) (((hF1804.1 231 9 mf_X11_partAt_231_231_9).trans (hF1791.1 231 9 mf_X11_isSign_231_231_9))) (((hF1804.1 231 10 mf_X11_partAt_231_231_10).trans (hF1791.1 231 10 mf_X11_isSign_231_231_10))) (((hF1804.1 231 11 mf_X11_partAt_231_231_11).trans (hF1791.1 231 11 mf_X11_isSign_231_231_11))) (((hF1804.2.2 231 12 mf_X11_partAt_231_231_12).trans (hF1791.2.2 231 12 mf_X11_isSign_231_231_12))))) ?_
              rintro _ _ ⟨g3114, rfl, hI3115, hF3116, rfl, hr3118⟩
              refine At.stn ?_
              have hF3119 := Fr.tr hF1807 hF3116 rfl rfl
              have x3125 := HI.eqI hI1803 (p := 231) (b := 14) ((((hF1804.1 231 14 mf_X11_partAt_231_231_14).trans (hF1791.1 231 14 mf_X11_isSign_231_231_14)).trans hv6))
              have x3126 := HI.eqI hI3115 (p := 231) (b := 8) ((((hF3116.1 231 8 mf_X11_must_231_231_8).trans ((hF1804.1 231 8 mf_X11_partAt_231_231_8).trans (hF1791.1 231 8 mf_X11_isSign_231_231_8))).trans hv1))
              obtain ⟨v3127, hv3127⟩ : ∃ v, gI g3114 231 9 = v := ⟨_, rfl⟩
              have rv3127 := RgF.at hI3115.2.1 (p := 231) (b := 9) rfl
              rw [hv3127] at rv3127
              dsimp only at rv3127
              have tv3127 := congrArg Int32.toInt hv3127
              obtain ⟨v3129, hv3129⟩ : ∃ v, gI g3114 231 10 = v := ⟨_, rfl⟩
              have rv3129 := RgF.at hI3115.2.1 (p := 231) (b := 10) rfl
              rw [hv3129] at rv3129
              dsimp only at rv3129
              have tv3129 := congrArg Int32.toInt hv3129
              obtain ⟨v3131, hv3131⟩ : ∃ v, gI g3114 231 11 = v := ⟨_, rfl⟩
              have tv3131 := congrArg Int32.toInt hv3131
              obtain ⟨v3133, hv3133⟩ : ∃ v, gI g3114 231 14 = v := ⟨_, rfl⟩
              have tv3133 := congrArg Int32.toInt hv3133
              obtain ⟨c3135, c3136, c3137, c3138, c3139, c3140, c3141, c3142⟩ := hr3118
              obtain ⟨v3143, hv3143⟩ : ∃ v, gI g0 231 13 = v := ⟨_, rfl⟩
              have tv3143 := congrArg Int32.toInt hv3143
              have x3144 := HI.eqI hI1803 (p := 231) (b := 13) ((((hF1804.1 231 13 mf_X11_partAt_231_231_13).trans (hF1791.1 231 13 mf_X11_isSign_231_231_13)).trans hv3143))
              obtain ⟨v3146, hv3146⟩ : ∃ v, gI g3114 231 13 = v := ⟨_, rfl⟩
              have tv3146 := congrArg Int32.toInt hv3146
              unfold MUSTP at c3142
              rw [TM.c (((hF1804.2.1 236 ma_X11_partAt_231_236).trans (hF1791.2.1 236 ma_X11_isSign_231_236))), nM.c (((hF1804.1 231 8 mf_X11_partAt_231_231_8).trans (hF1791.1 231 8 mf_X11_isSign_231_231_8))), pI.c (b := 14) (((hF1804.1 231 14 mf_X11_partAt_231_231_14).trans (hF1791.1 231 14 mf_X11_isSign_231_231_14))), pI.c (b := 13) (((hF1804.1 231 13 mf_X11_partAt_231_231_13).trans (hF1791.1 231 13 mf_X11_isSign_231_231_13))), pI.c (b := 10) (((hF1804.1 231 10 mf_X11_partAt_231_231_10).trans (hF1791.1 231 10 mf_X11_isSign_231_231_10))), pI.c (b := 9) (((hF1804.1 231 9 mf_X11_partAt_231_231_9).trans (hF1791.1 231 9 mf_X11_isSign_231_231_9)))] at c3142
              have mu3148 : MUSTP g0 g3114 1 := c3142
              clear c3142
              have hK3149 := mu3148.1
              refine At.enter rfl ?_
              refine r_aload_n rfl ?_
              refine q_getI (Sh.int hI3115.1 kx_231 rfl) v3133 hv3133 ?_
              refine r_ifs 29 rfl (fun c3150 => ?_) (fun c3150 => ?_)
              · have c3150_ : v3133.toInt ≠ 0 := en_k_ne_t c3150
                clear c3141
                obtain ⟨i3151, i3152⟩ := MUSTP.y mu3148 (by omega) (by omega)
                refine At.enter rfl ?_
                refine q_vret ?_
                refine At.enter rfl ?_
                refine r_iconst 3 rfl ?_
                refine r_ireti ?_
                obtain ⟨v3157, hv3157⟩ : ∃ v, gJ g3114 231 12 = v := ⟨_, rfl⟩
                have x3158 := HI.eqJ hI3115 (b := 12) (hv3157)
                have x3160 := HI.eqI hI3115 (p := 231) (b := 17) ((((hF3116.1 231 17 mf_X11_must_231_231_17).trans ((hF1804.1 231 17 mf_X11_partAt_231_231_17).trans (hF1791.1 231 17 mf_X11_isSign_231_231_17))).trans hv7))
                have x3161 := HI.eqI hI3115 (p := 231) (b := 23) ((((hF3116.1 231 23 mf_X11_must_231_231_23).trans ((hF1804.1 231 23 mf_X11_partAt_231_231_23).trans (hF1791.1 231 23 mf_X11_isSign_231_231_23))).trans hv8))
                have zv3163 : (3 : Int32).toInt = 3 := rfl
                obtain ⟨v3167, hv3167⟩ : ∃ v, gI g0 231 15 = v := ⟨_, rfl⟩
                have rv3167 := RgF.at hI0.2.1 (p := 231) (b := 15) rfl
                rw [hv3167] at rv3167
                dsimp only at rv3167
                have tv3167 := congrArg Int32.toInt hv3167
                have x3168 := HI.eqI hI3115 (p := 231) (b := 15) ((((hF3116.1 231 15 mf_X11_must_231_231_15).trans ((hF1804.1 231 15 mf_X11_partAt_231_231_15).trans (hF1791.1 231 15 mf_X11_isSign_231_231_15))).trans hv3167))
                have x3169 := HI.eqI hI3115 (p := 231) (b := 20) ((((hF3116.1 231 20 mf_X11_must_231_231_20).trans ((hF1804.1 231 20 mf_X11_partAt_231_231_20).trans (hF1791.1 231 20 mf_X11_isSign_231_231_20))).trans hv2965))
                obtain ⟨v3171, hv3171⟩ : ∃ v, gI g0 231 24 = v := ⟨_, rfl⟩
                have tv3171 := congrArg Int32.toInt hv3171
                have x3172 := HI.eqI hI3115 (p := 231) (b := 24) ((((hF3116.1 231 24 mf_X11_must_231_231_24).trans ((hF1804.1 231 24 mf_X11_partAt_231_231_24).trans (hF1791.1 231 24 mf_X11_isSign_231_231_24))).trans hv3171))
                have x3177 := HI.eqI hI0 (p := 231) (b := 20) (hv2965)
                have lp := pa1810
                unfold PAI at lp
                have ld := CDM.dig hK
                have y3180 : pI g0 11 = (gI g0 231 11).toInt := rfl
                have y3181 : wth g0 = (gJ g0 231 12).toInt := rfl
                have x3183 := HI.eqJ hI0 (b := 12) (hv5)
                have mf3184 := mu3148.2.2.1 (show (gI g0 231 14).toInt = 0 from by omega) (by omega)
                have y3185 : (gI _ 231 14).toInt ≠ 0 := mf3184.1
                have y3186 : (gI _ 231 13).toInt = (gI g0 231 9).toInt := mf3184.2
                exact ⟨_, rfl, hI3115, hF3119, _, rfl, by decide, ⟨by omega, by omega, by omega, by omega, c3140, by omega, by omega, (fun hbad => ⟨by omega, (PT.mk (fun h => by first | exact absurd h (by decide) | (exfalso; omega)) (fun h => by first | exact absurd h (by decide) | (exfalso; omega)) (fun h h9 => by first | exact absurd h (by decide) | (exfalso; omega)) (fun h => by first | exact absurd h (by decide) | (exfalso; omega)))⟩), (fun hbad => by omega), hK3149, (fun c0 b hC h => M.leafF h (TKM.some hK).choose_spec (by omega) (fun z => by have z1 := z.1; have z2 : (gI g0 231 20).toInt < 50 := z.2; omega) (fun _ => ⟨show (gI _ 231 14).toInt ≠ 0 from by omega, show (gI _ 231 13).toInt = (gI g0 231 9).toInt from by omega⟩) (fun z => absurd (show (gI g0 231 14).toInt = 0 from (by first | exact h2 | omega)) z) _)⟩⟩
              · have c3150_ : v3133.toInt = 0 := en_k_ne_f c3150
                obtain ⟨i3187, i3188, i3189⟩ := c3141 (by omega)
                obtain ⟨i3190, i3191⟩ := MUSTP.z mu3148 (by omega) (by omega)
                refine At.enter rfl ?_
                refine r_aload_n rfl ?_
                refine r_iload_n rfl ?_
                refine r_iload_n rfl ?_
                have x3192 := HI.eqI hI3115 (p := 231) (b := 17) ((((hF3116.1 231 17 mf_X11_must_231_231_17).trans ((hF1804.1 231 17 mf_X11_partAt_231_231_17).trans (hF1791.1 231 17 mf_X11_isSign_231_231_17))).trans hv7))
                have zv3193 : (0 : Int32).toInt = 0 := rfl
                refine r_callV 35 rfl [.ref 231, .int 0, .int v2964] [] (Nat.le_of_ble_eq_true rfl) rfl (T_X11_emit_231 _ hI3115 0 v2964 (by omega)) ?_
                rintro _ _ ⟨g3194, rfl, hI3195, hF3196, rfl, hr3198⟩
                refine At.stn ?_
                have hF3199 := Fr.tr hF3119 hF3196 rfl rfl
                have x3202 := HI.eqI hI3115 (p := 231) (b := 23) ((((hF3116.1 231 23 mf_X11_must_231_231_23).trans ((hF1804.1 231 23 mf_X11_partAt_231_231_23).trans (hF1791.1 231 23 mf_X11_isSign_231_231_23))).trans hv8))
                obtain ⟨v3203, hv3203⟩ : ∃ v, gI g3194 231 17 = v := ⟨_, rfl⟩
                have rv3203 := RgF.at hI3195.2.1 (p := 231) (b := 17) rfl
                rw [hv3203] at rv3203
                dsimp only at rv3203
                have tv3203 := congrArg Int32.toInt hv3203
                have y3205 : (gI _ 231 17).toInt = (gI _ 231 17).toInt + 1 := hr3198.1
                have pg3207 := PG.cong (hP.1 (by decide)) hI3115 (((hF3116.2.1 238 ma_X11_must_231_238).trans ((hF1804.2.1 238 ma_X11_partAt_231_238).trans (hF1791.2.1 238 ma_X11_isSign_231_238)))) (((hF3116.2.1 239 ma_X11_must_231_239).trans ((hF1804.2.1 239 ma_X11_partAt_231_239).trans (hF1791.2.1 239 ma_X11_isSign_231_239)))) (((hF3116.2.1 240 ma_X11_must_231_240).trans ((hF1804.2.1 240 ma_X11_partAt_231_240).trans (hF1791.2.1 240 ma_X11_isSign_231_240)))) (((hF3116.2.1 241 ma_X11_must_231_241).trans ((hF1804.2.1 241 ma_X11_partAt_231_241).trans (hF1791.2.1 241 ma_X11_isSign_231_241)))) (((hF3116.1 231 17 mf_X11_must_231_231_17).trans ((hF1804.1 231 17 mf_X11_partAt_231_231_17).trans (hF1791.1 231 17 mf_X11_isSign_231_231_17)))) (((hF3116.1 231 23 mf_X11_must_231_231_23).trans ((hF1804.1 231 23 mf_X11_partAt_231_231_23).trans (hF1791.1 231 23 mf_X11_isSign_231_231_23))))
                have pg3206 := PG.emit (e' := 1) pg3207 hr3198 (hF3196.2.1 240 ma_X11_emit_231_240) (hF3196.2.1 241 ma_X11_emit_231_241) (hF3196.1 231 23 mf_X11_emit_231_231_23) (Or.inl ⟨by omega, by omega, by decide, by decide⟩)
                refine At.enter rfl ?_
                refine r_aload_n rfl ?_
                refine r_dup rfl ?_
                refine q_getI (Sh.int hI3195.1 kx_231 rfl) v2965 (((hF3196.1 231 20 mf_X11_emit_231_231_20).trans ((hF3116.1 231 20 mf_X11_must_231_231_20).trans ((hF1804.1 231 20 mf_X11_partAt_231_231_20).trans (hF1791.1 231 20 mf_X11_isSign_231_231_20)))).trans hv2965) ?_
                refine r_iconst 1 rfl ?_
                have bv3208 := q_bnd v2965
                refine q_iadd (v2965.toInt + 1) rfl (by omega) (fun v3209 hv3209 => ?_)
                refine q_putI (Sh.int hI3195.1 kx_231 rfl) rfl ?_
                have hI3210 := HI.wI0 hI3195 kx_231 rfl (p := 231) (b := 20) (v := v3209) rfl
                have hF3211 := Fr.wI (p := 231) (b := 20) (v := v3209) hF3199 rfl
                refine Ar.fall 45 rfl ?_
                refine At.enter rfl ?_
                refine q_vret ?_
                refine At.enter rfl ?_
                refine r_iconst 3 rfl ?_
                refine r_ireti ?_
                have x3212 := HI.eqI hI3210 (p := 231) (b := 8) ((((gI_sI_ne (by decide)).trans ((hF3196.1 231 8 mf_X11_emit_231_231_8).trans ((hF3116.1 231 8 mf_X11_must_231_231_8).trans ((hF1804.1 231 8 mf_X11_partAt_231_231_8).trans (hF1791.1 231 8 mf_X11_isSign_231_231_8))))).trans hv1))
                have x3213 := HI.eqI hI3210 (p := 231) (b := 9) ((((gI_sI_ne (by decide)).trans (hF3196.1 231 9 mf_X11_emit_231_231_9)).trans hv3127))
                have x3214 := HI.eqI hI3210 (p := 231) (b := 10) ((((gI_sI_ne (by decide)).trans (hF3196.1 231 10 mf_X11_emit_231_231_10)).trans hv3129))
                have x3215 := HI.eqI hI3210 (p := 231) (b := 11) ((((gI_sI_ne (by decide)).trans (hF3196.1 231 11 mf_X11_emit_231_231_11)).trans hv3131))
                obtain ⟨v3216, hv3216⟩ : ∃ v, gJ g3114 231 12 = v := ⟨_, rfl⟩
                have x3217 := HI.eqJ hI3210 (b := 12) ((((gJ_sI_ne (by decide)).trans (hF3196.2.2 231 12 mf_X11_emit_231_231_12)).trans hv3216))
                have x3218 := HI.eqI hI3210 (p := 231) (b := 14) ((((gI_sI_ne (by decide)).trans (hF3196.1 231 14 mf_X11_emit_231_231_14)).trans hv3133))
                have x3219 := HI.eqI hI3210 (p := 231) (b := 17) (((gI_sI_ne (by decide)).trans hv3203))
                have x3220 := HI.eqI hI3210 (p := 231) (b := 23) ((((gI_sI_ne (by decide)).trans ((hF3196.1 231 23 mf_X11_emit_231_231_23).trans ((hF3116.1 231 23 mf_X11_must_231_231_23).trans ((hF1804.1 231 23 mf_X11_partAt_231_231_23).trans (hF1791.1 231 23 mf_X11_isSign_231_231_23))))).trans hv8))
                have zv3222 : (3 : Int32).toInt = 3 := rfl
                have pg3223 := PG.cong pg3206 hI3210 ((gA_sI)) ((gA_sI)) ((gA_sI)) ((gA_sI)) ((gI_sI_ne (by decide))) ((gI_sI_ne (by decide)))
                have w263224 := W26.cong c3140 hI3210 (((gI_sI_ne (by decide)).trans (hF3196.1 231 9 mf_X11_emit_231_231_9))) (((gI_sI_ne (by decide)).trans (hF3196.1 231 10 mf_X11_emit_231_231_10))) (((gI_sI_ne (by decide)).trans (hF3196.1 231 11 mf_X11_emit_231_231_11))) (((gJ_sI_ne (by decide)).trans (hF3196.2.2 231 12 mf_X11_emit_231_231_12)))
                have x3226 := HI.eqI hI3210 (p := 231) (b := 13) ((((gI_sI_ne (by decide)).trans (hF3196.1 231 13 mf_X11_emit_231_231_13)).trans hv3146))
                obtain ⟨v3228, hv3228⟩ : ∃ v, gI g0 231 15 = v := ⟨_, rfl⟩
                have rv3228 := RgF.at hI0.2.1 (p := 231) (b := 15) rfl
                rw [hv3228] at rv3228
                dsimp only at rv3228
                have tv3228 := congrArg Int32.toInt hv3228
                have x3229 := HI.eqI hI3210 (p := 231) (b := 15) ((((gI_sI_ne (by decide)).trans ((hF3196.1 231 15 mf_X11_emit_231_231_15).trans ((hF3116.1 231 15 mf_X11_must_231_231_15).trans ((hF1804.1 231 15 mf_X11_partAt_231_231_15).trans (hF1791.1 231 15 mf_X11_isSign_231_231_15))))).trans hv3228))
                have x3230 := HI.eqI hI3210 (p := 231) (b := 20) ((gI_sI_eq hI3195.1 kx_231 rfl _))
                obtain ⟨v3232, hv3232⟩ : ∃ v, gI g0 231 24 = v := ⟨_, rfl⟩
                have tv3232 := congrArg Int32.toInt hv3232
                have x3233 := HI.eqI hI3210 (p := 231) (b := 24) ((((gI_sI_ne (by decide)).trans ((hF3196.1 231 24 mf_X11_emit_231_231_24).trans ((hF3116.1 231 24 mf_X11_must_231_231_24).trans ((hF1804.1 231 24 mf_X11_partAt_231_231_24).trans (hF1791.1 231 24 mf_X11_isSign_231_231_24))))).trans hv3232))
                have x3238 := HI.eqI hI0 (p := 231) (b := 20) (hv2965)
                have lp := pa1810
                unfold PAI at lp
                have ld := CDM.dig hK
                have y3241 : pI g0 11 = (gI g0 231 11).toInt := rfl
                have y3242 : wth g0 = (gJ g0 231 12).toInt := rfl
                have x3244 := HI.eqJ hI0 (b := 12) (hv5)
                have y3249 : (gI g3114 231 13).toInt = (gI g0 231 13).toInt := (mu3148.2.1 (show (gI g0 231 14).toInt = 0 from by omega) (by omega)).2.1
                exact ⟨_, rfl, hI3210, hF3211, _, rfl, by decide, ⟨by omega, by omega, by omega, by omega, w263224, by omega, by omega, (fun hbad => ⟨by omega, (PT.mk (fun h => by first | exact absurd h (by decide) | (exfalso; omega)) (fun _ => pg3223) (fun h h9 => by first | exact absurd h (by decide) | (exfalso; omega)) (fun h => by first | exact absurd h (by decide) | (exfalso; omega)))⟩), (fun hbad => by omega), (TKM.c hK3149 (((gA_sI).trans (hF3196.2.1 236 ma_X11_emit_231_236))) (((gI_sI_ne (by decide)).trans (hF3196.1 231 8 mf_X11_emit_231_231_8))) (((gI_sI_ne (by decide)).trans (hF3196.1 231 9 mf_X11_emit_231_231_9))) (((gI_sI_ne (by decide)).trans (hF3196.1 231 10 mf_X11_emit_231_231_10))) (((gI_sI_ne (by decide)).trans (hF3196.1 231 11 mf_X11_emit_231_231_11))) (((gJ_sI_ne (by decide)).trans (hF3196.2.2 231 12 mf_X11_emit_231_231_12)))), (fun c0 b hC h => M.leaf h (by rw [pI.c (((gI_sI_ne (by decide)).trans (hF3196.1 231 9 mf_X11_emit_231_231_9)))]; exact (MUSTP.tok hK mu3148 (by omega) (by omega))) (by omega) (show (gI g0 231 20).toInt < 50 from by omega) (((gA_sI).trans ((hF3196.2.1 240 ma_X11_emit_231_240).trans ((hF3116.2.1 240 ma_X11_must_231_240).trans ((hF1804.2.1 240 ma_X11_partAt_231_240).trans (hF1791.2.1 240 ma_X11_isSign_231_240)))))) (show (gI _ 231 23).toInt = (gI g0 231 23).toInt from (by first | exact x3220.trans tv8.symm | omega)) (show (gI _ 231 24).toInt = (gI g0 231 24).toInt from (by first | exact x3233.trans tv3232.symm | omega)) (show (gI _ 231 20).toInt = (gI g0 231 20).toInt + 1 from by omega) (show (gI _ 231 15).toInt = (gI g0 231 15).toInt from (by first | exact x3229.trans tv3228.symm | omega)) (fun _ => ⟨show (gI _ 231 14).toInt = 0 from by omega, show (gI _ 231 13).toInt = (gI g0 231 13).toInt from by omega⟩) (fun z => absurd (show (gI g0 231 14).toInt = 0 from (by first | exact h2 | omega)) z))⟩⟩
  · have c1799_ : v1792.toInt ≠ 0 := en_k_eq_f c1799
    have i3250 := BL.yes hb1798 (by omega)
    refine At.enter rfl ?_
    refine r_aload_n rfl ?_
    refine r_bipush 31 rfl ?_
    refine q_inlV 15 rfl [.ref 231, .int 31] [] (Nat.le_of_ble_eq_true rfl) rfl ?_
    refine Ev.mk rfl rfl ⟨Nat.le_of_ble_eq_true rfl, Or.inr (q_rc hI1790.1 kx_231 rfl)⟩ ?_
    show At _ none _ _ (0, [(0, .ref 231), (1, .int 31)], [], (_, _)) _
    refine At.enter rfl ?_
    refine r_aload_n rfl ?_
    refine r_aload_n rfl ?_
    obtain ⟨v3251, hv3251⟩ : ∃ v, gI g0 231 24 = v := ⟨_, rfl⟩
    refine q_getI (Sh.int hI1790.1 kx_231 rfl) v3251 ((hF1791.1 231 24 mf_X11_isSign_231_231_24).trans hv3251) ?_
    refine r_bipush 8 rfl ?_
    refine r_ics 10 rfl (fun c3252 => ?_) (fun c3252 => ?_)
    · have c3252_ : v3251.toInt ≥ 8 := en_i_ge_t c3252
      refine At.enter rfl ?_
      refine r_iconst 0 rfl ?_
      refine Ar.fall 15 rfl ?_
      refine At.enter rfl ?_
      have x3253 := HI.eqI hI1790 (p := 231) (b := 8) (((hF1791.1 231 8 mf_X11_isSign_231_231_8).trans hv1))
      have x3254 := HI.eqI hI1790 (p := 231) (b := 9) (((hF1791.1 231 9 mf_X11_isSign_231_231_9).trans hv2))
      have x3255 := HI.eqI hI1790 (p := 231) (b := 10) (((hF1791.1 231 10 mf_X11_isSign_231_231_10).trans hv3))
      have w263257 := W26.cong hW hI1790 ((hF1791.1 231 9 mf_X11_isSign_231_231_9)) ((hF1791.1 231 10 mf_X11_isSign_231_231_10)) ((hF1791.1 231 11 mf_X11_isSign_231_231_11)) ((hF1791.2.2 231 12 mf_X11_isSign_231_231_12))
      have zv3258 : (0 : Int32).toInt = 0 := rfl
      refine r_callV 18 rfl [.ref 231, .int 0] [] (Nat.le_of_ble_eq_true rfl) rfl (T_X11_must_231 _ hI1790 0 (by decide) (by refine ⟨?_, ?_, ?_, ?_⟩ <;> omega) w263257 (TKM.c hK ((hF1791.2.1 236 ma_X11_isSign_231_236)) ((hF1791.1 231 8 mf_X11_isSign_231_231_8)) ((hF1791.1 231 9 mf_X11_isSign_231_231_9)) ((hF1791.1 231 10 mf_X11_isSign_231_231_10)) ((hF1791.1 231 11 mf_X11_isSign_231_231_11)) ((hF1791.2.2 231 12 mf_X11_isSign_231_231_12)))) ?_
      rintro _ _ ⟨g3259, rfl, hI3260, hF3261, rfl, hr3263⟩
      refine At.stn ?_
      have hF3264 := Fr.tr hF1794 hF3261 rfl rfl
      have x3270 := HI.eqI hI1790 (p := 231) (b := 14) (((hF1791.1 231 14 mf_X11_isSign_231_231_14).trans hv6))
      have x3271 := HI.eqI hI3260 (p := 231) (b := 8) ((((hF3261.1 231 8 mf_X11_must_231_231_8).trans (hF1791.1 231 8 mf_X11_isSign_231_231_8)).trans hv1))
      obtain ⟨v3272, hv3272⟩ : ∃ v, gI g3259 231 9 = v := ⟨_, rfl⟩
      have rv3272 := RgF.at hI3260.2.1 (p := 231) (b := 9) rfl
      rw [hv3272] at rv3272
      dsimp only at rv3272
      have tv3272 := congrArg Int32.toInt hv3272
      obtain ⟨v3274, hv3274⟩ : ∃ v, gI g3259 231 10 = v := ⟨_, rfl⟩
      have rv3274 := RgF.at hI3260.2.1 (p := 231) (b := 10) rfl
      rw [hv3274] at rv3274
      dsimp only at rv3274
      have tv3274 := congrArg Int32.toInt hv3274
      obtain ⟨v3276, hv3276⟩ : ∃ v, gI g3259 231 11 = v := ⟨_, rfl⟩
      have tv3276 := congrArg Int32.toInt hv3276
      obtain ⟨v3278, hv3278⟩ : ∃ v, gI g3259 231 14 = v := ⟨_, rfl⟩
      have tv3278 := congrArg Int32.toInt hv3278
      obtain ⟨c3280, c3281, c3282, c3283, c3284, c3285, c3286, c3287⟩ := hr3263
      obtain ⟨v3288, hv3288⟩ : ∃ v, gI g0 231 13 = v := ⟨_, rfl⟩
      have tv3288 := congrArg Int32.toInt hv3288
      have x3289 := HI.eqI hI1790 (p := 231) (b := 13) (((hF1791.1 231 13 mf_X11_isSign_231_231_13).trans hv3288))
      obtain ⟨v3291, hv3291⟩ : ∃ v, gI g3259 231 13 = v := ⟨_, rfl⟩
      have tv3291 := congrArg Int32.toInt hv3291
      unfold MUSTP at c3287
      rw [TM.c ((hF1791.2.1 236 ma_X11_isSign_231_236)), nM.c ((hF1791.1 231 8 mf_X11_isSign_231_231_8)), pI.c (b := 14) ((hF1791.1 231 14 mf_X11_isSign_231_231_14)), pI.c (b := 13) ((hF1791.1 231 13 mf_X11_isSign_231_231_13)), pI.c (b := 10) ((hF1791.1 231 10 mf_X11_isSign_231_231_10)), pI.c (b := 9) ((hF1791.1 231 9 mf_X11_isSign_231_231_9))] at c3287
      have mu3293 : MUSTP g0 g3259 0 := c3287
      clear c3287
      have hK3294 := mu3293.1
      refine At.enter rfl ?_
      refine r_aload_n rfl ?_
      refine q_getI (Sh.int hI3260.1 kx_231 rfl) v3278 hv3278 ?_
      refine r_ifs 25 rfl (fun c3295 => ?_) (fun c3295 => ?_)
      · have c3295_ : v3278.toInt ≠ 0 := en_k_ne_t c3295
        clear c3286
        obtain ⟨i3296, i3297⟩ := MUSTP.y mu3293 (by omega) (by omega)
        refine At.enter rfl ?_
        refine q_vret ?_
        refine At.enter rfl ?_
        refine r_iconst 1 rfl ?_
        refine r_ireti ?_
        obtain ⟨v3302, hv3302⟩ : ∃ v, gJ g3259 231 12 = v := ⟨_, rfl⟩
        have x3303 := HI.eqJ hI3260 (b := 12) (hv3302)
        have x3305 := HI.eqI hI3260 (p := 231) (b := 17) ((((hF3261.1 231 17 mf_X11_must_231_231_17).trans (hF1791.1 231 17 mf_X11_isSign_231_231_17)).trans hv7))
        have x3306 := HI.eqI hI3260 (p := 231) (b := 23) ((((hF3261.1 231 23 mf_X11_must_231_231_23).trans (hF1791.1 231 23 mf_X11_isSign_231_231_23)).trans hv8))
        have zv3308 : (1 : Int32).toInt = 1 := rfl
        have pg3309 := PG.cong (hP.1 (by decide)) hI3260 (((hF3261.2.1 238 ma_X11_must_231_238).trans (hF1791.2.1 238 ma_X11_isSign_231_238))) (((hF3261.2.1 239 ma_X11_must_231_239).trans (hF1791.2.1 239 ma_X11_isSign_231_239))) (((hF3261.2.1 240 ma_X11_must_231_240).trans (hF1791.2.1 240 ma_X11_isSign_231_240))) (((hF3261.2.1 241 ma_X11_must_231_241).trans (hF1791.2.1 241 ma_X11_isSign_231_241))) (((hF3261.1 231 17 mf_X11_must_231_231_17).trans (hF1791.1 231 17 mf_X11_isSign_231_231_17))) (((hF3261.1 231 23 mf_X11_must_231_231_23).trans (hF1791.1 231 23 mf_X11_isSign_231_231_23)))
        obtain ⟨v3313, hv3313⟩ : ∃ v, gI g0 231 15 = v := ⟨_, rfl⟩
        have rv3313 := RgF.at hI0.2.1 (p := 231) (b := 15) rfl
        rw [hv3313] at rv3313
        dsimp only at rv3313
        have tv3313 := congrArg Int32.toInt hv3313
        have x3314 := HI.eqI hI3260 (p := 231) (b := 15) ((((hF3261.1 231 15 mf_X11_must_231_231_15).trans (hF1791.1 231 15 mf_X11_isSign_231_231_15)).trans hv3313))
        obtain ⟨v3315, hv3315⟩ : ∃ v, gI g0 231 20 = v := ⟨_, rfl⟩
        have tv3315 := congrArg Int32.toInt hv3315
        have x3316 := HI.eqI hI3260 (p := 231) (b := 20) ((((hF3261.1 231 20 mf_X11_must_231_231_20).trans (hF1791.1 231 20 mf_X11_isSign_231_231_20)).trans hv3315))
        have x3318 := HI.eqI hI3260 (p := 231) (b := 24) ((((hF3261.1 231 24 mf_X11_must_231_231_24).trans (hF1791.1 231 24 mf_X11_isSign_231_231_24)).trans hv3251))
        have x3325 := HI.eqI hI0 (p := 231) (b := 24) (hv3251)
        have mf3326 := mu3293.2.2.1 (show (gI g0 231 14).toInt = 0 from by omega) (by omega)
        have y3327 : (gI _ 231 14).toInt ≠ 0 := mf3326.1
        have y3328 : (gI _ 231 13).toInt = (gI g0 231 9).toInt := mf3326.2
        exact ⟨_, rfl, hI3260, hF3264, _, rfl, by decide, ⟨by omega, by omega, by omega, by omega, c3285, by omega, by omega, (fun hbad => ⟨by omega, (PT.mk (fun _ => pg3309) (fun h => by first | exact absurd h (by decide) | (exfalso; omega)) (fun h h9 => by first | exact absurd h (by decide) | (exfalso; omega)) (fun h => by first | exact absurd h (by decide) | (exfalso; omega)))⟩), (fun hbad => by omega), hK3294, (fun c0 b hC h => M.sqF h (TKM.some hK).choose_spec (by omega) (show 8 ≤ (gI g0 231 24).toInt from by omega) (fun _ => ⟨show (gI _ 231 14).toInt ≠ 0 from by omega, show (gI _ 231 13).toInt = (gI g0 231 9).toInt from by omega⟩) (fun z => absurd (show (gI g0 231 14).toInt = 0 from (by first | exact h2 | omega)) z) _)⟩⟩
      · have c3295_ : v3278.toInt = 0 := en_k_ne_f c3295
        obtain ⟨i3329, i3330, i3331⟩ := c3286 (by omega)
        obtain ⟨i3332, i3333⟩ := MUSTP.z mu3293 (by omega) (by omega)
        refine At.enter rfl ?_
        refine r_aload_n rfl ?_
        refine r_dup rfl ?_
        refine q_getI (Sh.int hI3260.1 kx_231 rfl) v3251 (((hF3261.1 231 24 mf_X11_must_231_231_24).trans (hF1791.1 231 24 mf_X11_isSign_231_231_24)).trans hv3251) ?_
        refine r_iconst 1 rfl ?_
        refine q_iaddO (fun v3334 _ => ?_)
        refine q_putI (Sh.int hI3260.1 kx_231 rfl) rfl ?_
        have hI3335 := HI.wI0 hI3260 kx_231 rfl (p := 231) (b := 24) (v := v3334) rfl
        have hF3336 := Fr.wI (p := 231) (b := 24) (v := v3334) hF3264 rfl
        refine r_aload_n rfl ?_
        refine r_iload_n rfl ?_
        refine r_iconst 0 rfl ?_
        have x3337 := HI.eqI hI3335 (p := 231) (b := 23) ((((gI_sI_ne (by decide)).trans ((hF3261.1 231 23 mf_X11_must_231_231_23).trans (hF1791.1 231 23 mf_X11_isSign_231_231_23))).trans hv8))
        have zv3338 : (31 : Int32).toInt = 31 := rfl
        refine r_callV 41 rfl [.ref 231, .int 31, .int 0] [] (Nat.le_of_ble_eq_true rfl) rfl (T_X11_push_231 _ hI3335 31 (by decide) 0 (by decide) (by omega)) ?_
        rintro _ _ ⟨g3340, rfl, hI3341, hF3342, rfl, hr3344⟩
        refine At.stn ?_
        have hF3345 := Fr.tr hF3336 hF3342 rfl rfl
        have x3348 := HI.eqI hI3335 (p := 231) (b := 17) ((((gI_sI_ne (by decide)).trans ((hF3261.1 231 17 mf_X11_must_231_231_17).trans (hF1791.1 231 17 mf_X11_isSign_231_231_17))).trans hv7))
        have x3350 := HI.eqI hI3341 (p := 231) (b := 17) ((((hF3342.1 231 17 mf_X11_push_231_231_17).trans ((gI_sI_ne (by decide)).trans ((hF3261.1 231 17 mf_X11_must_231_231_17).trans (hF1791.1 231 17 mf_X11_isSign_231_231_17)))).trans hv7))
        obtain ⟨v3351, hv3351⟩ : ∃ v, gI g3340 231 23 = v := ⟨_, rfl⟩
        have rv3351 := RgF.at hI3341.2.1 (p := 231) (b := 23) rfl
        rw [hv3351] at rv3351
        dsimp only at rv3351
        have tv3351 := congrArg Int32.toInt hv3351
        have y3353 : (gI _ 231 23).toInt = (gI _ 231 23).toInt + 1 := hr3344.1
        have pg3354 := PG.cong (hP.1 (by decide)) hI3335 (((gA_sI).trans ((hF3261.2.1 238 ma_X11_must_231_238).trans (hF1791.2.1 238 ma_X11_isSign_231_238)))) (((gA_sI).trans ((hF3261.2.1 239 ma_X11_must_231_239).trans (hF1791.2.1 239 ma_X11_isSign_231_239)))) (((gA_sI).trans ((hF3261.2.1 240 ma_X11_must_231_240).trans (hF1791.2.1 240 ma_X11_isSign_231_240)))) (((gA_sI).trans ((hF3261.2.1 241 ma_X11_must_231_241).trans (hF1791.2.1 241 ma_X11_isSign_231_241)))) (((gI_sI_ne (by decide)).trans ((hF3261.1 231 17 mf_X11_must_231_231_17).trans (hF1791.1 231 17 mf_X11_isSign_231_231_17)))) (((gI_sI_ne (by decide)).trans ((hF3261.1 231 23 mf_X11_must_231_231_23).trans (hF1791.1 231 23 mf_X11_isSign_231_231_23))))
        have pg3355 := PG.push (e' := 0) pg3354 hr3344 (hF3342.2.1 238 ma_X11_push_231_238) (hF3342.2.1 239 ma_X11_push_231_239) (hF3342.1 231 17 mf_X11_push_231_231_17) ⟨by omega, by omega⟩ (Or.inl (by omega)) (by omega) (by omega)
        refine At.enter rfl ?_
        refine q_vret ?_
        refine At.enter rfl ?_
        refine r_iconst 1 rfl ?_
        refine r_ireti ?_
        have x3356 := HI.eqI hI3341 (p := 231) (b := 8) ((((hF3342.1 231 8 mf_X11_push_231_231_8).trans ((gI_sI_ne (by decide)).trans ((hF3261.1 231 8 mf_X11_must_231_231_8).trans (hF1791.1 231 8 mf_X11_isSign_231_231_8)))).trans hv1))
        have x3357 := HI.eqI hI3341 (p := 231) (b := 9) ((((hF3342.1 231 9 mf_X11_push_231_231_9).trans (gI_sI_ne (by decide))).trans hv3272))
        have x3358 := HI.eqI hI3341 (p := 231) (b := 10) ((((hF3342.1 231 10 mf_X11_push_231_231_10).trans (gI_sI_ne (by decide))).trans hv3274))
        have x3359 := HI.eqI hI3341 (p := 231) (b := 11) ((((hF3342.1 231 11 mf_X11_push_231_231_11).trans (gI_sI_ne (by decide))).trans hv3276))
        obtain ⟨v3360, hv3360⟩ : ∃ v, gJ g3259 231 12 = v := ⟨_, rfl⟩
        have x3361 := HI.eqJ hI3341 (b := 12) ((((hF3342.2.2 231 12 mf_X11_push_231_231_12).trans (gJ_sI_ne (by decide))).trans hv3360))
        have x3362 := HI.eqI hI3341 (p := 231) (b := 14) ((((hF3342.1 231 14 mf_X11_push_231_231_14).trans (gI_sI_ne (by decide))).trans hv3278))
        have zv3366 : (1 : Int32).toInt = 1 := rfl
        have w263367 := W26.cong c3285 hI3341 (((hF3342.1 231 9 mf_X11_push_231_231_9).trans (gI_sI_ne (by decide)))) (((hF3342.1 231 10 mf_X11_push_231_231_10).trans (gI_sI_ne (by decide)))) (((hF3342.1 231 11 mf_X11_push_231_231_11).trans (gI_sI_ne (by decide)))) (((hF3342.2.2 231 12 mf_X11_push_231_231_12).trans (gJ_sI_ne (by decide))))
        have x3369 := HI.eqI hI3341 (p := 231) (b := 13) ((((hF3342.1 231 13 mf_X11_push_231_231_13).trans (gI_sI_ne (by decide))).trans hv3291))
        obtain ⟨v3371, hv3371⟩ : ∃ v, gI g0 231 15 = v := ⟨_, rfl⟩
        have rv3371 := RgF.at hI0.2.1 (p := 231) (b := 15) rfl
        rw [hv3371] at rv3371
        dsimp only at rv3371
        have tv3371 := congrArg Int32.toInt hv3371
        have x3372 := HI.eqI hI3341 (p := 231) (b := 15) ((((hF3342.1 231 15 mf_X11_push_231_231_15).trans ((gI_sI_ne (by decide)).trans ((hF3261.1 231 15 mf_X11_must_231_231_15).trans (hF1791.1 231 15 mf_X11_isSign_231_231_15)))).trans hv3371))
        obtain ⟨v3373, hv3373⟩ : ∃ v, gI g0 231 20 = v := ⟨_, rfl⟩
        have tv3373 := congrArg Int32.toInt hv3373
        have x3374 := HI.eqI hI3341 (p := 231) (b := 20) ((((hF3342.1 231 20 mf_X11_push_231_231_20).trans ((gI_sI_ne (by decide)).trans ((hF3261.1 231 20 mf_X11_must_231_231_20).trans (hF1791.1 231 20 mf_X11_isSign_231_231_20)))).trans hv3373))
        have x3376 := HI.eqI hI3341 (p := 231) (b := 24) (((hF3342.1 231 24 mf_X11_push_231_231_24).trans (gI_sI_eq hI3260.1 kx_231 rfl _)))
        have x3383 := HI.eqI hI0 (p := 231) (b := 24) (hv3251)
        have y3388 : (gI g3259 231 13).toInt = (gI g0 231 13).toInt := (mu3293.2.1 (show (gI g0 231 14).toInt = 0 from by omega) (by omega)).2.1
        exact ⟨_, rfl, hI3341, hF3345, _, rfl, by decide, ⟨by omega, by omega, by omega, by omega, w263367, by omega, by omega, (fun hbad => ⟨by omega, (PT.mk (fun _ => pg3355) (fun h => by first | exact absurd h (by decide) | (exfalso; omega)) (fun h h9 => by first | exact absurd h (by decide) | (exfalso; omega)) (fun h => by first | exact absurd h (by decide) | (exfalso; omega)))⟩), (fun hbad => by omega), (TKM.c hK3294 (((hF3342.2.1 236 ma_X11_push_231_236).trans (gA_sI))) (((hF3342.1 231 8 mf_X11_push_231_231_8).trans (gI_sI_ne (by decide)))) (((hF3342.1 231 9 mf_X11_push_231_231_9).trans (gI_sI_ne (by decide)))) (((hF3342.1 231 10 mf_X11_push_231_231_10).trans (gI_sI_ne (by decide)))) (((hF3342.1 231 11 mf_X11_push_231_231_11).trans (gI_sI_ne (by decide)))) (((hF3342.2.2 231 12 mf_X11_push_231_231_12).trans (gJ_sI_ne (by decide))))), (fun c0 b hC h => M.sq h (by rw [pI.c (((hF3342.1 231 9 mf_X11_push_231_231_9).trans (gI_sI_ne (by decide))))]; exact (MUSTP.tok hK mu3293 (by omega) (by omega))) (by omega) (show (gI g0 231 24).toInt < 8 from by omega) (PUSH.fr2 hr3344 (((gA_sI).trans ((hF3261.2.1 240 ma_X11_must_231_240).trans (hF1791.2.1 240 ma_X11_isSign_231_240)))) (((gA_sI).trans ((hF3261.2.1 241 ma_X11_must_231_241).trans (hF1791.2.1 241 ma_X11_isSign_231_241)))) (((gI_sI_ne (by decide)).trans ((hF3261.1 231 23 mf_X11_must_231_231_23).trans (hF1791.1 231 23 mf_X11_isSign_231_231_23)))) rfl rfl rfl) rfl (show (gI _ 231 24).toInt = (gI g0 231 24).toInt + 1 from by omega) (show (gI _ 231 20).toInt = (gI g0 231 20).toInt from (by first | exact x3374.trans tv3373.symm | omega)) (show (gI _ 231 15).toInt = (gI g0 231 15).toInt from (by first | exact x3372.trans tv3371.symm | omega)) (fun _ => ⟨show (gI _ 231 14).toInt = 0 from by omega, show (gI _ 231 13).toInt = (gI g0 231 13).toInt from by omega⟩) (fun z => absurd (show (gI g0 231 14).toInt = 0 from (by first | exact h2 | omega)) z))⟩⟩
    · have c3252_ : v3251.toInt < 8 := en_i_ge_f c3252
      refine At.enter rfl ?_
      refine r_iconst 1 rfl ?_
      refine r_goto ?_
      refine At.enter rfl ?_
      have x3389 := HI.eqI hI1790 (p := 231) (b := 8) (((hF1791.1 231 8 mf_X11_isSign_231_231_8).trans hv1))
      have x3390 := HI.eqI hI1790 (p := 231) (b := 9) (((hF1791.1 231 9 mf_X11_isSign_231_231_9).trans hv2))
      have x3391 := HI.eqI hI1790 (p := 231) (b := 10) (((hF1791.1 231 10 mf_X11_isSign_231_231_10).trans hv3))
      have w263393 := W26.cong hW hI1790 ((hF1791.1 231 9 mf_X11_isSign_231_231_9)) ((hF1791.1 231 10 mf_X11_isSign_231_231_10)) ((hF1791.1 231 11 mf_X11_isSign_231_231_11)) ((hF1791.2.2 231 12 mf_X11_isSign_231_231_12))
      have zv3394 : (1 : Int32).toInt = 1 := rfl
      refine r_callV 18 rfl [.ref 231, .int 1] [] (Nat.le_of_ble_eq_true rfl) rfl (T_X11_must_231 _ hI1790 1 (by decide) (by refine ⟨?_, ?_, ?_, ?_⟩ <;> omega) w263393 (TKM.c hK ((hF1791.2.1 236 ma_X11_isSign_231_236)) ((hF1791.1 231 8 mf_X11_isSign_231_231_8)) ((hF1791.1 231 9 mf_X11_isSign_231_231_9)) ((hF1791.1 231 10 mf_X11_isSign_231_231_10)) ((hF1791.1 231 11 mf_X11_isSign_231_231_11)) ((hF1791.2.2 231 12 mf_X11_isSign_231_231_12)))) ?_
      rintro _ _ ⟨g3395, rfl, hI3396, hF3397, rfl, hr3399⟩
      refine At.stn ?_
      have hF3400 := Fr.tr hF1794 hF3397 rfl rfl
      have x3406 := HI.eqI hI1790 (p := 231) (b := 14) (((hF1791.1 231 14 mf_X11_isSign_231_231_14).trans hv6))
      have x3407 := HI.eqI hI3396 (p := 231) (b := 8) ((((hF3397.1 231 8 mf_X11_must_231_231_8).trans (hF1791.1 231 8 mf_X11_isSign_231_231_8)).trans hv1))
      obtain ⟨v3408, hv3408⟩ : ∃ v, gI g3395 231 9 = v := ⟨_, rfl⟩
      have rv3408 := RgF.at hI3396.2.1 (p := 231) (b := 9) rfl
      rw [hv3408] at rv3408
      dsimp only at rv3408
      have tv3408 := congrArg Int32.toInt hv3408
      obtain ⟨v3410, hv3410⟩ : ∃ v, gI g3395 231 10 = v := ⟨_, rfl⟩
      have rv3410 := RgF.at hI3396.2.1 (p := 231) (b := 10) rfl
      rw [hv3410] at rv3410
      dsimp only at rv3410
      have tv3410 := congrArg Int32.toInt hv3410
      obtain ⟨v3412, hv3412⟩ : ∃ v, gI g3395 231 11 = v := ⟨_, rfl⟩
      have tv3412 := congrArg Int32.toInt hv3412
      obtain ⟨v3414, hv3414⟩ : ∃ v, gI g3395 231 14 = v := ⟨_, rfl⟩
      have tv3414 := congrArg Int32.toInt hv3414
      obtain ⟨c3416, c3417, c3418, c3419, c3420, c3421, c3422, c3423⟩ := hr3399
      obtain ⟨v3424, hv3424⟩ : ∃ v, gI g0 231 13 = v := ⟨_, rfl⟩
      have tv3424 := congrArg Int32.toInt hv3424
      have x3425 := HI.eqI hI1790 (p := 231) (b := 13) (((hF1791.1 231 13 mf_X11_isSign_231_231_13).trans hv3424))
      obtain ⟨v3427, hv3427⟩ : ∃ v, gI g3395 231 13 = v := ⟨_, rfl⟩
      have tv3427 := congrArg Int32.toInt hv3427
      unfold MUSTP at c3423
      rw [TM.c ((hF1791.2.1 236 ma_X11_isSign_231_236)), nM.c ((hF1791.1 231 8 mf_X11_isSign_231_231_8)), pI.c (b := 14) ((hF1791.1 231 14 mf_X11_isSign_231_231_14)), pI.c (b := 13) ((hF1791.1 231 13 mf_X11_isSign_231_231_13)), pI.c (b := 10) ((hF1791.1 231 10 mf_X11_isSign_231_231_10)), pI.c (b := 9) ((hF1791.1 231 9 mf_X11_isSign_231_231_9))] at c3423
      have mu3429 : MUSTP g0 g3395 1 := c3423
      clear c3423
      have hK3430 := mu3429.1
      refine At.enter rfl ?_
      refine r_aload_n rfl ?_
      refine q_getI (Sh.int hI3396.1 kx_231 rfl) v3414 hv3414 ?_
      refine r_ifs 25 rfl (fun c3431 => ?_) (fun c3431 => ?_)
      · have c3431_ : v3414.toInt ≠ 0 := en_k_ne_t c3431
        clear c3422
        obtain ⟨i3432, i3433⟩ := MUSTP.y mu3429 (by omega) (by omega)
        refine At.enter rfl ?_
        refine q_vret ?_
        refine At.enter rfl ?_
        refine r_iconst 1 rfl ?_
        refine r_ireti ?_
        obtain ⟨v3438, hv3438⟩ : ∃ v, gJ g3395 231 12 = v := ⟨_, rfl⟩
        have x3439 := HI.eqJ hI3396 (b := 12) (hv3438)
        have x3441 := HI.eqI hI3396 (p := 231) (b := 17) ((((hF3397.1 231 17 mf_X11_must_231_231_17).trans (hF1791.1 231 17 mf_X11_isSign_231_231_17)).trans hv7))
        have x3442 := HI.eqI hI3396 (p := 231) (b := 23) ((((hF3397.1 231 23 mf_X11_must_231_231_23).trans (hF1791.1 231 23 mf_X11_isSign_231_231_23)).trans hv8))
        have pg3445 := PG.cong (hP.1 (by decide)) hI3396 (((hF3397.2.1 238 ma_X11_must_231_238).trans (hF1791.2.1 238 ma_X11_isSign_231_238))) (((hF3397.2.1 239 ma_X11_must_231_239).trans (hF1791.2.1 239 ma_X11_isSign_231_239))) (((hF3397.2.1 240 ma_X11_must_231_240).trans (hF1791.2.1 240 ma_X11_isSign_231_240))) (((hF3397.2.1 241 ma_X11_must_231_241).trans (hF1791.2.1 241 ma_X11_isSign_231_241))) (((hF3397.1 231 17 mf_X11_must_231_231_17).trans (hF1791.1 231 17 mf_X11_isSign_231_231_17))) (((hF3397.1 231 23 mf_X11_must_231_231_23).trans (hF1791.1 231 23 mf_X11_isSign_231_231_23)))
        obtain ⟨v3449, hv3449⟩ : ∃ v, gI g0 231 15 = v := ⟨_, rfl⟩
        have rv3449 := RgF.at hI0.2.1 (p := 231) (b := 15) rfl
        rw [hv3449] at rv3449
        dsimp only at rv3449
        have tv3449 := congrArg Int32.toInt hv3449
        have x3450 := HI.eqI hI3396 (p := 231) (b := 15) ((((hF3397.1 231 15 mf_X11_must_231_231_15).trans (hF1791.1 231 15 mf_X11_isSign_231_231_15)).trans hv3449))
        obtain ⟨v3451, hv3451⟩ : ∃ v, gI g0 231 20 = v := ⟨_, rfl⟩
        have tv3451 := congrArg Int32.toInt hv3451
        have x3452 := HI.eqI hI3396 (p := 231) (b := 20) ((((hF3397.1 231 20 mf_X11_must_231_231_20).trans (hF1791.1 231 20 mf_X11_isSign_231_231_20)).trans hv3451))
        have x3454 := HI.eqI hI3396 (p := 231) (b := 24) ((((hF3397.1 231 24 mf_X11_must_231_231_24).trans (hF1791.1 231 24 mf_X11_isSign_231_231_24)).trans hv3251))
        have x3461 := HI.eqI hI0 (p := 231) (b := 24) (hv3251)
        have mf3462 := mu3429.2.2.1 (show (gI g0 231 14).toInt = 0 from by omega) (by omega)
        have y3463 : (gI _ 231 14).toInt ≠ 0 := mf3462.1
        have y3464 : (gI _ 231 13).toInt = (gI g0 231 9).toInt := mf3462.2
        exact ⟨_, rfl, hI3396, hF3400, _, rfl, by decide, ⟨by omega, by omega, by omega, by omega, c3421, by omega, by omega, (fun hbad => ⟨by omega, (PT.mk (fun _ => pg3445) (fun h => by first | exact absurd h (by decide) | (exfalso; omega)) (fun h h9 => by first | exact absurd h (by decide) | (exfalso; omega)) (fun h => by first | exact absurd h (by decide) | (exfalso; omega)))⟩), (fun hbad => by omega), hK3430, (fun c0 b hC h => M.sqF h (TKM.some hK).choose_spec (by omega) (show 8 ≤ (gI g0 231 24).toInt from by omega) (fun _ => ⟨show (gI _ 231 14).toInt ≠ 0 from by omega, show (gI _ 231 13).toInt = (gI g0 231 9).toInt from by omega⟩) (fun z => absurd (show (gI g0 231 14).toInt = 0 from (by first | exact h2 | omega)) z) _)⟩⟩
      · have c3431_ : v3414.toInt = 0 := en_k_ne_f c3431
        obtain ⟨i3465, i3466, i3467⟩ := c3422 (by omega)
        obtain ⟨i3468, i3469⟩ := MUSTP.z mu3429 (by omega) (by omega)
        refine At.enter rfl ?_
        refine r_aload_n rfl ?_
        refine r_dup rfl ?_
        refine q_getI (Sh.int hI3396.1 kx_231 rfl) v3251 (((hF3397.1 231 24 mf_X11_must_231_231_24).trans (hF1791.1 231 24 mf_X11_isSign_231_231_24)).trans hv3251) ?_
        refine r_iconst 1 rfl ?_
        have bv3470 := q_bnd v3251
        refine q_iadd (v3251.toInt + 1) rfl (by omega) (fun v3471 hv3471 => ?_)
        refine q_putI (Sh.int hI3396.1 kx_231 rfl) rfl ?_
        have hI3472 := HI.wI0 hI3396 kx_231 rfl (p := 231) (b := 24) (v := v3471) rfl
        have hF3473 := Fr.wI (p := 231) (b := 24) (v := v3471) hF3400 rfl
        refine r_aload_n rfl ?_
        refine r_iload_n rfl ?_
        refine r_iconst 0 rfl ?_
        have x3474 := HI.eqI hI3472 (p := 231) (b := 23) ((((gI_sI_ne (by decide)).trans ((hF3397.1 231 23 mf_X11_must_231_231_23).trans (hF1791.1 231 23 mf_X11_isSign_231_231_23))).trans hv8))
        have zv3475 : (31 : Int32).toInt = 31 := rfl
        have zv3476 : (0 : Int32).toInt = 0 := rfl
        refine r_callV 41 rfl [.ref 231, .int 31, .int 0] [] (Nat.le_of_ble_eq_true rfl) rfl (T_X11_push_231 _ hI3472 31 (by decide) 0 (by decide) (by omega)) ?_
        rintro _ _ ⟨g3477, rfl, hI3478, hF3479, rfl, hr3481⟩
        refine At.stn ?_
        have hF3482 := Fr.tr hF3473 hF3479 rfl rfl
        have x3485 := HI.eqI hI3472 (p := 231) (b := 17) ((((gI_sI_ne (by decide)).trans ((hF3397.1 231 17 mf_X11_must_231_231_17).trans (hF1791.1 231 17 mf_X11_isSign_231_231_17))).trans hv7))
        have x3487 := HI.eqI hI3478 (p := 231) (b := 17) ((((hF3479.1 231 17 mf_X11_push_231_231_17).trans ((gI_sI_ne (by decide)).trans ((hF3397.1 231 17 mf_X11_must_231_231_17).trans (hF1791.1 231 17 mf_X11_isSign_231_231_17)))).trans hv7))
        obtain ⟨v3488, hv3488⟩ : ∃ v, gI g3477 231 23 = v := ⟨_, rfl⟩
        have rv3488 := RgF.at hI3478.2.1 (p := 231) (b := 23) rfl
        rw [hv3488] at rv3488
        dsimp only at rv3488
        have tv3488 := congrArg Int32.toInt hv3488
        have y3490 : (gI _ 231 23).toInt = (gI _ 231 23).toInt + 1 := hr3481.1
        have pg3491 := PG.cong (hP.1 (by decide)) hI3472 (((gA_sI).trans ((hF3397.2.1 238 ma_X11_must_231_238).trans (hF1791.2.1 238 ma_X11_isSign_231_238)))) (((gA_sI).trans ((hF3397.2.1 239 ma_X11_must_231_239).trans (hF1791.2.1 239 ma_X11_isSign_231_239)))) (((gA_sI).trans ((hF3397.2.1 240 ma_X11_must_231_240).trans (hF1791.2.1 240 ma_X11_isSign_231_240)))) (((gA_sI).trans ((hF3397.2.1 241 ma_X11_must_231_241).trans (hF1791.2.1 241 ma_X11_isSign_231_241)))) (((gI_sI_ne (by decide)).trans ((hF3397.1 231 17 mf_X11_must_231_231_17).trans (hF1791.1 231 17 mf_X11_isSign_231_231_17)))) (((gI_sI_ne (by decide)).trans ((hF3397.1 231 23 mf_X11_must_231_231_23).trans (hF1791.1 231 23 mf_X11_isSign_231_231_23))))
        have pg3492 := PG.push (e' := 0) pg3491 hr3481 (hF3479.2.1 238 ma_X11_push_231_238) (hF3479.2.1 239 ma_X11_push_231_239) (hF3479.1 231 17 mf_X11_push_231_231_17) ⟨by omega, by omega⟩ (Or.inl (by omega)) (by omega) (by omega)
        refine At.enter rfl ?_
        refine q_vret ?_
        refine At.enter rfl ?_
        refine r_iconst 1 rfl ?_
        refine r_ireti ?_
        have x3493 := HI.eqI hI3478 (p := 231) (b := 8) ((((hF3479.1 231 8 mf_X11_push_231_231_8).trans ((gI_sI_ne (by decide)).trans ((hF3397.1 231 8 mf_X11_must_231_231_8).trans (hF1791.1 231 8 mf_X11_isSign_231_231_8)))).trans hv1))
        have x3494 := HI.eqI hI3478 (p := 231) (b := 9) ((((hF3479.1 231 9 mf_X11_push_231_231_9).trans (gI_sI_ne (by decide))).trans hv3408))
        have x3495 := HI.eqI hI3478 (p := 231) (b := 10) ((((hF3479.1 231 10 mf_X11_push_231_231_10).trans (gI_sI_ne (by decide))).trans hv3410))
        have x3496 := HI.eqI hI3478 (p := 231) (b := 11) ((((hF3479.1 231 11 mf_X11_push_231_231_11).trans (gI_sI_ne (by decide))).trans hv3412))
        obtain ⟨v3497, hv3497⟩ : ∃ v, gJ g3395 231 12 = v := ⟨_, rfl⟩
        have x3498 := HI.eqJ hI3478 (b := 12) ((((hF3479.2.2 231 12 mf_X11_push_231_231_12).trans (gJ_sI_ne (by decide))).trans hv3497))
        have x3499 := HI.eqI hI3478 (p := 231) (b := 14) ((((hF3479.1 231 14 mf_X11_push_231_231_14).trans (gI_sI_ne (by decide))).trans hv3414))
        have w263504 := W26.cong c3421 hI3478 (((hF3479.1 231 9 mf_X11_push_231_231_9).trans (gI_sI_ne (by decide)))) (((hF3479.1 231 10 mf_X11_push_231_231_10).trans (gI_sI_ne (by decide)))) (((hF3479.1 231 11 mf_X11_push_231_231_11).trans (gI_sI_ne (by decide)))) (((hF3479.2.2 231 12 mf_X11_push_231_231_12).trans (gJ_sI_ne (by decide))))
        have x3506 := HI.eqI hI3478 (p := 231) (b := 13) ((((hF3479.1 231 13 mf_X11_push_231_231_13).trans (gI_sI_ne (by decide))).trans hv3427))
        obtain ⟨v3508, hv3508⟩ : ∃ v, gI g0 231 15 = v := ⟨_, rfl⟩
        have rv3508 := RgF.at hI0.2.1 (p := 231) (b := 15) rfl
        rw [hv3508] at rv3508
        dsimp only at rv3508
        have tv3508 := congrArg Int32.toInt hv3508
        have x3509 := HI.eqI hI3478 (p := 231) (b := 15) ((((hF3479.1 231 15 mf_X11_push_231_231_15).trans ((gI_sI_ne (by decide)).trans ((hF3397.1 231 15 mf_X11_must_231_231_15).trans (hF1791.1 231 15 mf_X11_isSign_231_231_15)))).trans hv3508))
        obtain ⟨v3510, hv3510⟩ : ∃ v, gI g0 231 20 = v := ⟨_, rfl⟩
        have tv3510 := congrArg Int32.toInt hv3510
        have x3511 := HI.eqI hI3478 (p := 231) (b := 20) ((((hF3479.1 231 20 mf_X11_push_231_231_20).trans ((gI_sI_ne (by decide)).trans ((hF3397.1 231 20 mf_X11_must_231_231_20).trans (hF1791.1 231 20 mf_X11_isSign_231_231_20)))).trans hv3510))
        have x3513 := HI.eqI hI3478 (p := 231) (b := 24) (((hF3479.1 231 24 mf_X11_push_231_231_24).trans (gI_sI_eq hI3396.1 kx_231 rfl _)))
        have x3520 := HI.eqI hI0 (p := 231) (b := 24) (hv3251)
        have y3525 : (gI g3395 231 13).toInt = (gI g0 231 13).toInt := (mu3429.2.1 (show (gI g0 231 14).toInt = 0 from by omega) (by omega)).2.1
        exact ⟨_, rfl, hI3478, hF3482, _, rfl, by decide, ⟨by omega, by omega, by omega, by omega, w263504, by omega, by omega, (fun hbad => ⟨by omega, (PT.mk (fun _ => pg3492) (fun h => by first | exact absurd h (by decide) | (exfalso; omega)) (fun h h9 => by first | exact absurd h (by decide) | (exfalso; omega)) (fun h => by first | exact absurd h (by decide) | (exfalso; omega)))⟩), (fun hbad => by omega), (TKM.c hK3430 (((hF3479.2.1 236 ma_X11_push_231_236).trans (gA_sI))) (((hF3479.1 231 8 mf_X11_push_231_231_8).trans (gI_sI_ne (by decide)))) (((hF3479.1 231 9 mf_X11_push_231_231_9).trans (gI_sI_ne (by decide)))) (((hF3479.1 231 10 mf_X11_push_231_231_10).trans (gI_sI_ne (by decide)))) (((hF3479.1 231 11 mf_X11_push_231_231_11).trans (gI_sI_ne (by decide)))) (((hF3479.2.2 231 12 mf_X11_push_231_231_12).trans (gJ_sI_ne (by decide))))), (fun c0 b hC h => M.sq h (by rw [pI.c (((hF3479.1 231 9 mf_X11_push_231_231_9).trans (gI_sI_ne (by decide))))]; exact (MUSTP.tok hK mu3429 (by omega) (by omega))) (by omega) (show (gI g0 231 24).toInt < 8 from by omega) (PUSH.fr2 hr3481 (((gA_sI).trans ((hF3397.2.1 240 ma_X11_must_231_240).trans (hF1791.2.1 240 ma_X11_isSign_231_240)))) (((gA_sI).trans ((hF3397.2.1 241 ma_X11_must_231_241).trans (hF1791.2.1 241 ma_X11_isSign_231_241)))) (((gI_sI_ne (by decide)).trans ((hF3397.1 231 23 mf_X11_must_231_231_23).trans (hF1791.1 231 23 mf_X11_isSign_231_231_23)))) rfl rfl rfl) rfl (show (gI _ 231 24).toInt = (gI g0 231 24).toInt + 1 from by omega) (show (gI _ 231 20).toInt = (gI g0 231 20).toInt from (by first | exact x3511.trans tv3510.symm | omega)) (show (gI _ 231 15).toInt = (gI g0 231 15).toInt from (by first | exact x3509.trans tv3508.symm | omega)) (fun _ => ⟨show (gI _ 231 14).toInt = 0 from by omega, show (gI _ 231 13).toInt = (gI g0 231 13).toInt from by omega⟩) (fun z => absurd (show (gI g0 231 14).toInt = 0 from (by first | exact h2 | omega)) z))⟩⟩
