def F_X11_readPart_231 : List (Nat × Nat) := [(231, 9), (231, 10), (231, 11), (231, 12), (231, 13), (231, 14), (231, 17), (231, 20), (231, 23), (231, 24)]
def A_X11_readPart_231 : List Nat := [238, 239, 240, 241]
theorem mf_X11_isSign_231_231_11 : memF F_X11_isSign_231 231 11 = false := by decide
theorem ma_X11_isSign_231_236 : memA A_X11_isSign_231 236 = false := by decide
theorem mf_X11_isSign_231_231_8 : memF F_X11_isSign_231 231 8 = false := by decide
theorem mf_X11_isSign_231_231_9 : memF F_X11_isSign_231 231 9 = false := by decide
theorem mf_X11_isSign_231_231_10 : memF F_X11_isSign_231 231 10 = false := by decide
theorem mf_X11_isSign_231_231_12 : memF F_X11_isSign_231 231 12 = false := by decide
theorem mf_X11_partAt_231_231_11 : memF F_X11_partAt_231 231 11 = false := by decide
theorem mf_X11_partAt_231_231_20 : memF F_X11_partAt_231 231 20 = false := by decide
theorem mf_X11_isSign_231_231_20 : memF F_X11_isSign_231 231 20 = false := by decide
theorem mf_X11_partAt_231_231_8 : memF F_X11_partAt_231 231 8 = false := by decide
theorem mf_X11_partAt_231_231_9 : memF F_X11_partAt_231 231 9 = false := by decide
theorem mf_X11_partAt_231_231_10 : memF F_X11_partAt_231 231 10 = false := by decide
theorem mf_X11_partAt_231_231_12 : memF F_X11_partAt_231 231 12 = false := by decide
theorem ma_X11_partAt_231_236 : memA A_X11_partAt_231 236 = false := by decide
theorem mf_X11_partAt_231_231_14 : memF F_X11_partAt_231 231 14 = false := by decide
theorem mf_X11_isSign_231_231_14 : memF F_X11_isSign_231 231 14 = false := by decide
theorem mf_X11_must_231_231_8 : memF F_X11_must_231 231 8 = false := by decide
theorem mf_X11_partAt_231_231_13 : memF F_X11_partAt_231 231 13 = false := by decide
theorem mf_X11_isSign_231_231_13 : memF F_X11_isSign_231 231 13 = false := by decide
theorem mf_X11_must_231_231_17 : memF F_X11_must_231 231 17 = false := by decide
theorem mf_X11_partAt_231_231_17 : memF F_X11_partAt_231 231 17 = false := by decide
theorem mf_X11_isSign_231_231_17 : memF F_X11_isSign_231 231 17 = false := by decide
theorem mf_X11_must_231_231_23 : memF F_X11_must_231 231 23 = false := by decide
theorem mf_X11_partAt_231_231_23 : memF F_X11_partAt_231 231 23 = false := by decide
theorem mf_X11_isSign_231_231_23 : memF F_X11_isSign_231 231 23 = false := by decide
theorem mf_X11_must_231_231_15 : memF F_X11_must_231 231 15 = false := by decide
theorem mf_X11_partAt_231_231_15 : memF F_X11_partAt_231 231 15 = false := by decide
theorem mf_X11_isSign_231_231_15 : memF F_X11_isSign_231 231 15 = false := by decide
theorem mf_X11_must_231_231_20 : memF F_X11_must_231 231 20 = false := by decide
theorem mf_X11_must_231_231_24 : memF F_X11_must_231 231 24 = false := by decide
theorem mf_X11_partAt_231_231_24 : memF F_X11_partAt_231 231 24 = false := by decide
theorem mf_X11_isSign_231_231_24 : memF F_X11_isSign_231 231 24 = false := by decide
theorem ma_X11_must_231_238 : memA A_X11_must_231 238 = false := by decide
theorem ma_X11_partAt_231_238 : memA A_X11_partAt_231 238 = false := by decide
theorem ma_X11_isSign_231_238 : memA A_X11_isSign_231 238 = false := by decide
theorem ma_X11_must_231_239 : memA A_X11_must_231 239 = false := by decide
theorem ma_X11_partAt_231_239 : memA A_X11_partAt_231 239 = false := by decide
theorem ma_X11_isSign_231_239 : memA A_X11_isSign_231 239 = false := by decide
theorem ma_X11_must_231_240 : memA A_X11_must_231 240 = false := by decide
theorem ma_X11_partAt_231_240 : memA A_X11_partAt_231 240 = false := by decide
theorem ma_X11_isSign_231_240 : memA A_X11_isSign_231 240 = false := by decide
theorem ma_X11_must_231_241 : memA A_X11_must_231 241 = false := by decide
theorem ma_X11_partAt_231_241 : memA A_X11_partAt_231 241 = false := by decide
theorem ma_X11_isSign_231_241 : memA A_X11_isSign_231 241 = false := by decide
theorem mf_X11_emit_231_231_20 : memF F_X11_emit_231 231 20 = false := by decide
theorem mf_X11_emit_231_231_8 : memF F_X11_emit_231 231 8 = false := by decide
theorem mf_X11_emit_231_231_9 : memF F_X11_emit_231 231 9 = false := by decide
theorem mf_X11_emit_231_231_10 : memF F_X11_emit_231 231 10 = false := by decide
theorem mf_X11_emit_231_231_11 : memF F_X11_emit_231 231 11 = false := by decide
theorem mf_X11_emit_231_231_12 : memF F_X11_emit_231 231 12 = false := by decide
theorem mf_X11_emit_231_231_14 : memF F_X11_emit_231 231 14 = false := by decide
theorem mf_X11_emit_231_231_13 : memF F_X11_emit_231 231 13 = false := by decide
theorem mf_X11_emit_231_231_15 : memF F_X11_emit_231 231 15 = false := by decide
theorem mf_X11_emit_231_231_24 : memF F_X11_emit_231 231 24 = false := by decide
theorem ma_X11_emit_231_236 : memA A_X11_emit_231 236 = false := by decide
theorem mf_X11_push_231_231_17 : memF F_X11_push_231 231 17 = false := by decide
theorem ma_X11_push_231_238 : memA A_X11_push_231 238 = false := by decide
theorem ma_X11_push_231_239 : memA A_X11_push_231 239 = false := by decide
theorem mf_X11_push_231_231_8 : memF F_X11_push_231 231 8 = false := by decide
theorem mf_X11_push_231_231_9 : memF F_X11_push_231 231 9 = false := by decide
theorem mf_X11_push_231_231_10 : memF F_X11_push_231 231 10 = false := by decide
theorem mf_X11_push_231_231_11 : memF F_X11_push_231 231 11 = false := by decide
theorem mf_X11_push_231_231_12 : memF F_X11_push_231 231 12 = false := by decide
theorem mf_X11_push_231_231_14 : memF F_X11_push_231 231 14 = false := by decide
theorem mf_X11_push_231_231_13 : memF F_X11_push_231 231 13 = false := by decide
theorem mf_X11_push_231_231_15 : memF F_X11_push_231 231 15 = false := by decide
theorem mf_X11_push_231_231_20 : memF F_X11_push_231 231 20 = false := by decide
theorem mf_X11_push_231_231_24 : memF F_X11_push_231 231 24 = false := by decide
theorem ma_X11_push_231_236 : memA A_X11_push_231 236 = false := by decide
set_option maxRecDepth 100000 in
set_option maxHeartbeats 4000000 in
theorem T_X11_readPart_231 (d : Nat) {N : Nat} {g0 : List en_E} (hI0 : HI g0) (b : Int) (o0 : Int → Int) (a0 : Int → Int) (h1 : ((gI g0 231 9).toInt ≤ (gI g0 231 10).toInt ∧ (gI g0 231 10).toInt ≤ (gI g0 231 8).toInt ∧ 0 ≤ (gI g0 231 11).toInt ∧ (gI g0 231 11).toInt ≤ 3 * ((gI g0 231 10).toInt - (gI g0 231 9).toInt))) (h2 : (gI g0 231 14).toInt = 0) (h3 : (gI g0 231 17).toInt + (gI g0 231 23).toInt ≤ (gI g0 231 9).toInt) (hW : W26 g0) (hP : PT g0 b 1 o0 a0) (hK : TKM g0) : Ev (d + 5) 204 [.ref 231] (g0, N) (fun w h' => ∃ g', h' = (g', N) ∧ HI g' ∧ Fr F_X11_readPart_231 A_X11_readPart_231 g0 g' ∧ ∃ r : Int32, w = some (.int r) ∧ (1 ≤ r.toInt ∧ r.toInt ≤ 3) ∧ ((gI g' 231 9).toInt ≤ (gI g' 231 10).toInt ∧ (gI g' 231 10).toInt ≤ (gI g' 231 8).toInt ∧ 0 ≤ (gI g' 231 11).toInt ∧ (gI g' 231 11).toInt ≤ 3 * ((gI g' 231 10).toInt - (gI g' 231 9).toInt) ∧ W26 g' ∧ (gI g' 231 17).toInt + (gI g' 231 23).toInt ≤ 400 ∧ (gI g0 231 9).toInt ≤ (gI g' 231 9).toInt ∧ TURN g' b r.toInt o0 a0 ∧ PRG (gI g' 231 14).toInt (gI g0 231 9).toInt (gI g' 231 9).toInt r.toInt 4 ∧ TKM g' ∧ MTP g0 g' 1 r.toInt (fun _ => True) ∧ MGT g0 g' 1 r.toInt (fun _ => True))) := by
  have hF0 : Fr F_X11_readPart_231 A_X11_readPart_231 g0 g0 := Fr.rf
  obtain ⟨v1, hv1⟩ : ∃ v, gI g0 231 8 = v := ⟨_, rfl⟩
  have rv1 := RgF.at hI0.2.1 (p := 231) (b := 8) rfl
  rw [hv1] at rv1
  dsimp only at rv1
  have tv1 := congrArg Int32.toInt hv1
  obtain ⟨v2, hv2⟩ : ∃ v, gI g0 231 9 = v := ⟨_, rfl⟩
  have rv2 := RgF.at hI0.2.1 (p := 231) (b := 9) rfl
  rw [hv2] at rv2
  dsimp only at rv2
  have tv2 := congrArg Int32.toInt hv2
  obtain ⟨v3, hv3⟩ : ∃ v, gI g0 231 10 = v := ⟨_, rfl⟩
  have rv3 := RgF.at hI0.2.1 (p := 231) (b := 10) rfl
  rw [hv3] at rv3
  dsimp only at rv3
  have tv3 := congrArg Int32.toInt hv3
  obtain ⟨v4, hv4⟩ : ∃ v, gI g0 231 11 = v := ⟨_, rfl⟩
  have tv4 := congrArg Int32.toInt hv4
  obtain ⟨v5, hv5⟩ : ∃ v, gJ g0 231 12 = v := ⟨_, rfl⟩
  have tv5 := congrArg Int64.toInt hv5
  obtain ⟨v6, hv6⟩ : ∃ v, gI g0 231 14 = v := ⟨_, rfl⟩
  have tv6 := congrArg Int32.toInt hv6
  obtain ⟨v7, hv7⟩ : ∃ v, gI g0 231 17 = v := ⟨_, rfl⟩
  have rv7 := RgF.at hI0.2.1 (p := 231) (b := 17) rfl
  rw [hv7] at rv7
  dsimp only at rv7
  have tv7 := congrArg Int32.toInt hv7
  obtain ⟨v8, hv8⟩ : ∃ v, gI g0 231 23 = v := ⟨_, rfl⟩
  have rv8 := RgF.at hI0.2.1 (p := 231) (b := 23) rfl
  rw [hv8] at rv8
  dsimp only at rv8
  have tv8 := congrArg Int32.toInt hv8
  refine Ev.mk rfl rfl ⟨Nat.le_of_ble_eq_true rfl, Or.inr (q_rc hI0.1 kx_231 rfl)⟩ ?_
  show At _ none _ _ (0, [(0, .ref 231)], [], (_, _)) _
  refine At.enter rfl ?_
  refine r_aload_n rfl ?_
  refine r_bipush 91 rfl ?_
  have zv1788 : (91 : Int32).toInt = 91 := rfl
  refine r_callV 6 rfl [.ref 231, .int 91] [] (Nat.le_of_ble_eq_true rfl) rfl (T_X11_isSign_231 _ hI0 91 (by omega)) ?_
  rintro _ _ ⟨g1789, rfl, hI1790, hF1791, v1792, rfl, hr1793⟩
  refine At.sti ?_
  have hF1794 := Fr.tr hF0 hF1791 rfl rfl
  have x1797 := HI.eqI hI1790 (p := 231) (b := 11) (((hF1791.1 231 11 mf_X11_isSign_231_231_11).trans hv4))
  have hb1798 : BL (CDM g0 = 3) v1792.toInt := ISM.sign (c := 3) hr1793.2.2 hK (isSC_d (by omega)) (by decide +kernel)
  refine At.enter rfl ?_
  refine r_ifs 9 rfl (fun c1799 => ?_) (fun c1799 => ?_)
  · have c1799_ : v1792.toInt = 0 := en_k_eq_t c1799
    have i1800 := BL.no hb1798 (by omega)
    refine At.enter rfl ?_
    refine r_aload_n rfl ?_
    refine r_callV 21 rfl [.ref 231] [] (Nat.le_of_ble_eq_true rfl) rfl (T_X11_partAt_231 _ hI1790 (by omega) (TKM.c hK ((hF1791.2.1 236 ma_X11_isSign_231_236)) ((hF1791.1 231 8 mf_X11_isSign_231_231_8)) ((hF1791.1 231 9 mf_X11_isSign_231_231_9)) ((hF1791.1 231 10 mf_X11_isSign_231_231_10)) ((hF1791.1 231 11 mf_X11_isSign_231_231_11)) ((hF1791.2.2 231 12 mf_X11_isSign_231_231_12)))) ?_
    rintro _ _ ⟨g1802, rfl, hI1803, hF1804, v1805, rfl, hr1806⟩
    refine At.sti ?_
    have hF1807 := Fr.tr hF1794 hF1804 rfl rfl
    have x1809 := HI.eqI hI1803 (p := 231) (b := 11) ((((hF1804.1 231 11 mf_X11_partAt_231_231_11).trans (hF1791.1 231 11 mf_X11_isSign_231_231_11)).trans hv4))
    have pa1810 : PAI (CDM g0) 9 v1805.toInt := by have z := hr1806.2.2; rw [CDM.c ((hF1791.2.1 236 ma_X11_isSign_231_236)) ((hF1791.1 231 9 mf_X11_isSign_231_231_9)) ((hF1791.1 231 10 mf_X11_isSign_231_231_10)) ((hF1791.1 231 11 mf_X11_isSign_231_231_11))] at z; exact z
    refine At.enter rfl ?_
    refine r_istore_n ([(1, .int v1805), (0, .ref 231)]) rfl ?_
    refine r_aload_n rfl ?_
    refine q_getI (Sh.int hI1803.1 kx_231 rfl) v4 (((hF1804.1 231 11 mf_X11_partAt_231_231_11).trans (hF1791.1 231 11 mf_X11_isSign_231_231_11)).trans hv4) ?_
    refine r_iconst 2 rfl ?_
    refine r_ics 30 rfl (fun c1811 => ?_) (fun c1811 => ?_)
    · have c1811_ : v4.toInt ≠ 2 := en_i_ne_t c1811
      refine At.enter rfl ?_
      refine r_iconst 0 rfl ?_
      refine Ar.fall 46 rfl ?_
      refine At.enter rfl ?_
      refine r_istore_n ([(2, .int 0), (1, .int v1805), (0, .ref 231)]) rfl ?_
      refine r_aload_n rfl ?_
      refine r_iload_n rfl ?_
      refine r_iconst (-1) rfl ?_
      refine r_ics 53 rfl (fun c1812 => ?_) (fun c1812 => ?_)
      · have c1812_ : v1805.toInt ≠ (-1) := en_i_ne_t c1812
        refine At.enter rfl ?_
        refine r_iconst 1 rfl ?_
        refine r_goto ?_
        refine At.enter rfl ?_
        refine r_iload_n rfl ?_
        refine r_iconst (-1) rfl ?_
        refine r_ics 67 rfl (fun c1813 => ?_) (fun c1813 => ?_)
        · have c1813_ : v1805.toInt ≠ (-1) := en_i_ne_t c1813
          refine At.enter rfl ?_
          refine r_iload_n rfl ?_
          refine Ar.fall 72 rfl ?_
          refine At.enter rfl ?_
          refine r_iload_n rfl ?_
          refine r_ift (by decide) ?_
          refine At.enter rfl ?_
          refine r_iconst 0 rfl ?_
          refine Ar.fall 85 rfl ?_
          refine At.enter rfl ?_
          refine q_inlV 88 rfl [.ref 231, .int 1, .int v1805, .int 0] [] (Nat.le_of_ble_eq_true rfl) rfl ?_
          refine Ev.mk rfl rfl ⟨Nat.le_of_ble_eq_true rfl, Or.inr (q_rc hI1803.1 kx_231 rfl)⟩ ?_
          show At _ none _ _ (0, [(0, .ref 231), (1, .int 1), (2, .int v1805), (3, .int 0)], [], (_, _)) _
          refine At.enter rfl ?_
          refine r_aload_n rfl ?_
          refine r_iload_n rfl ?_
          refine r_iff 5 rfl (by decide) ?_
          refine At.enter rfl ?_
          refine r_aload_n rfl ?_
          obtain ⟨v1814, hv1814⟩ : ∃ v, gI g0 231 20 = v := ⟨_, rfl⟩
          refine q_getI (Sh.int hI1803.1 kx_231 rfl) v1814 (((hF1804.1 231 20 mf_X11_partAt_231_231_20).trans (hF1791.1 231 20 mf_X11_isSign_231_231_20)).trans hv1814) ?_
          refine r_bipush 50 rfl ?_
          refine r_ics 14 rfl (fun c1815 => ?_) (fun c1815 => ?_)
          · have c1815_ : v1814.toInt ≥ 50 := en_i_ge_t c1815
            refine At.enter rfl ?_
            refine r_iconst 0 rfl ?_
            refine Ar.fall 19 rfl ?_
            refine At.enter rfl ?_
            have x1816 := HI.eqI hI1803 (p := 231) (b := 8) ((((hF1804.1 231 8 mf_X11_partAt_231_231_8).trans (hF1791.1 231 8 mf_X11_isSign_231_231_8)).trans hv1))
            have x1817 := HI.eqI hI1803 (p := 231) (b := 9) ((((hF1804.1 231 9 mf_X11_partAt_231_231_9).trans (hF1791.1 231 9 mf_X11_isSign_231_231_9)).trans hv2))
            have x1818 := HI.eqI hI1803 (p := 231) (b := 10) ((((hF1804.1 231 10 mf_X11_partAt_231_231_10).trans (hF1791.1 231 10 mf_X11_isSign_231_231_10)).trans hv3))
            have w261820 := W26.cong hW hI1803 (((hF1804.1 231 9 mf_X11_partAt_231_231_9).trans (hF1791.1 231 9 mf_X11_isSign_231_231_9))) (((hF1804.1 231 10 mf_X11_partAt_231_231_10).trans (hF1791.1 231 10 mf_X11_isSign_231_231_10))) (((hF1804.1 231 11 mf_X11_partAt_231_231_11).trans (hF1791.1 231 11 mf_X11_isSign_231_231_11))) (((hF1804.2.2 231 12 mf_X11_partAt_231_231_12).trans (hF1791.2.2 231 12 mf_X11_isSign_231_231_12)))
            have zv1821 : (0 : Int32).toInt = 0 := rfl
            refine r_callV 22 rfl [.ref 231, .int 0] [] (Nat.le_of_ble_eq_true rfl) rfl (T_X11_must_231 _ hI1803 0 (by decide) (by refine ⟨?_, ?_, ?_, ?_⟩ <;> omega) w261820 (TKM.c hK (((hF1804.2.1 236 ma_X11_partAt_231_236).trans (hF1791.2.1 236 ma_X11_isSign_231_236))) (((hF1804.1 231 8 mf_X11_partAt_231_231_8).trans (hF1791.1 231 8 mf_X11_isSign_231_231_8))) (((hF1804.1 231 9 mf_X11_partAt_231_231_9).trans (hF1791.1 231 9 mf_X11_isSign_231_231_9))) (((hF1804.1 231 10 mf_X11_partAt_231_231_10).trans (hF1791.1 231 10 mf_X11_isSign_231_231_10))) (((hF1804.1 231 11 mf_X11_partAt_231_231_11).trans (hF1791.1 231 11 mf_X11_isSign_231_231_11))) (((hF1804.2.2 231 12 mf_X11_partAt_231_231_12).trans (hF1791.2.2 231 12 mf_X11_isSign_231_231_12))))) ?_
            rintro _ _ ⟨g1822, rfl, hI1823, hF1824, rfl, hr1826⟩
            refine At.stn ?_
            have hF1827 := Fr.tr hF1807 hF1824 rfl rfl
            have x1833 := HI.eqI hI1803 (p := 231) (b := 14) ((((hF1804.1 231 14 mf_X11_partAt_231_231_14).trans (hF1791.1 231 14 mf_X11_isSign_231_231_14)).trans hv6))
            have x1834 := HI.eqI hI1823 (p := 231) (b := 8) ((((hF1824.1 231 8 mf_X11_must_231_231_8).trans ((hF1804.1 231 8 mf_X11_partAt_231_231_8).trans (hF1791.1 231 8 mf_X11_isSign_231_231_8))).trans hv1))
            obtain ⟨v1835, hv1835⟩ : ∃ v, gI g1822 231 9 = v := ⟨_, rfl⟩
            have rv1835 := RgF.at hI1823.2.1 (p := 231) (b := 9) rfl
            rw [hv1835] at rv1835
            dsimp only at rv1835
            have tv1835 := congrArg Int32.toInt hv1835
            obtain ⟨v1837, hv1837⟩ : ∃ v, gI g1822 231 10 = v := ⟨_, rfl⟩
            have rv1837 := RgF.at hI1823.2.1 (p := 231) (b := 10) rfl
            rw [hv1837] at rv1837
            dsimp only at rv1837
            have tv1837 := congrArg Int32.toInt hv1837
            obtain ⟨v1839, hv1839⟩ : ∃ v, gI g1822 231 11 = v := ⟨_, rfl⟩
            have tv1839 := congrArg Int32.toInt hv1839
            obtain ⟨v1841, hv1841⟩ : ∃ v, gI g1822 231 14 = v := ⟨_, rfl⟩
            have tv1841 := congrArg Int32.toInt hv1841
            obtain ⟨c1843, c1844, c1845, c1846, c1847, c1848, c1849, c1850⟩ := hr1826
            obtain ⟨v1851, hv1851⟩ : ∃ v, gI g0 231 13 = v := ⟨_, rfl⟩
            have tv1851 := congrArg Int32.toInt hv1851
            have x1852 := HI.eqI hI1803 (p := 231) (b := 13) ((((hF1804.1 231 13 mf_X11_partAt_231_231_13).trans (hF1791.1 231 13 mf_X11_isSign_231_231_13)).trans hv1851))
            obtain ⟨v1854, hv1854⟩ : ∃ v, gI g1822 231 13 = v := ⟨_, rfl⟩
            have tv1854 := congrArg Int32.toInt hv1854
            unfold MUSTP at c1850
            rw [TM.c (((hF1804.2.1 236 ma_X11_partAt_231_236).trans (hF1791.2.1 236 ma_X11_isSign_231_236))), nM.c (((hF1804.1 231 8 mf_X11_partAt_231_231_8).trans (hF1791.1 231 8 mf_X11_isSign_231_231_8))), pI.c (b := 14) (((hF1804.1 231 14 mf_X11_partAt_231_231_14).trans (hF1791.1 231 14 mf_X11_isSign_231_231_14))), pI.c (b := 13) (((hF1804.1 231 13 mf_X11_partAt_231_231_13).trans (hF1791.1 231 13 mf_X11_isSign_231_231_13))), pI.c (b := 10) (((hF1804.1 231 10 mf_X11_partAt_231_231_10).trans (hF1791.1 231 10 mf_X11_isSign_231_231_10))), pI.c (b := 9) (((hF1804.1 231 9 mf_X11_partAt_231_231_9).trans (hF1791.1 231 9 mf_X11_isSign_231_231_9)))] at c1850
            have mu1856 : MUSTP g0 g1822 0 := c1850
            clear c1850
            have hK1857 := mu1856.1
            refine At.enter rfl ?_
            refine r_aload_n rfl ?_
            refine q_getI (Sh.int hI1823.1 kx_231 rfl) v1841 hv1841 ?_
            refine r_ifs 29 rfl (fun c1858 => ?_) (fun c1858 => ?_)
            · have c1858_ : v1841.toInt ≠ 0 := en_k_ne_t c1858
              clear c1849
              obtain ⟨i1859, i1860⟩ := MUSTP.y mu1856 (by omega) (by omega)
              refine At.enter rfl ?_
              refine q_vret ?_
              refine At.enter rfl ?_
              refine r_iconst 3 rfl ?_
              refine r_ireti ?_
              obtain ⟨v1865, hv1865⟩ : ∃ v, gJ g1822 231 12 = v := ⟨_, rfl⟩
              have x1866 := HI.eqJ hI1823 (b := 12) (hv1865)
              have x1868 := HI.eqI hI1823 (p := 231) (b := 17) ((((hF1824.1 231 17 mf_X11_must_231_231_17).trans ((hF1804.1 231 17 mf_X11_partAt_231_231_17).trans (hF1791.1 231 17 mf_X11_isSign_231_231_17))).trans hv7))
              have x1869 := HI.eqI hI1823 (p := 231) (b := 23) ((((hF1824.1 231 23 mf_X11_must_231_231_23).trans ((hF1804.1 231 23 mf_X11_partAt_231_231_23).trans (hF1791.1 231 23 mf_X11_isSign_231_231_23))).trans hv8))
              have zv1871 : (3 : Int32).toInt = 3 := rfl
              obtain ⟨v1875, hv1875⟩ : ∃ v, gI g0 231 15 = v := ⟨_, rfl⟩
              have rv1875 := RgF.at hI0.2.1 (p := 231) (b := 15) rfl
              rw [hv1875] at rv1875
              dsimp only at rv1875
              have tv1875 := congrArg Int32.toInt hv1875
              have x1876 := HI.eqI hI1823 (p := 231) (b := 15) ((((hF1824.1 231 15 mf_X11_must_231_231_15).trans ((hF1804.1 231 15 mf_X11_partAt_231_231_15).trans (hF1791.1 231 15 mf_X11_isSign_231_231_15))).trans hv1875))
              have x1877 := HI.eqI hI1823 (p := 231) (b := 20) ((((hF1824.1 231 20 mf_X11_must_231_231_20).trans ((hF1804.1 231 20 mf_X11_partAt_231_231_20).trans (hF1791.1 231 20 mf_X11_isSign_231_231_20))).trans hv1814))
              obtain ⟨v1879, hv1879⟩ : ∃ v, gI g0 231 24 = v := ⟨_, rfl⟩
              have tv1879 := congrArg Int32.toInt hv1879
              have x1880 := HI.eqI hI1823 (p := 231) (b := 24) ((((hF1824.1 231 24 mf_X11_must_231_231_24).trans ((hF1804.1 231 24 mf_X11_partAt_231_231_24).trans (hF1791.1 231 24 mf_X11_isSign_231_231_24))).trans hv1879))
              have x1885 := HI.eqI hI0 (p := 231) (b := 20) (hv1814)
              have lp := pa1810
              unfold PAI at lp
              have ld := CDM.dig hK
              have y1888 : pI g0 11 = (gI g0 231 11).toInt := rfl
              have y1889 : wth g0 = (gJ g0 231 12).toInt := rfl
              have x1891 := HI.eqJ hI0 (b := 12) (hv5)
              have mf1892 := mu1856.2.2.1 (show (gI g0 231 14).toInt = 0 from by omega) (by omega)
              have y1893 : (gI _ 231 14).toInt ≠ 0 := mf1892.1
              have y1894 : (gI _ 231 13).toInt = (gI g0 231 9).toInt := mf1892.2
              exact ⟨_, rfl, hI1823, hF1827, _, rfl, by decide, ⟨by omega, by omega, by omega, by omega, c1848, by omega, by omega, (fun hbad => ⟨by omega, (PT.mk (fun h => by first | exact absurd h (by decide) | (exfalso; omega)) (fun h => by first | exact absurd h (by decide) | (exfalso; omega)) (fun h h9 => by first | exact absurd h (by decide) | (exfalso; omega)) (fun h => by first | exact absurd h (by decide) | (exfalso; omega)))⟩), (fun hbad => by omega), hK1857, (fun c0 b hC h => M.leafF h (TKM.some hK).choose_spec (by omega) (fun z => by have z1 := z.1; have z2 : (gI g0 231 20).toInt < 50 := z.2; omega) (fun _ => ⟨show (gI _ 231 14).toInt ≠ 0 from by omega, show (gI _ 231 13).toInt = (gI g0 231 9).toInt from by omega⟩) (fun z => absurd (show (gI g0 231 14).toInt = 0 from (by first | exact h2 | omega)) z) _), (fun h14 c0 b K hC h => absurd (show (gI _ 231 14).toInt = 0 from h14) (by omega))⟩⟩
            · have c1858_ : v1841.toInt = 0 := en_k_ne_f c1858
              obtain ⟨i1895, i1896, i1897⟩ := c1849 (by omega)
              obtain ⟨i1898, i1899⟩ := MUSTP.z mu1856 (by omega) (by omega)
              refine At.enter rfl ?_
              refine r_aload_n rfl ?_
              refine r_iload_n rfl ?_
              refine r_iload_n rfl ?_
              have x1900 := HI.eqI hI1823 (p := 231) (b := 17) ((((hF1824.1 231 17 mf_X11_must_231_231_17).trans ((hF1804.1 231 17 mf_X11_partAt_231_231_17).trans (hF1791.1 231 17 mf_X11_isSign_231_231_17))).trans hv7))
              refine r_callV 35 rfl [.ref 231, .int v1805, .int 0] [] (Nat.le_of_ble_eq_true rfl) rfl (T_X11_emit_231 _ hI1823 v1805 0 (by omega)) ?_
              rintro _ _ ⟨g1902, rfl, hI1903, hF1904, rfl, hr1906⟩
              refine At.stn ?_
              have hF1907 := Fr.tr hF1827 hF1904 rfl rfl
              have x1910 := HI.eqI hI1823 (p := 231) (b := 23) ((((hF1824.1 231 23 mf_X11_must_231_231_23).trans ((hF1804.1 231 23 mf_X11_partAt_231_231_23).trans (hF1791.1 231 23 mf_X11_isSign_231_231_23))).trans hv8))
              obtain ⟨v1911, hv1911⟩ : ∃ v, gI g1902 231 17 = v := ⟨_, rfl⟩
              have rv1911 := RgF.at hI1903.2.1 (p := 231) (b := 17) rfl
              rw [hv1911] at rv1911
              dsimp only at rv1911
              have tv1911 := congrArg Int32.toInt hv1911
              have y1913 : (gI _ 231 17).toInt = (gI _ 231 17).toInt + 1 := hr1906.1.1
              have pg1915 := PG.cong (hP.1 (by decide)) hI1823 (((hF1824.2.1 238 ma_X11_must_231_238).trans ((hF1804.2.1 238 ma_X11_partAt_231_238).trans (hF1791.2.1 238 ma_X11_isSign_231_238)))) (((hF1824.2.1 239 ma_X11_must_231_239).trans ((hF1804.2.1 239 ma_X11_partAt_231_239).trans (hF1791.2.1 239 ma_X11_isSign_231_239)))) (((hF1824.2.1 240 ma_X11_must_231_240).trans ((hF1804.2.1 240 ma_X11_partAt_231_240).trans (hF1791.2.1 240 ma_X11_isSign_231_240)))) (((hF1824.2.1 241 ma_X11_must_231_241).trans ((hF1804.2.1 241 ma_X11_partAt_231_241).trans (hF1791.2.1 241 ma_X11_isSign_231_241)))) (((hF1824.1 231 17 mf_X11_must_231_231_17).trans ((hF1804.1 231 17 mf_X11_partAt_231_231_17).trans (hF1791.1 231 17 mf_X11_isSign_231_231_17)))) (((hF1824.1 231 23 mf_X11_must_231_231_23).trans ((hF1804.1 231 23 mf_X11_partAt_231_231_23).trans (hF1791.1 231 23 mf_X11_isSign_231_231_23))))
              have pg1914 := PG.emit (e' := 1) pg1915 hr1906.1 (hF1904.2.1 240 ma_X11_emit_231_240) (hF1904.2.1 241 ma_X11_emit_231_241) (hF1904.1 231 23 mf_X11_emit_231_231_23) (Or.inl ⟨by omega, by omega, by decide, by decide⟩)
              refine At.enter rfl ?_
              refine r_aload_n rfl ?_
              refine r_dup rfl ?_
              refine q_getI (Sh.int hI1903.1 kx_231 rfl) v1814 (((hF1904.1 231 20 mf_X11_emit_231_231_20).trans ((hF1824.1 231 20 mf_X11_must_231_231_20).trans ((hF1804.1 231 20 mf_X11_partAt_231_231_20).trans (hF1791.1 231 20 mf_X11_isSign_231_231_20)))).trans hv1814) ?_
              refine r_iconst 1 rfl ?_
              refine q_iaddO (fun v1916 _ => ?_)
              refine q_putI (Sh.int hI1903.1 kx_231 rfl) rfl ?_
              have hI1917 := HI.wI0 hI1903 kx_231 rfl (p := 231) (b := 20) (v := v1916) rfl
              have hF1918 := Fr.wI (p := 231) (b := 20) (v := v1916) hF1907 rfl
              refine Ar.fall 45 rfl ?_
              refine At.enter rfl ?_
              refine q_vret ?_
              refine At.enter rfl ?_
              refine r_iconst 3 rfl ?_
              refine r_ireti ?_
              have x1919 := HI.eqI hI1917 (p := 231) (b := 8) ((((gI_sI_ne (by decide)).trans ((hF1904.1 231 8 mf_X11_emit_231_231_8).trans ((hF1824.1 231 8 mf_X11_must_231_231_8).trans ((hF1804.1 231 8 mf_X11_partAt_231_231_8).trans (hF1791.1 231 8 mf_X11_isSign_231_231_8))))).trans hv1))
              have x1920 := HI.eqI hI1917 (p := 231) (b := 9) ((((gI_sI_ne (by decide)).trans (hF1904.1 231 9 mf_X11_emit_231_231_9)).trans hv1835))
              have x1921 := HI.eqI hI1917 (p := 231) (b := 10) ((((gI_sI_ne (by decide)).trans (hF1904.1 231 10 mf_X11_emit_231_231_10)).trans hv1837))
              have x1922 := HI.eqI hI1917 (p := 231) (b := 11) ((((gI_sI_ne (by decide)).trans (hF1904.1 231 11 mf_X11_emit_231_231_11)).trans hv1839))
              obtain ⟨v1923, hv1923⟩ : ∃ v, gJ g1822 231 12 = v := ⟨_, rfl⟩
              have x1924 := HI.eqJ hI1917 (b := 12) ((((gJ_sI_ne (by decide)).trans (hF1904.2.2 231 12 mf_X11_emit_231_231_12)).trans hv1923))
              have x1925 := HI.eqI hI1917 (p := 231) (b := 14) ((((gI_sI_ne (by decide)).trans (hF1904.1 231 14 mf_X11_emit_231_231_14)).trans hv1841))
              have x1926 := HI.eqI hI1917 (p := 231) (b := 17) (((gI_sI_ne (by decide)).trans hv1911))
              have x1927 := HI.eqI hI1917 (p := 231) (b := 23) ((((gI_sI_ne (by decide)).trans ((hF1904.1 231 23 mf_X11_emit_231_231_23).trans ((hF1824.1 231 23 mf_X11_must_231_231_23).trans ((hF1804.1 231 23 mf_X11_partAt_231_231_23).trans (hF1791.1 231 23 mf_X11_isSign_231_231_23))))).trans hv8))
              have zv1929 : (3 : Int32).toInt = 3 := rfl
              have pg1930 := PG.cong pg1914 hI1917 ((gA_sI)) ((gA_sI)) ((gA_sI)) ((gA_sI)) ((gI_sI_ne (by decide))) ((gI_sI_ne (by decide)))
              have w261931 := W26.cong c1848 hI1917 (((gI_sI_ne (by decide)).trans (hF1904.1 231 9 mf_X11_emit_231_231_9))) (((gI_sI_ne (by decide)).trans (hF1904.1 231 10 mf_X11_emit_231_231_10))) (((gI_sI_ne (by decide)).trans (hF1904.1 231 11 mf_X11_emit_231_231_11))) (((gJ_sI_ne (by decide)).trans (hF1904.2.2 231 12 mf_X11_emit_231_231_12)))
              have x1933 := HI.eqI hI1917 (p := 231) (b := 13) ((((gI_sI_ne (by decide)).trans (hF1904.1 231 13 mf_X11_emit_231_231_13)).trans hv1854))
              obtain ⟨v1935, hv1935⟩ : ∃ v, gI g0 231 15 = v := ⟨_, rfl⟩
              have rv1935 := RgF.at hI0.2.1 (p := 231) (b := 15) rfl
              rw [hv1935] at rv1935
              dsimp only at rv1935
              have tv1935 := congrArg Int32.toInt hv1935
              have x1936 := HI.eqI hI1917 (p := 231) (b := 15) ((((gI_sI_ne (by decide)).trans ((hF1904.1 231 15 mf_X11_emit_231_231_15).trans ((hF1824.1 231 15 mf_X11_must_231_231_15).trans ((hF1804.1 231 15 mf_X11_partAt_231_231_15).trans (hF1791.1 231 15 mf_X11_isSign_231_231_15))))).trans hv1935))
              have x1937 := HI.eqI hI1917 (p := 231) (b := 20) ((gI_sI_eq hI1903.1 kx_231 rfl _))
              obtain ⟨v1939, hv1939⟩ : ∃ v, gI g0 231 24 = v := ⟨_, rfl⟩
              have tv1939 := congrArg Int32.toInt hv1939
              have x1940 := HI.eqI hI1917 (p := 231) (b := 24) ((((gI_sI_ne (by decide)).trans ((hF1904.1 231 24 mf_X11_emit_231_231_24).trans ((hF1824.1 231 24 mf_X11_must_231_231_24).trans ((hF1804.1 231 24 mf_X11_partAt_231_231_24).trans (hF1791.1 231 24 mf_X11_isSign_231_231_24))))).trans hv1939))
              have x1945 := HI.eqI hI0 (p := 231) (b := 20) (hv1814)
              have lp := pa1810
              unfold PAI at lp
              have ld := CDM.dig hK
              have y1948 : pI g0 11 = (gI g0 231 11).toInt := rfl
              have y1949 : wth g0 = (gJ g0 231 12).toInt := rfl
              have x1951 := HI.eqJ hI0 (b := 12) (hv5)
              have y1956 : (gI g1822 231 13).toInt = (gI g0 231 13).toInt := (mu1856.2.1 (show (gI g0 231 14).toInt = 0 from by omega) (by omega)).2.1
              have dg1957 := fun a b => CDM_dg hK a b
              exact ⟨_, rfl, hI1917, hF1918, _, rfl, by decide, ⟨by omega, by omega, by omega, by omega, w261931, by omega, by omega, (fun hbad => ⟨by omega, (PT.mk (fun h => by first | exact absurd h (by decide) | (exfalso; omega)) (fun _ => pg1930) (fun h h9 => by first | exact absurd h (by decide) | (exfalso; omega)) (fun h => by first | exact absurd h (by decide) | (exfalso; omega)))⟩), (fun hbad => by omega), (TKM.c hK1857 (((gA_sI).trans (hF1904.2.1 236 ma_X11_emit_231_236))) (((gI_sI_ne (by decide)).trans (hF1904.1 231 8 mf_X11_emit_231_231_8))) (((gI_sI_ne (by decide)).trans (hF1904.1 231 9 mf_X11_emit_231_231_9))) (((gI_sI_ne (by decide)).trans (hF1904.1 231 10 mf_X11_emit_231_231_10))) (((gI_sI_ne (by decide)).trans (hF1904.1 231 11 mf_X11_emit_231_231_11))) (((gJ_sI_ne (by decide)).trans (hF1904.2.2 231 12 mf_X11_emit_231_231_12)))), (fun c0 b hC h => M.leaf h (by rw [pI.c (((gI_sI_ne (by decide)).trans (hF1904.1 231 9 mf_X11_emit_231_231_9)))]; exact (MUSTP.tok hK mu1856 (by omega) (by omega))) (by omega) (show (gI g0 231 20).toInt < 50 from by omega) (((gA_sI).trans ((hF1904.2.1 240 ma_X11_emit_231_240).trans ((hF1824.2.1 240 ma_X11_must_231_240).trans ((hF1804.2.1 240 ma_X11_partAt_231_240).trans (hF1791.2.1 240 ma_X11_isSign_231_240)))))) (show (gI _ 231 23).toInt = (gI g0 231 23).toInt from (by first | exact x1927.trans tv8.symm | omega)) (show (gI _ 231 24).toInt = (gI g0 231 24).toInt from (by first | exact x1940.trans tv1939.symm | omega)) (show (gI _ 231 20).toInt = (gI g0 231 20).toInt + 1 from by omega) (show (gI _ 231 15).toInt = (gI g0 231 15).toInt from (by first | exact x1936.trans tv1935.symm | omega)) (fun _ => ⟨show (gI _ 231 14).toInt = 0 from by omega, show (gI _ 231 13).toInt = (gI g0 231 13).toInt from by omega⟩) (fun z => absurd (show (gI g0 231 14).toInt = 0 from (by first | exact h2 | omega)) z)), (fun h14 c0 b K hC h => MG_leaf h (by rw [pI.c (((gI_sI_ne (by decide)).trans (hF1904.1 231 9 mf_X11_emit_231_231_9)))]; exact (MUSTP.tok hK mu1856 (by omega) (by omega))) (by first | omega | (have d1 := dg1957 (by show (gI g0 231 11).toInt = 2; omega) (by show (gJ g0 231 12).toInt ≤ 1000; omega); omega)) (((gA_sI).trans ((hF1904.2.1 240 ma_X11_emit_231_240).trans ((hF1824.2.1 240 ma_X11_must_231_240).trans ((hF1804.2.1 240 ma_X11_partAt_231_240).trans (hF1791.2.1 240 ma_X11_isSign_231_240)))))) (((gA_sI).trans ((hF1904.2.1 241 ma_X11_emit_231_241).trans ((hF1824.2.1 241 ma_X11_must_231_241).trans ((hF1804.2.1 241 ma_X11_partAt_231_241).trans (hF1791.2.1 241 ma_X11_isSign_231_241)))))) (pI.c (((gI_sI_ne (by decide)).trans ((hF1904.1 231 23 mf_X11_emit_231_231_23).trans ((hF1824.1 231 23 mf_X11_must_231_231_23).trans ((hF1804.1 231 23 mf_X11_partAt_231_231_23).trans (hF1791.1 231 23 mf_X11_isSign_231_231_23))))))) (EMG_fr hr1906.2 (SMG_mk (((hF1824.2.1 238 ma_X11_must_231_238).trans ((hF1804.2.1 238 ma_X11_partAt_231_238).trans (hF1791.2.1 238 ma_X11_isSign_231_238)))) (((hF1824.2.1 239 ma_X11_must_231_239).trans ((hF1804.2.1 239 ma_X11_partAt_231_239).trans (hF1791.2.1 239 ma_X11_isSign_231_239)))) (((hF1824.1 231 17 mf_X11_must_231_231_17).trans ((hF1804.1 231 17 mf_X11_partAt_231_231_17).trans (hF1791.1 231 17 mf_X11_isSign_231_231_17))))) (SMG_mk ((gA_sI)) ((gA_sI)) ((gI_sI_ne (by decide))))))⟩⟩
          · have c1815_ : v1814.toInt < 50 := en_i_ge_f c1815
            refine At.enter rfl ?_
            refine r_iconst 1 rfl ?_
            refine r_goto ?_
            refine At.enter rfl ?_
            have x1958 := HI.eqI hI1803 (p := 231) (b := 8) ((((hF1804.1 231 8 mf_X11_partAt_231_231_8).trans (hF1791.1 231 8 mf_X11_isSign_231_231_8)).trans hv1))
            have x1959 := HI.eqI hI1803 (p := 231) (b := 9) ((((hF1804.1 231 9 mf_X11_partAt_231_231_9).trans (hF1791.1 231 9 mf_X11_isSign_231_231_9)).trans hv2))
            have x1960 := HI.eqI hI1803 (p := 231) (b := 10) ((((hF1804.1 231 10 mf_X11_partAt_231_231_10).trans (hF1791.1 231 10 mf_X11_isSign_231_231_10)).trans hv3))
            have w261962 := W26.cong hW hI1803 (((hF1804.1 231 9 mf_X11_partAt_231_231_9).trans (hF1791.1 231 9 mf_X11_isSign_231_231_9))) (((hF1804.1 231 10 mf_X11_partAt_231_231_10).trans (hF1791.1 231 10 mf_X11_isSign_231_231_10))) (((hF1804.1 231 11 mf_X11_partAt_231_231_11).trans (hF1791.1 231 11 mf_X11_isSign_231_231_11))) (((hF1804.2.2 231 12 mf_X11_partAt_231_231_12).trans (hF1791.2.2 231 12 mf_X11_isSign_231_231_12)))
            have zv1963 : (1 : Int32).toInt = 1 := rfl
            refine r_callV 22 rfl [.ref 231, .int 1] [] (Nat.le_of_ble_eq_true rfl) rfl (T_X11_must_231 _ hI1803 1 (by decide) (by refine ⟨?_, ?_, ?_, ?_⟩ <;> omega) w261962 (TKM.c hK (((hF1804.2.1 236 ma_X11_partAt_231_236).trans (hF1791.2.1 236 ma_X11_isSign_231_236))) (((hF1804.1 231 8 mf_X11_partAt_231_231_8).trans (hF1791.1 231 8 mf_X11_isSign_231_231_8))) (((hF1804.1 231 9 mf_X11_partAt_231_231_9).trans (hF1791.1 231 9 mf_X11_isSign_231_231_9))) (((hF1804.1 231 10 mf_X11_partAt_231_231_10).trans (hF1791.1 231 10 mf_X11_isSign_231_231_10))) (((hF1804.1 231 11 mf_X11_partAt_231_231_11).trans (hF1791.1 231 11 mf_X11_isSign_231_231_11))) (((hF1804.2.2 231 12 mf_X11_partAt_231_231_12).trans (hF1791.2.2 231 12 mf_X11_isSign_231_231_12))))) ?_
            rintro _ _ ⟨g1964, rfl, hI1965, hF1966, rfl, hr1968⟩
            refine At.stn ?_
            have hF1969 := Fr.tr hF1807 hF1966 rfl rfl
            have x1975 := HI.eqI hI1803 (p := 231) (b := 14) ((((hF1804.1 231 14 mf_X11_partAt_231_231_14).trans (hF1791.1 231 14 mf_X11_isSign_231_231_14)).trans hv6))
            have x1976 := HI.eqI hI1965 (p := 231) (b := 8) ((((hF1966.1 231 8 mf_X11_must_231_231_8).trans ((hF1804.1 231 8 mf_X11_partAt_231_231_8).trans (hF1791.1 231 8 mf_X11_isSign_231_231_8))).trans hv1))
            obtain ⟨v1977, hv1977⟩ : ∃ v, gI g1964 231 9 = v := ⟨_, rfl⟩
            have rv1977 := RgF.at hI1965.2.1 (p := 231) (b := 9) rfl
            rw [hv1977] at rv1977
            dsimp only at rv1977
            have tv1977 := congrArg Int32.toInt hv1977
            obtain ⟨v1979, hv1979⟩ : ∃ v, gI g1964 231 10 = v := ⟨_, rfl⟩
            have rv1979 := RgF.at hI1965.2.1 (p := 231) (b := 10) rfl
            rw [hv1979] at rv1979
            dsimp only at rv1979
            have tv1979 := congrArg Int32.toInt hv1979
            obtain ⟨v1981, hv1981⟩ : ∃ v, gI g1964 231 11 = v := ⟨_, rfl⟩
            have tv1981 := congrArg Int32.toInt hv1981
            obtain ⟨v1983, hv1983⟩ : ∃ v, gI g1964 231 14 = v := ⟨_, rfl⟩
            have tv1983 := congrArg Int32.toInt hv1983
            obtain ⟨c1985, c1986, c1987, c1988, c1989, c1990, c1991, c1992⟩ := hr1968
            obtain ⟨v1993, hv1993⟩ : ∃ v, gI g0 231 13 = v := ⟨_, rfl⟩
            have tv1993 := congrArg Int32.toInt hv1993
            have x1994 := HI.eqI hI1803 (p := 231) (b := 13) ((((hF1804.1 231 13 mf_X11_partAt_231_231_13).trans (hF1791.1 231 13 mf_X11_isSign_231_231_13)).trans hv1993))
            obtain ⟨v1996, hv1996⟩ : ∃ v, gI g1964 231 13 = v := ⟨_, rfl⟩
            have tv1996 := congrArg Int32.toInt hv1996
            unfold MUSTP at c1992
            rw [TM.c (((hF1804.2.1 236 ma_X11_partAt_231_236).trans (hF1791.2.1 236 ma_X11_isSign_231_236))), nM.c (((hF1804.1 231 8 mf_X11_partAt_231_231_8).trans (hF1791.1 231 8 mf_X11_isSign_231_231_8))), pI.c (b := 14) (((hF1804.1 231 14 mf_X11_partAt_231_231_14).trans (hF1791.1 231 14 mf_X11_isSign_231_231_14))), pI.c (b := 13) (((hF1804.1 231 13 mf_X11_partAt_231_231_13).trans (hF1791.1 231 13 mf_X11_isSign_231_231_13))), pI.c (b := 10) (((hF1804.1 231 10 mf_X11_partAt_231_231_10).trans (hF1791.1 231 10 mf_X11_isSign_231_231_10))), pI.c (b := 9) (((hF1804.1 231 9 mf_X11_partAt_231_231_9).trans (hF1791.1 231 9 mf_X11_isSign_231_231_9)))] at c1992
            have mu1998 : MUSTP g0 g1964 1 := c1992
            clear c1992
            have hK1999 := mu1998.1
            refine At.enter rfl ?_
            refine r_aload_n rfl ?_
            refine q_getI (Sh.int hI1965.1 kx_231 rfl) v1983 hv1983 ?_
            refine r_ifs 29 rfl (fun c2000 => ?_) (fun c2000 => ?_)
            · have c2000_ : v1983.toInt ≠ 0 := en_k_ne_t c2000
              clear c1991
              obtain ⟨i2001, i2002⟩ := MUSTP.y mu1998 (by omega) (by omega)
              refine At.enter rfl ?_
              refine q_vret ?_
              refine At.enter rfl ?_
              refine r_iconst 3 rfl ?_
              refine r_ireti ?_
              obtain ⟨v2007, hv2007⟩ : ∃ v, gJ g1964 231 12 = v := ⟨_, rfl⟩
              have x2008 := HI.eqJ hI1965 (b := 12) (hv2007)
              have x2010 := HI.eqI hI1965 (p := 231) (b := 17) ((((hF1966.1 231 17 mf_X11_must_231_231_17).trans ((hF1804.1 231 17 mf_X11_partAt_231_231_17).trans (hF1791.1 231 17 mf_X11_isSign_231_231_17))).trans hv7))
              have x2011 := HI.eqI hI1965 (p := 231) (b := 23) ((((hF1966.1 231 23 mf_X11_must_231_231_23).trans ((hF1804.1 231 23 mf_X11_partAt_231_231_23).trans (hF1791.1 231 23 mf_X11_isSign_231_231_23))).trans hv8))
              have zv2013 : (3 : Int32).toInt = 3 := rfl
              obtain ⟨v2017, hv2017⟩ : ∃ v, gI g0 231 15 = v := ⟨_, rfl⟩
              have rv2017 := RgF.at hI0.2.1 (p := 231) (b := 15) rfl
              rw [hv2017] at rv2017
              dsimp only at rv2017
              have tv2017 := congrArg Int32.toInt hv2017
              have x2018 := HI.eqI hI1965 (p := 231) (b := 15) ((((hF1966.1 231 15 mf_X11_must_231_231_15).trans ((hF1804.1 231 15 mf_X11_partAt_231_231_15).trans (hF1791.1 231 15 mf_X11_isSign_231_231_15))).trans hv2017))
              have x2019 := HI.eqI hI1965 (p := 231) (b := 20) ((((hF1966.1 231 20 mf_X11_must_231_231_20).trans ((hF1804.1 231 20 mf_X11_partAt_231_231_20).trans (hF1791.1 231 20 mf_X11_isSign_231_231_20))).trans hv1814))
              obtain ⟨v2021, hv2021⟩ : ∃ v, gI g0 231 24 = v := ⟨_, rfl⟩
              have tv2021 := congrArg Int32.toInt hv2021
              have x2022 := HI.eqI hI1965 (p := 231) (b := 24) ((((hF1966.1 231 24 mf_X11_must_231_231_24).trans ((hF1804.1 231 24 mf_X11_partAt_231_231_24).trans (hF1791.1 231 24 mf_X11_isSign_231_231_24))).trans hv2021))
              have x2027 := HI.eqI hI0 (p := 231) (b := 20) (hv1814)
              have lp := pa1810
              unfold PAI at lp
              have ld := CDM.dig hK
              have y2030 : pI g0 11 = (gI g0 231 11).toInt := rfl
              have y2031 : wth g0 = (gJ g0 231 12).toInt := rfl
              have x2033 := HI.eqJ hI0 (b := 12) (hv5)
              have mf2034 := mu1998.2.2.1 (show (gI g0 231 14).toInt = 0 from by omega) (by omega)
              have y2035 : (gI _ 231 14).toInt ≠ 0 := mf2034.1
              have y2036 : (gI _ 231 13).toInt = (gI g0 231 9).toInt := mf2034.2
              exact ⟨_, rfl, hI1965, hF1969, _, rfl, by decide, ⟨by omega, by omega, by omega, by omega, c1990, by omega, by omega, (fun hbad => ⟨by omega, (PT.mk (fun h => by first | exact absurd h (by decide) | (exfalso; omega)) (fun h => by first | exact absurd h (by decide) | (exfalso; omega)) (fun h h9 => by first | exact absurd h (by decide) | (exfalso; omega)) (fun h => by first | exact absurd h (by decide) | (exfalso; omega)))⟩), (fun hbad => by omega), hK1999, (fun c0 b hC h => M.leafF h (TKM.some hK).choose_spec (by omega) (fun z => by have z1 := z.1; have z2 : (gI g0 231 20).toInt < 50 := z.2; omega) (fun _ => ⟨show (gI _ 231 14).toInt ≠ 0 from by omega, show (gI _ 231 13).toInt = (gI g0 231 9).toInt from by omega⟩) (fun z => absurd (show (gI g0 231 14).toInt = 0 from (by first | exact h2 | omega)) z) _), (fun h14 c0 b K hC h => absurd (show (gI _ 231 14).toInt = 0 from h14) (by omega))⟩⟩
            · have c2000_ : v1983.toInt = 0 := en_k_ne_f c2000
              obtain ⟨i2037, i2038, i2039⟩ := c1991 (by omega)
              obtain ⟨i2040, i2041⟩ := MUSTP.z mu1998 (by omega) (by omega)
              refine At.enter rfl ?_
              refine r_aload_n rfl ?_
              refine r_iload_n rfl ?_
              refine r_iload_n rfl ?_
              have x2042 := HI.eqI hI1965 (p := 231) (b := 17) ((((hF1966.1 231 17 mf_X11_must_231_231_17).trans ((hF1804.1 231 17 mf_X11_partAt_231_231_17).trans (hF1791.1 231 17 mf_X11_isSign_231_231_17))).trans hv7))
              have zv2043 : (0 : Int32).toInt = 0 := rfl
              refine r_callV 35 rfl [.ref 231, .int v1805, .int 0] [] (Nat.le_of_ble_eq_true rfl) rfl (T_X11_emit_231 _ hI1965 v1805 0 (by omega)) ?_
              rintro _ _ ⟨g2044, rfl, hI2045, hF2046, rfl, hr2048⟩
              refine At.stn ?_
              have hF2049 := Fr.tr hF1969 hF2046 rfl rfl
              have x2052 := HI.eqI hI1965 (p := 231) (b := 23) ((((hF1966.1 231 23 mf_X11_must_231_231_23).trans ((hF1804.1 231 23 mf_X11_partAt_231_231_23).trans (hF1791.1 231 23 mf_X11_isSign_231_231_23))).trans hv8))
              obtain ⟨v2053, hv2053⟩ : ∃ v, gI g2044 231 17 = v := ⟨_, rfl⟩
              have rv2053 := RgF.at hI2045.2.1 (p := 231) (b := 17) rfl
              rw [hv2053] at rv2053
              dsimp only at rv2053
              have tv2053 := congrArg Int32.toInt hv2053
              have y2055 : (gI _ 231 17).toInt = (gI _ 231 17).toInt + 1 := hr2048.1.1
              have pg2057 := PG.cong (hP.1 (by decide)) hI1965 (((hF1966.2.1 238 ma_X11_must_231_238).trans ((hF1804.2.1 238 ma_X11_partAt_231_238).trans (hF1791.2.1 238 ma_X11_isSign_231_238)))) (((hF1966.2.1 239 ma_X11_must_231_239).trans ((hF1804.2.1 239 ma_X11_partAt_231_239).trans (hF1791.2.1 239 ma_X11_isSign_231_239)))) (((hF1966.2.1 240 ma_X11_must_231_240).trans ((hF1804.2.1 240 ma_X11_partAt_231_240).trans (hF1791.2.1 240 ma_X11_isSign_231_240)))) (((hF1966.2.1 241 ma_X11_must_231_241).trans ((hF1804.2.1 241 ma_X11_partAt_231_241).trans (hF1791.2.1 241 ma_X11_isSign_231_241)))) (((hF1966.1 231 17 mf_X11_must_231_231_17).trans ((hF1804.1 231 17 mf_X11_partAt_231_231_17).trans (hF1791.1 231 17 mf_X11_isSign_231_231_17)))) (((hF1966.1 231 23 mf_X11_must_231_231_23).trans ((hF1804.1 231 23 mf_X11_partAt_231_231_23).trans (hF1791.1 231 23 mf_X11_isSign_231_231_23))))
              have pg2056 := PG.emit (e' := 1) pg2057 hr2048.1 (hF2046.2.1 240 ma_X11_emit_231_240) (hF2046.2.1 241 ma_X11_emit_231_241) (hF2046.1 231 23 mf_X11_emit_231_231_23) (Or.inl ⟨by omega, by omega, by decide, by decide⟩)
              refine At.enter rfl ?_
              refine r_aload_n rfl ?_
              refine r_dup rfl ?_
              refine q_getI (Sh.int hI2045.1 kx_231 rfl) v1814 (((hF2046.1 231 20 mf_X11_emit_231_231_20).trans ((hF1966.1 231 20 mf_X11_must_231_231_20).trans ((hF1804.1 231 20 mf_X11_partAt_231_231_20).trans (hF1791.1 231 20 mf_X11_isSign_231_231_20)))).trans hv1814) ?_
              refine r_iconst 1 rfl ?_
              have bv2058 := q_bnd v1814
              refine q_iadd (v1814.toInt + 1) rfl (by omega) (fun v2059 hv2059 => ?_)
              refine q_putI (Sh.int hI2045.1 kx_231 rfl) rfl ?_
              have hI2060 := HI.wI0 hI2045 kx_231 rfl (p := 231) (b := 20) (v := v2059) rfl
              have hF2061 := Fr.wI (p := 231) (b := 20) (v := v2059) hF2049 rfl
              refine Ar.fall 45 rfl ?_
              refine At.enter rfl ?_
              refine q_vret ?_
              refine At.enter rfl ?_
              refine r_iconst 3 rfl ?_
              refine r_ireti ?_
              have x2062 := HI.eqI hI2060 (p := 231) (b := 8) ((((gI_sI_ne (by decide)).trans ((hF2046.1 231 8 mf_X11_emit_231_231_8).trans ((hF1966.1 231 8 mf_X11_must_231_231_8).trans ((hF1804.1 231 8 mf_X11_partAt_231_231_8).trans (hF1791.1 231 8 mf_X11_isSign_231_231_8))))).trans hv1))
              have x2063 := HI.eqI hI2060 (p := 231) (b := 9) ((((gI_sI_ne (by decide)).trans (hF2046.1 231 9 mf_X11_emit_231_231_9)).trans hv1977))
              have x2064 := HI.eqI hI2060 (p := 231) (b := 10) ((((gI_sI_ne (by decide)).trans (hF2046.1 231 10 mf_X11_emit_231_231_10)).trans hv1979))
              have x2065 := HI.eqI hI2060 (p := 231) (b := 11) ((((gI_sI_ne (by decide)).trans (hF2046.1 231 11 mf_X11_emit_231_231_11)).trans hv1981))
              obtain ⟨v2066, hv2066⟩ : ∃ v, gJ g1964 231 12 = v := ⟨_, rfl⟩
              have x2067 := HI.eqJ hI2060 (b := 12) ((((gJ_sI_ne (by decide)).trans (hF2046.2.2 231 12 mf_X11_emit_231_231_12)).trans hv2066))
              have x2068 := HI.eqI hI2060 (p := 231) (b := 14) ((((gI_sI_ne (by decide)).trans (hF2046.1 231 14 mf_X11_emit_231_231_14)).trans hv1983))
              have x2069 := HI.eqI hI2060 (p := 231) (b := 17) (((gI_sI_ne (by decide)).trans hv2053))
              have x2070 := HI.eqI hI2060 (p := 231) (b := 23) ((((gI_sI_ne (by decide)).trans ((hF2046.1 231 23 mf_X11_emit_231_231_23).trans ((hF1966.1 231 23 mf_X11_must_231_231_23).trans ((hF1804.1 231 23 mf_X11_partAt_231_231_23).trans (hF1791.1 231 23 mf_X11_isSign_231_231_23))))).trans hv8))
              have zv2072 : (3 : Int32).toInt = 3 := rfl
              have pg2073 := PG.cong pg2056 hI2060 ((gA_sI)) ((gA_sI)) ((gA_sI)) ((gA_sI)) ((gI_sI_ne (by decide))) ((gI_sI_ne (by decide)))
              have w262074 := W26.cong c1990 hI2060 (((gI_sI_ne (by decide)).trans (hF2046.1 231 9 mf_X11_emit_231_231_9))) (((gI_sI_ne (by decide)).trans (hF2046.1 231 10 mf_X11_emit_231_231_10))) (((gI_sI_ne (by decide)).trans (hF2046.1 231 11 mf_X11_emit_231_231_11))) (((gJ_sI_ne (by decide)).trans (hF2046.2.2 231 12 mf_X11_emit_231_231_12)))
              have x2076 := HI.eqI hI2060 (p := 231) (b := 13) ((((gI_sI_ne (by decide)).trans (hF2046.1 231 13 mf_X11_emit_231_231_13)).trans hv1996))
              obtain ⟨v2078, hv2078⟩ : ∃ v, gI g0 231 15 = v := ⟨_, rfl⟩
              have rv2078 := RgF.at hI0.2.1 (p := 231) (b := 15) rfl
              rw [hv2078] at rv2078
              dsimp only at rv2078
              have tv2078 := congrArg Int32.toInt hv2078
              have x2079 := HI.eqI hI2060 (p := 231) (b := 15) ((((gI_sI_ne (by decide)).trans ((hF2046.1 231 15 mf_X11_emit_231_231_15).trans ((hF1966.1 231 15 mf_X11_must_231_231_15).trans ((hF1804.1 231 15 mf_X11_partAt_231_231_15).trans (hF1791.1 231 15 mf_X11_isSign_231_231_15))))).trans hv2078))
              have x2080 := HI.eqI hI2060 (p := 231) (b := 20) ((gI_sI_eq hI2045.1 kx_231 rfl _))
              obtain ⟨v2082, hv2082⟩ : ∃ v, gI g0 231 24 = v := ⟨_, rfl⟩
              have tv2082 := congrArg Int32.toInt hv2082
              have x2083 := HI.eqI hI2060 (p := 231) (b := 24) ((((gI_sI_ne (by decide)).trans ((hF2046.1 231 24 mf_X11_emit_231_231_24).trans ((hF1966.1 231 24 mf_X11_must_231_231_24).trans ((hF1804.1 231 24 mf_X11_partAt_231_231_24).trans (hF1791.1 231 24 mf_X11_isSign_231_231_24))))).trans hv2082))
              have x2088 := HI.eqI hI0 (p := 231) (b := 20) (hv1814)
              have lp := pa1810
              unfold PAI at lp
              have ld := CDM.dig hK
              have y2091 : pI g0 11 = (gI g0 231 11).toInt := rfl
              have y2092 : wth g0 = (gJ g0 231 12).toInt := rfl
              have x2094 := HI.eqJ hI0 (b := 12) (hv5)
              have y2099 : (gI g1964 231 13).toInt = (gI g0 231 13).toInt := (mu1998.2.1 (show (gI g0 231 14).toInt = 0 from by omega) (by omega)).2.1
              have dg2100 := fun a b => CDM_dg hK a b
              exact ⟨_, rfl, hI2060, hF2061, _, rfl, by decide, ⟨by omega, by omega, by omega, by omega, w262074, by omega, by omega, (fun hbad => ⟨by omega, (PT.mk (fun h => by first | exact absurd h (by decide) | (exfalso; omega)) (fun _ => pg2073) (fun h h9 => by first | exact absurd h (by decide) | (exfalso; omega)) (fun h => by first | exact absurd h (by decide) | (exfalso; omega)))⟩), (fun hbad => by omega), (TKM.c hK1999 (((gA_sI).trans (hF2046.2.1 236 ma_X11_emit_231_236))) (((gI_sI_ne (by decide)).trans (hF2046.1 231 8 mf_X11_emit_231_231_8))) (((gI_sI_ne (by decide)).trans (hF2046.1 231 9 mf_X11_emit_231_231_9))) (((gI_sI_ne (by decide)).trans (hF2046.1 231 10 mf_X11_emit_231_231_10))) (((gI_sI_ne (by decide)).trans (hF2046.1 231 11 mf_X11_emit_231_231_11))) (((gJ_sI_ne (by decide)).trans (hF2046.2.2 231 12 mf_X11_emit_231_231_12)))), (fun c0 b hC h => M.leaf h (by rw [pI.c (((gI_sI_ne (by decide)).trans (hF2046.1 231 9 mf_X11_emit_231_231_9)))]; exact (MUSTP.tok hK mu1998 (by omega) (by omega))) (by omega) (show (gI g0 231 20).toInt < 50 from by omega) (((gA_sI).trans ((hF2046.2.1 240 ma_X11_emit_231_240).trans ((hF1966.2.1 240 ma_X11_must_231_240).trans ((hF1804.2.1 240 ma_X11_partAt_231_240).trans (hF1791.2.1 240 ma_X11_isSign_231_240)))))) (show (gI _ 231 23).toInt = (gI g0 231 23).toInt from (by first | exact x2070.trans tv8.symm | omega)) (show (gI _ 231 24).toInt = (gI g0 231 24).toInt from (by first | exact x2083.trans tv2082.symm | omega)) (show (gI _ 231 20).toInt = (gI g0 231 20).toInt + 1 from by omega) (show (gI _ 231 15).toInt = (gI g0 231 15).toInt from (by first | exact x2079.trans tv2078.symm | omega)) (fun _ => ⟨show (gI _ 231 14).toInt = 0 from by omega, show (gI _ 231 13).toInt = (gI g0 231 13).toInt from by omega⟩) (fun z => absurd (show (gI g0 231 14).toInt = 0 from (by first | exact h2 | omega)) z)), (fun h14 c0 b K hC h => MG_leaf h (by rw [pI.c (((gI_sI_ne (by decide)).trans (hF2046.1 231 9 mf_X11_emit_231_231_9)))]; exact (MUSTP.tok hK mu1998 (by omega) (by omega))) (by first | omega | (have d1 := dg2100 (by show (gI g0 231 11).toInt = 2; omega) (by show (gJ g0 231 12).toInt ≤ 1000; omega); omega)) (((gA_sI).trans ((hF2046.2.1 240 ma_X11_emit_231_240).trans ((hF1966.2.1 240 ma_X11_must_231_240).trans ((hF1804.2.1 240 ma_X11_partAt_231_240).trans (hF1791.2.1 240 ma_X11_isSign_231_240)))))) (((gA_sI).trans ((hF2046.2.1 241 ma_X11_emit_231_241).trans ((hF1966.2.1 241 ma_X11_must_231_241).trans ((hF1804.2.1 241 ma_X11_partAt_231_241).trans (hF1791.2.1 241 ma_X11_isSign_231_241)))))) (pI.c (((gI_sI_ne (by decide)).trans ((hF2046.1 231 23 mf_X11_emit_231_231_23).trans ((hF1966.1 231 23 mf_X11_must_231_231_23).trans ((hF1804.1 231 23 mf_X11_partAt_231_231_23).trans (hF1791.1 231 23 mf_X11_isSign_231_231_23))))))) (EMG_fr hr2048.2 (SMG_mk (((hF1966.2.1 238 ma_X11_must_231_238).trans ((hF1804.2.1 238 ma_X11_partAt_231_238).trans (hF1791.2.1 238 ma_X11_isSign_231_238)))) (((hF1966.2.1 239 ma_X11_must_231_239).trans ((hF1804.2.1 239 ma_X11_partAt_231_239).trans (hF1791.2.1 239 ma_X11_isSign_231_239)))) (((hF1966.1 231 17 mf_X11_must_231_231_17).trans ((hF1804.1 231 17 mf_X11_partAt_231_231_17).trans (hF1791.1 231 17 mf_X11_isSign_231_231_17))))) (SMG_mk ((gA_sI)) ((gA_sI)) ((gI_sI_ne (by decide))))))⟩⟩
        · have c1813_ : v1805.toInt = (-1) := en_i_ne_f c1813
          exfalso; omega
      · have c1812_ : v1805.toInt = (-1) := en_i_ne_f c1812
        refine At.enter rfl ?_
        refine r_iload_n rfl ?_
        refine r_ift (by decide) ?_
        refine At.enter rfl ?_
        refine r_iconst 0 rfl ?_
        refine Ar.fall 62 rfl ?_
        refine At.enter rfl ?_
        refine r_iload_n rfl ?_
        refine r_iconst (-1) rfl ?_
        refine r_ics 67 rfl (fun c2101 => ?_) (fun c2101 => ?_)
        · have c2101_ : v1805.toInt ≠ (-1) := en_i_ne_t c2101
          exfalso; omega
        · have c2101_ : v1805.toInt = (-1) := en_i_ne_f c2101
          refine At.enter rfl ?_
          refine r_iconst 0 rfl ?_
          refine r_goto ?_
          refine At.enter rfl ?_
          refine r_iload_n rfl ?_
          refine r_ift (by decide) ?_
          refine At.enter rfl ?_
          refine r_iconst 0 rfl ?_
          refine Ar.fall 85 rfl ?_
          refine At.enter rfl ?_
          refine q_inlV 88 rfl [.ref 231, .int 0, .int 0, .int 0] [] (Nat.le_of_ble_eq_true rfl) rfl ?_
          refine Ev.mk rfl rfl ⟨Nat.le_of_ble_eq_true rfl, Or.inr (q_rc hI1803.1 kx_231 rfl)⟩ ?_
          show At _ none _ _ (0, [(0, .ref 231), (1, .int 0), (2, .int 0), (3, .int 0)], [], (_, _)) _
          refine At.enter rfl ?_
          refine r_aload_n rfl ?_
          refine r_iload_n rfl ?_
          refine r_ift (by decide) ?_
          refine At.enter rfl ?_
          refine r_iconst 0 rfl ?_
          refine Ar.fall 19 rfl ?_
          refine At.enter rfl ?_
          have x2102 := HI.eqI hI1803 (p := 231) (b := 8) ((((hF1804.1 231 8 mf_X11_partAt_231_231_8).trans (hF1791.1 231 8 mf_X11_isSign_231_231_8)).trans hv1))
          have x2103 := HI.eqI hI1803 (p := 231) (b := 9) ((((hF1804.1 231 9 mf_X11_partAt_231_231_9).trans (hF1791.1 231 9 mf_X11_isSign_231_231_9)).trans hv2))
          have x2104 := HI.eqI hI1803 (p := 231) (b := 10) ((((hF1804.1 231 10 mf_X11_partAt_231_231_10).trans (hF1791.1 231 10 mf_X11_isSign_231_231_10)).trans hv3))
          have w262106 := W26.cong hW hI1803 (((hF1804.1 231 9 mf_X11_partAt_231_231_9).trans (hF1791.1 231 9 mf_X11_isSign_231_231_9))) (((hF1804.1 231 10 mf_X11_partAt_231_231_10).trans (hF1791.1 231 10 mf_X11_isSign_231_231_10))) (((hF1804.1 231 11 mf_X11_partAt_231_231_11).trans (hF1791.1 231 11 mf_X11_isSign_231_231_11))) (((hF1804.2.2 231 12 mf_X11_partAt_231_231_12).trans (hF1791.2.2 231 12 mf_X11_isSign_231_231_12)))
          have zv2107 : (0 : Int32).toInt = 0 := rfl
          refine r_callV 22 rfl [.ref 231, .int 0] [] (Nat.le_of_ble_eq_true rfl) rfl (T_X11_must_231 _ hI1803 0 (by decide) (by refine ⟨?_, ?_, ?_, ?_⟩ <;> omega) w262106 (TKM.c hK (((hF1804.2.1 236 ma_X11_partAt_231_236).trans (hF1791.2.1 236 ma_X11_isSign_231_236))) (((hF1804.1 231 8 mf_X11_partAt_231_231_8).trans (hF1791.1 231 8 mf_X11_isSign_231_231_8))) (((hF1804.1 231 9 mf_X11_partAt_231_231_9).trans (hF1791.1 231 9 mf_X11_isSign_231_231_9))) (((hF1804.1 231 10 mf_X11_partAt_231_231_10).trans (hF1791.1 231 10 mf_X11_isSign_231_231_10))) (((hF1804.1 231 11 mf_X11_partAt_231_231_11).trans (hF1791.1 231 11 mf_X11_isSign_231_231_11))) (((hF1804.2.2 231 12 mf_X11_partAt_231_231_12).trans (hF1791.2.2 231 12 mf_X11_isSign_231_231_12))))) ?_
          rintro _ _ ⟨g2108, rfl, hI2109, hF2110, rfl, hr2112⟩
          refine At.stn ?_
          have hF2113 := Fr.tr hF1807 hF2110 rfl rfl
          have x2119 := HI.eqI hI1803 (p := 231) (b := 14) ((((hF1804.1 231 14 mf_X11_partAt_231_231_14).trans (hF1791.1 231 14 mf_X11_isSign_231_231_14)).trans hv6))
          have x2120 := HI.eqI hI2109 (p := 231) (b := 8) ((((hF2110.1 231 8 mf_X11_must_231_231_8).trans ((hF1804.1 231 8 mf_X11_partAt_231_231_8).trans (hF1791.1 231 8 mf_X11_isSign_231_231_8))).trans hv1))
          obtain ⟨v2121, hv2121⟩ : ∃ v, gI g2108 231 9 = v := ⟨_, rfl⟩
          have rv2121 := RgF.at hI2109.2.1 (p := 231) (b := 9) rfl
          rw [hv2121] at rv2121
          dsimp only at rv2121
          have tv2121 := congrArg Int32.toInt hv2121
          obtain ⟨v2123, hv2123⟩ : ∃ v, gI g2108 231 10 = v := ⟨_, rfl⟩
          have rv2123 := RgF.at hI2109.2.1 (p := 231) (b := 10) rfl
          rw [hv2123] at rv2123
          dsimp only at rv2123
          have tv2123 := congrArg Int32.toInt hv2123
          obtain ⟨v2125, hv2125⟩ : ∃ v, gI g2108 231 11 = v := ⟨_, rfl⟩
          have tv2125 := congrArg Int32.toInt hv2125
          obtain ⟨v2127, hv2127⟩ : ∃ v, gI g2108 231 14 = v := ⟨_, rfl⟩
          have tv2127 := congrArg Int32.toInt hv2127
          obtain ⟨c2129, c2130, c2131, c2132, c2133, c2134, c2135, c2136⟩ := hr2112
          obtain ⟨v2137, hv2137⟩ : ∃ v, gI g0 231 13 = v := ⟨_, rfl⟩
          have tv2137 := congrArg Int32.toInt hv2137
          have x2138 := HI.eqI hI1803 (p := 231) (b := 13) ((((hF1804.1 231 13 mf_X11_partAt_231_231_13).trans (hF1791.1 231 13 mf_X11_isSign_231_231_13)).trans hv2137))
          obtain ⟨v2140, hv2140⟩ : ∃ v, gI g2108 231 13 = v := ⟨_, rfl⟩
          have tv2140 := congrArg Int32.toInt hv2140
          unfold MUSTP at c2136
          rw [TM.c (((hF1804.2.1 236 ma_X11_partAt_231_236).trans (hF1791.2.1 236 ma_X11_isSign_231_236))), nM.c (((hF1804.1 231 8 mf_X11_partAt_231_231_8).trans (hF1791.1 231 8 mf_X11_isSign_231_231_8))), pI.c (b := 14) (((hF1804.1 231 14 mf_X11_partAt_231_231_14).trans (hF1791.1 231 14 mf_X11_isSign_231_231_14))), pI.c (b := 13) (((hF1804.1 231 13 mf_X11_partAt_231_231_13).trans (hF1791.1 231 13 mf_X11_isSign_231_231_13))), pI.c (b := 10) (((hF1804.1 231 10 mf_X11_partAt_231_231_10).trans (hF1791.1 231 10 mf_X11_isSign_231_231_10))), pI.c (b := 9) (((hF1804.1 231 9 mf_X11_partAt_231_231_9).trans (hF1791.1 231 9 mf_X11_isSign_231_231_9)))] at c2136
          have mu2142 : MUSTP g0 g2108 0 := c2136
          clear c2136
          have hK2143 := mu2142.1
          refine At.enter rfl ?_
          refine r_aload_n rfl ?_
          refine q_getI (Sh.int hI2109.1 kx_231 rfl) v2127 hv2127 ?_
          refine r_ifs 29 rfl (fun c2144 => ?_) (fun c2144 => ?_)
          · have c2144_ : v2127.toInt ≠ 0 := en_k_ne_t c2144
            clear c2135
            obtain ⟨i2145, i2146⟩ := MUSTP.y mu2142 (by omega) (by omega)
            refine At.enter rfl ?_
            refine q_vret ?_
            refine At.enter rfl ?_
            refine r_iconst 3 rfl ?_
            refine r_ireti ?_
            obtain ⟨v2151, hv2151⟩ : ∃ v, gJ g2108 231 12 = v := ⟨_, rfl⟩
            have x2152 := HI.eqJ hI2109 (b := 12) (hv2151)
            have x2154 := HI.eqI hI2109 (p := 231) (b := 17) ((((hF2110.1 231 17 mf_X11_must_231_231_17).trans ((hF1804.1 231 17 mf_X11_partAt_231_231_17).trans (hF1791.1 231 17 mf_X11_isSign_231_231_17))).trans hv7))
            have x2155 := HI.eqI hI2109 (p := 231) (b := 23) ((((hF2110.1 231 23 mf_X11_must_231_231_23).trans ((hF1804.1 231 23 mf_X11_partAt_231_231_23).trans (hF1791.1 231 23 mf_X11_isSign_231_231_23))).trans hv8))
            have zv2157 : (3 : Int32).toInt = 3 := rfl
            obtain ⟨v2161, hv2161⟩ : ∃ v, gI g0 231 15 = v := ⟨_, rfl⟩
            have rv2161 := RgF.at hI0.2.1 (p := 231) (b := 15) rfl
            rw [hv2161] at rv2161
            dsimp only at rv2161
            have tv2161 := congrArg Int32.toInt hv2161
            have x2162 := HI.eqI hI2109 (p := 231) (b := 15) ((((hF2110.1 231 15 mf_X11_must_231_231_15).trans ((hF1804.1 231 15 mf_X11_partAt_231_231_15).trans (hF1791.1 231 15 mf_X11_isSign_231_231_15))).trans hv2161))
            obtain ⟨v2163, hv2163⟩ : ∃ v, gI g0 231 20 = v := ⟨_, rfl⟩
            have tv2163 := congrArg Int32.toInt hv2163
            have x2164 := HI.eqI hI2109 (p := 231) (b := 20) ((((hF2110.1 231 20 mf_X11_must_231_231_20).trans ((hF1804.1 231 20 mf_X11_partAt_231_231_20).trans (hF1791.1 231 20 mf_X11_isSign_231_231_20))).trans hv2163))
            obtain ⟨v2166, hv2166⟩ : ∃ v, gI g0 231 24 = v := ⟨_, rfl⟩
            have tv2166 := congrArg Int32.toInt hv2166
            have x2167 := HI.eqI hI2109 (p := 231) (b := 24) ((((hF2110.1 231 24 mf_X11_must_231_231_24).trans ((hF1804.1 231 24 mf_X11_partAt_231_231_24).trans (hF1791.1 231 24 mf_X11_isSign_231_231_24))).trans hv2166))
            have lp := pa1810
            unfold PAI at lp
            have ld := CDM.dig hK
            have y2175 : pI g0 11 = (gI g0 231 11).toInt := rfl
            have y2176 : wth g0 = (gJ g0 231 12).toInt := rfl
            have x2178 := HI.eqJ hI0 (b := 12) (hv5)
            have mf2179 := mu2142.2.2.1 (show (gI g0 231 14).toInt = 0 from by omega) (by omega)
            have y2180 : (gI _ 231 14).toInt ≠ 0 := mf2179.1
            have y2181 : (gI _ 231 13).toInt = (gI g0 231 9).toInt := mf2179.2
            exact ⟨_, rfl, hI2109, hF2113, _, rfl, by decide, ⟨by omega, by omega, by omega, by omega, c2134, by omega, by omega, (fun hbad => ⟨by omega, (PT.mk (fun h => by first | exact absurd h (by decide) | (exfalso; omega)) (fun h => by first | exact absurd h (by decide) | (exfalso; omega)) (fun h h9 => by first | exact absurd h (by decide) | (exfalso; omega)) (fun h => by first | exact absurd h (by decide) | (exfalso; omega)))⟩), (fun hbad => by omega), hK2143, (fun c0 b hC h => M.leafF h (TKM.some hK).choose_spec (by omega) (fun z => by have z1 := z.1; have z2 : (gI g0 231 20).toInt < 50 := z.2; omega) (fun _ => ⟨show (gI _ 231 14).toInt ≠ 0 from by omega, show (gI _ 231 13).toInt = (gI g0 231 9).toInt from by omega⟩) (fun z => absurd (show (gI g0 231 14).toInt = 0 from (by first | exact h2 | omega)) z) _), (fun h14 c0 b K hC h => absurd (show (gI _ 231 14).toInt = 0 from h14) (by omega))⟩⟩
          · have c2144_ : v2127.toInt = 0 := en_k_ne_f c2144
            obtain ⟨i2182, i2183, i2184⟩ := c2135 (by omega)
            obtain ⟨i2185, i2186⟩ := MUSTP.z mu2142 (by omega) (by omega)
            refine At.enter rfl ?_
            refine r_aload_n rfl ?_
            refine r_iload_n rfl ?_
            refine r_iload_n rfl ?_
            have x2187 := HI.eqI hI2109 (p := 231) (b := 17) ((((hF2110.1 231 17 mf_X11_must_231_231_17).trans ((hF1804.1 231 17 mf_X11_partAt_231_231_17).trans (hF1791.1 231 17 mf_X11_isSign_231_231_17))).trans hv7))
            refine r_callV 35 rfl [.ref 231, .int 0, .int 0] [] (Nat.le_of_ble_eq_true rfl) rfl (T_X11_emit_231 _ hI2109 0 0 (by omega)) ?_
            rintro _ _ ⟨g2190, rfl, hI2191, hF2192, rfl, hr2194⟩
            refine At.stn ?_
            have hF2195 := Fr.tr hF2113 hF2192 rfl rfl
            have x2199 := HI.eqI hI2109 (p := 231) (b := 23) ((((hF2110.1 231 23 mf_X11_must_231_231_23).trans ((hF1804.1 231 23 mf_X11_partAt_231_231_23).trans (hF1791.1 231 23 mf_X11_isSign_231_231_23))).trans hv8))
            obtain ⟨v2200, hv2200⟩ : ∃ v, gI g2190 231 17 = v := ⟨_, rfl⟩
            have rv2200 := RgF.at hI2191.2.1 (p := 231) (b := 17) rfl
            rw [hv2200] at rv2200
            dsimp only at rv2200
            have tv2200 := congrArg Int32.toInt hv2200
            have y2202 : (gI _ 231 17).toInt = (gI _ 231 17).toInt + 1 := hr2194.1.1
            have pg2204 := PG.cong (hP.1 (by decide)) hI2109 (((hF2110.2.1 238 ma_X11_must_231_238).trans ((hF1804.2.1 238 ma_X11_partAt_231_238).trans (hF1791.2.1 238 ma_X11_isSign_231_238)))) (((hF2110.2.1 239 ma_X11_must_231_239).trans ((hF1804.2.1 239 ma_X11_partAt_231_239).trans (hF1791.2.1 239 ma_X11_isSign_231_239)))) (((hF2110.2.1 240 ma_X11_must_231_240).trans ((hF1804.2.1 240 ma_X11_partAt_231_240).trans (hF1791.2.1 240 ma_X11_isSign_231_240)))) (((hF2110.2.1 241 ma_X11_must_231_241).trans ((hF1804.2.1 241 ma_X11_partAt_231_241).trans (hF1791.2.1 241 ma_X11_isSign_231_241)))) (((hF2110.1 231 17 mf_X11_must_231_231_17).trans ((hF1804.1 231 17 mf_X11_partAt_231_231_17).trans (hF1791.1 231 17 mf_X11_isSign_231_231_17)))) (((hF2110.1 231 23 mf_X11_must_231_231_23).trans ((hF1804.1 231 23 mf_X11_partAt_231_231_23).trans (hF1791.1 231 23 mf_X11_isSign_231_231_23))))
            have pg2203 := PG.emit (e' := 1) pg2204 hr2194.1 (hF2192.2.1 240 ma_X11_emit_231_240) (hF2192.2.1 241 ma_X11_emit_231_241) (hF2192.1 231 23 mf_X11_emit_231_231_23) (Or.inl ⟨by omega, by omega, by decide, by decide⟩)
            refine At.enter rfl ?_
            refine r_aload_n rfl ?_
            refine r_dup rfl ?_
            obtain ⟨v2205, hv2205⟩ : ∃ v, gI g0 231 20 = v := ⟨_, rfl⟩
            refine q_getI (Sh.int hI2191.1 kx_231 rfl) v2205 (((hF2192.1 231 20 mf_X11_emit_231_231_20).trans ((hF2110.1 231 20 mf_X11_must_231_231_20).trans ((hF1804.1 231 20 mf_X11_partAt_231_231_20).trans (hF1791.1 231 20 mf_X11_isSign_231_231_20)))).trans hv2205) ?_
            refine r_iconst 1 rfl ?_
            refine q_iaddO (fun v2206 _ => ?_)
            refine q_putI (Sh.int hI2191.1 kx_231 rfl) rfl ?_
            have hI2207 := HI.wI0 hI2191 kx_231 rfl (p := 231) (b := 20) (v := v2206) rfl
            have hF2208 := Fr.wI (p := 231) (b := 20) (v := v2206) hF2195 rfl
            refine Ar.fall 45 rfl ?_
            refine At.enter rfl ?_
            refine q_vret ?_
            refine At.enter rfl ?_
            refine r_iconst 3 rfl ?_
            refine r_ireti ?_
            have x2209 := HI.eqI hI2207 (p := 231) (b := 8) ((((gI_sI_ne (by decide)).trans ((hF2192.1 231 8 mf_X11_emit_231_231_8).trans ((hF2110.1 231 8 mf_X11_must_231_231_8).trans ((hF1804.1 231 8 mf_X11_partAt_231_231_8).trans (hF1791.1 231 8 mf_X11_isSign_231_231_8))))).trans hv1))
            have x2210 := HI.eqI hI2207 (p := 231) (b := 9) ((((gI_sI_ne (by decide)).trans (hF2192.1 231 9 mf_X11_emit_231_231_9)).trans hv2121))
            have x2211 := HI.eqI hI2207 (p := 231) (b := 10) ((((gI_sI_ne (by decide)).trans (hF2192.1 231 10 mf_X11_emit_231_231_10)).trans hv2123))
            have x2212 := HI.eqI hI2207 (p := 231) (b := 11) ((((gI_sI_ne (by decide)).trans (hF2192.1 231 11 mf_X11_emit_231_231_11)).trans hv2125))
            obtain ⟨v2213, hv2213⟩ : ∃ v, gJ g2108 231 12 = v := ⟨_, rfl⟩
            have x2214 := HI.eqJ hI2207 (b := 12) ((((gJ_sI_ne (by decide)).trans (hF2192.2.2 231 12 mf_X11_emit_231_231_12)).trans hv2213))
            have x2215 := HI.eqI hI2207 (p := 231) (b := 14) ((((gI_sI_ne (by decide)).trans (hF2192.1 231 14 mf_X11_emit_231_231_14)).trans hv2127))
            have x2216 := HI.eqI hI2207 (p := 231) (b := 17) (((gI_sI_ne (by decide)).trans hv2200))
            have x2217 := HI.eqI hI2207 (p := 231) (b := 23) ((((gI_sI_ne (by decide)).trans ((hF2192.1 231 23 mf_X11_emit_231_231_23).trans ((hF2110.1 231 23 mf_X11_must_231_231_23).trans ((hF1804.1 231 23 mf_X11_partAt_231_231_23).trans (hF1791.1 231 23 mf_X11_isSign_231_231_23))))).trans hv8))
            have zv2219 : (3 : Int32).toInt = 3 := rfl
            have pg2220 := PG.cong pg2203 hI2207 ((gA_sI)) ((gA_sI)) ((gA_sI)) ((gA_sI)) ((gI_sI_ne (by decide))) ((gI_sI_ne (by decide)))
            have w262221 := W26.cong c2134 hI2207 (((gI_sI_ne (by decide)).trans (hF2192.1 231 9 mf_X11_emit_231_231_9))) (((gI_sI_ne (by decide)).trans (hF2192.1 231 10 mf_X11_emit_231_231_10))) (((gI_sI_ne (by decide)).trans (hF2192.1 231 11 mf_X11_emit_231_231_11))) (((gJ_sI_ne (by decide)).trans (hF2192.2.2 231 12 mf_X11_emit_231_231_12)))
            have x2223 := HI.eqI hI2207 (p := 231) (b := 13) ((((gI_sI_ne (by decide)).trans (hF2192.1 231 13 mf_X11_emit_231_231_13)).trans hv2140))
            obtain ⟨v2225, hv2225⟩ : ∃ v, gI g0 231 15 = v := ⟨_, rfl⟩
            have rv2225 := RgF.at hI0.2.1 (p := 231) (b := 15) rfl
            rw [hv2225] at rv2225
            dsimp only at rv2225
            have tv2225 := congrArg Int32.toInt hv2225
            have x2226 := HI.eqI hI2207 (p := 231) (b := 15) ((((gI_sI_ne (by decide)).trans ((hF2192.1 231 15 mf_X11_emit_231_231_15).trans ((hF2110.1 231 15 mf_X11_must_231_231_15).trans ((hF1804.1 231 15 mf_X11_partAt_231_231_15).trans (hF1791.1 231 15 mf_X11_isSign_231_231_15))))).trans hv2225))
            have x2227 := HI.eqI hI2207 (p := 231) (b := 20) ((gI_sI_eq hI2191.1 kx_231 rfl _))
            obtain ⟨v2229, hv2229⟩ : ∃ v, gI g0 231 24 = v := ⟨_, rfl⟩
            have tv2229 := congrArg Int32.toInt hv2229
            have x2230 := HI.eqI hI2207 (p := 231) (b := 24) ((((gI_sI_ne (by decide)).trans ((hF2192.1 231 24 mf_X11_emit_231_231_24).trans ((hF2110.1 231 24 mf_X11_must_231_231_24).trans ((hF1804.1 231 24 mf_X11_partAt_231_231_24).trans (hF1791.1 231 24 mf_X11_isSign_231_231_24))))).trans hv2229))
            have x2235 := HI.eqI hI0 (p := 231) (b := 20) (hv2205)
            have lp := pa1810
            unfold PAI at lp
            have ld := CDM.dig hK
            have y2238 : pI g0 11 = (gI g0 231 11).toInt := rfl
            have y2239 : wth g0 = (gJ g0 231 12).toInt := rfl
            have x2241 := HI.eqJ hI0 (b := 12) (hv5)
            have y2246 : (gI g2108 231 13).toInt = (gI g0 231 13).toInt := (mu2142.2.1 (show (gI g0 231 14).toInt = 0 from by omega) (by omega)).2.1
            have dg2247 := fun a b => CDM_dg hK a b
            exact ⟨_, rfl, hI2207, hF2208, _, rfl, by decide, ⟨by omega, by omega, by omega, by omega, w262221, by omega, by omega, (fun hbad => ⟨by omega, (PT.mk (fun h => by first | exact absurd h (by decide) | (exfalso; omega)) (fun _ => pg2220) (fun h h9 => by first | exact absurd h (by decide) | (exfalso; omega)) (fun h => by first | exact absurd h (by decide) | (exfalso; omega)))⟩), (fun hbad => by omega), (TKM.c hK2143 (((gA_sI).trans (hF2192.2.1 236 ma_X11_emit_231_236))) (((gI_sI_ne (by decide)).trans (hF2192.1 231 8 mf_X11_emit_231_231_8))) (((gI_sI_ne (by decide)).trans (hF2192.1 231 9 mf_X11_emit_231_231_9))) (((gI_sI_ne (by decide)).trans (hF2192.1 231 10 mf_X11_emit_231_231_10))) (((gI_sI_ne (by decide)).trans (hF2192.1 231 11 mf_X11_emit_231_231_11))) (((gJ_sI_ne (by decide)).trans (hF2192.2.2 231 12 mf_X11_emit_231_231_12)))), (fun c0 b hC h => M.leaf h (by rw [pI.c (((gI_sI_ne (by decide)).trans (hF2192.1 231 9 mf_X11_emit_231_231_9)))]; exact (MUSTP.tok hK mu2142 (by omega) (by omega))) (by omega) (show (gI g0 231 20).toInt < 50 from by omega) (((gA_sI).trans ((hF2192.2.1 240 ma_X11_emit_231_240).trans ((hF2110.2.1 240 ma_X11_must_231_240).trans ((hF1804.2.1 240 ma_X11_partAt_231_240).trans (hF1791.2.1 240 ma_X11_isSign_231_240)))))) (show (gI _ 231 23).toInt = (gI g0 231 23).toInt from (by first | exact x2217.trans tv8.symm | omega)) (show (gI _ 231 24).toInt = (gI g0 231 24).toInt from (by first | exact x2230.trans tv2229.symm | omega)) (show (gI _ 231 20).toInt = (gI g0 231 20).toInt + 1 from by omega) (show (gI _ 231 15).toInt = (gI g0 231 15).toInt from (by first | exact x2226.trans tv2225.symm | omega)) (fun _ => ⟨show (gI _ 231 14).toInt = 0 from by omega, show (gI _ 231 13).toInt = (gI g0 231 13).toInt from by omega⟩) (fun z => absurd (show (gI g0 231 14).toInt = 0 from (by first | exact h2 | omega)) z)), (fun h14 c0 b K hC h => MG_leaf h (by rw [pI.c (((gI_sI_ne (by decide)).trans (hF2192.1 231 9 mf_X11_emit_231_231_9)))]; exact (MUSTP.tok hK mu2142 (by omega) (by omega))) (by first | omega | (have d1 := dg2247 (by show (gI g0 231 11).toInt = 2; omega) (by show (gJ g0 231 12).toInt ≤ 1000; omega); omega)) (((gA_sI).trans ((hF2192.2.1 240 ma_X11_emit_231_240).trans ((hF2110.2.1 240 ma_X11_must_231_240).trans ((hF1804.2.1 240 ma_X11_partAt_231_240).trans (hF1791.2.1 240 ma_X11_isSign_231_240)))))) (((gA_sI).trans ((hF2192.2.1 241 ma_X11_emit_231_241).trans ((hF2110.2.1 241 ma_X11_must_231_241).trans ((hF1804.2.1 241 ma_X11_partAt_231_241).trans (hF1791.2.1 241 ma_X11_isSign_231_241)))))) (pI.c (((gI_sI_ne (by decide)).trans ((hF2192.1 231 23 mf_X11_emit_231_231_23).trans ((hF2110.1 231 23 mf_X11_must_231_231_23).trans ((hF1804.1 231 23 mf_X11_partAt_231_231_23).trans (hF1791.1 231 23 mf_X11_isSign_231_231_23))))))) (EMG_fr hr2194.2 (SMG_mk (((hF2110.2.1 238 ma_X11_must_231_238).trans ((hF1804.2.1 238 ma_X11_partAt_231_238).trans (hF1791.2.1 238 ma_X11_isSign_231_238)))) (((hF2110.2.1 239 ma_X11_must_231_239).trans ((hF1804.2.1 239 ma_X11_partAt_231_239).trans (hF1791.2.1 239 ma_X11_isSign_231_239)))) (((hF2110.1 231 17 mf_X11_must_231_231_17).trans ((hF1804.1 231 17 mf_X11_partAt_231_231_17).trans (hF1791.1 231 17 mf_X11_isSign_231_231_17))))) (SMG_mk ((gA_sI)) ((gA_sI)) ((gI_sI_ne (by decide))))))⟩⟩
    · have c1811_ : v4.toInt = 2 := en_i_ne_f c1811
      refine At.enter rfl ?_
      refine r_aload_n rfl ?_
      refine q_getJv (Sh.long hI1803.1 kx_231 rfl) v5 (((hF1804.2.2 231 12 mf_X11_partAt_231_231_12).trans (hF1791.2.2 231 12 mf_X11_isSign_231_231_12)).trans hv5) ?_
      refine r_ldc2 1000 rfl ?_
      refine r_lcmp _ rfl ?_
      refine r_ifs 41 rfl (fun c2248 => ?_) (fun c2248 => ?_)
      · have c2248_ : v5.toInt > 1000 := en_j_gt_t c2248
        refine At.enter rfl ?_
        refine r_iconst 0 rfl ?_
        refine Ar.fall 46 rfl ?_
        refine At.enter rfl ?_
        refine r_istore_n ([(2, .int 0), (1, .int v1805), (0, .ref 231)]) rfl ?_
        refine r_aload_n rfl ?_
        refine r_iload_n rfl ?_
        refine r_iconst (-1) rfl ?_
        refine r_ics 53 rfl (fun c2249 => ?_) (fun c2249 => ?_)
        · have c2249_ : v1805.toInt ≠ (-1) := en_i_ne_t c2249
          refine At.enter rfl ?_
          refine r_iconst 1 rfl ?_
          refine r_goto ?_
          refine At.enter rfl ?_
          refine r_iload_n rfl ?_
          refine r_iconst (-1) rfl ?_
          refine r_ics 67 rfl (fun c2250 => ?_) (fun c2250 => ?_)
          · have c2250_ : v1805.toInt ≠ (-1) := en_i_ne_t c2250
            refine At.enter rfl ?_
            refine r_iload_n rfl ?_
            refine Ar.fall 72 rfl ?_
            refine At.enter rfl ?_
            refine r_iload_n rfl ?_
            refine r_ift (by decide) ?_
            refine At.enter rfl ?_
            refine r_iconst 0 rfl ?_
            refine Ar.fall 85 rfl ?_
            refine At.enter rfl ?_
            refine q_inlV 88 rfl [.ref 231, .int 1, .int v1805, .int 0] [] (Nat.le_of_ble_eq_true rfl) rfl ?_
            refine Ev.mk rfl rfl ⟨Nat.le_of_ble_eq_true rfl, Or.inr (q_rc hI1803.1 kx_231 rfl)⟩ ?_
            show At _ none _ _ (0, [(0, .ref 231), (1, .int 1), (2, .int v1805), (3, .int 0)], [], (_, _)) _
            refine At.enter rfl ?_
            refine r_aload_n rfl ?_
            refine r_iload_n rfl ?_
            refine r_iff 5 rfl (by decide) ?_
            refine At.enter rfl ?_
            refine r_aload_n rfl ?_
            obtain ⟨v2251, hv2251⟩ : ∃ v, gI g0 231 20 = v := ⟨_, rfl⟩
            refine q_getI (Sh.int hI1803.1 kx_231 rfl) v2251 (((hF1804.1 231 20 mf_X11_partAt_231_231_20).trans (hF1791.1 231 20 mf_X11_isSign_231_231_20)).trans hv2251) ?_
            refine r_bipush 50 rfl ?_
            refine r_ics 14 rfl (fun c2252 => ?_) (fun c2252 => ?_)
            · have c2252_ : v2251.toInt ≥ 50 := en_i_ge_t c2252
              refine At.enter rfl ?_
              refine r_iconst 0 rfl ?_
              refine Ar.fall 19 rfl ?_
              refine At.enter rfl ?_
              have x2253 := HI.eqI hI1803 (p := 231) (b := 8) ((((hF1804.1 231 8 mf_X11_partAt_231_231_8).trans (hF1791.1 231 8 mf_X11_isSign_231_231_8)).trans hv1))
              have x2254 := HI.eqI hI1803 (p := 231) (b := 9) ((((hF1804.1 231 9 mf_X11_partAt_231_231_9).trans (hF1791.1 231 9 mf_X11_isSign_231_231_9)).trans hv2))
              have x2255 := HI.eqI hI1803 (p := 231) (b := 10) ((((hF1804.1 231 10 mf_X11_partAt_231_231_10).trans (hF1791.1 231 10 mf_X11_isSign_231_231_10)).trans hv3))
              have w262257 := W26.cong hW hI1803 (((hF1804.1 231 9 mf_X11_partAt_231_231_9).trans (hF1791.1 231 9 mf_X11_isSign_231_231_9))) (((hF1804.1 231 10 mf_X11_partAt_231_231_10).trans (hF1791.1 231 10 mf_X11_isSign_231_231_10))) (((hF1804.1 231 11 mf_X11_partAt_231_231_11).trans (hF1791.1 231 11 mf_X11_isSign_231_231_11))) (((hF1804.2.2 231 12 mf_X11_partAt_231_231_12).trans (hF1791.2.2 231 12 mf_X11_isSign_231_231_12)))
              have zv2258 : (0 : Int32).toInt = 0 := rfl
              refine r_callV 22 rfl [.ref 231, .int 0] [] (Nat.le_of_ble_eq_true rfl) rfl (T_X11_must_231 _ hI1803 0 (by decide) (by refine ⟨?_, ?_, ?_, ?_⟩ <;> omega) w262257 (TKM.c hK (((hF1804.2.1 236 ma_X11_partAt_231_236).trans (hF1791.2.1 236 ma_X11_isSign_231_236))) (((hF1804.1 231 8 mf_X11_partAt_231_231_8).trans (hF1791.1 231 8 mf_X11_isSign_231_231_8))) (((hF1804.1 231 9 mf_X11_partAt_231_231_9).trans (hF1791.1 231 9 mf_X11_isSign_231_231_9))) (((hF1804.1 231 10 mf_X11_partAt_231_231_10).trans (hF1791.1 231 10 mf_X11_isSign_231_231_10))) (((hF1804.1 231 11 mf_X11_partAt_231_231_11).trans (hF1791.1 231 11 mf_X11_isSign_231_231_11))) (((hF1804.2.2 231 12 mf_X11_partAt_231_231_12).trans (hF1791.2.2 231 12 mf_X11_isSign_231_231_12))))) ?_
              rintro _ _ ⟨g2259, rfl, hI2260, hF2261, rfl, hr2263⟩
              refine At.stn ?_
              have hF2264 := Fr.tr hF1807 hF2261 rfl rfl
              have x2270 := HI.eqI hI1803 (p := 231) (b := 14) ((((hF1804.1 231 14 mf_X11_partAt_231_231_14).trans (hF1791.1 231 14 mf_X11_isSign_231_231_14)).trans hv6))
              have x2271 := HI.eqI hI2260 (p := 231) (b := 8) ((((hF2261.1 231 8 mf_X11_must_231_231_8).trans ((hF1804.1 231 8 mf_X11_partAt_231_231_8).trans (hF1791.1 231 8 mf_X11_isSign_231_231_8))).trans hv1))
              obtain ⟨v2272, hv2272⟩ : ∃ v, gI g2259 231 9 = v := ⟨_, rfl⟩
              have rv2272 := RgF.at hI2260.2.1 (p := 231) (b := 9) rfl
              rw [hv2272] at rv2272
              dsimp only at rv2272
              have tv2272 := congrArg Int32.toInt hv2272
              obtain ⟨v2274, hv2274⟩ : ∃ v, gI g2259 231 10 = v := ⟨_, rfl⟩
              have rv2274 := RgF.at hI2260.2.1 (p := 231) (b := 10) rfl
              rw [hv2274] at rv2274
              dsimp only at rv2274
              have tv2274 := congrArg Int32.toInt hv2274
              obtain ⟨v2276, hv2276⟩ : ∃ v, gI g2259 231 11 = v := ⟨_, rfl⟩
              have tv2276 := congrArg Int32.toInt hv2276
              obtain ⟨v2278, hv2278⟩ : ∃ v, gI g2259 231 14 = v := ⟨_, rfl⟩
              have tv2278 := congrArg Int32.toInt hv2278
              obtain ⟨c2280, c2281, c2282, c2283, c2284, c2285, c2286, c2287⟩ := hr2263
              obtain ⟨v2288, hv2288⟩ : ∃ v, gI g0 231 13 = v := ⟨_, rfl⟩
              have tv2288 := congrArg Int32.toInt hv2288
              have x2289 := HI.eqI hI1803 (p := 231) (b := 13) ((((hF1804.1 231 13 mf_X11_partAt_231_231_13).trans (hF1791.1 231 13 mf_X11_isSign_231_231_13)).trans hv2288))
              obtain ⟨v2291, hv2291⟩ : ∃ v, gI g2259 231 13 = v := ⟨_, rfl⟩
              have tv2291 := congrArg Int32.toInt hv2291
              unfold MUSTP at c2287
              rw [TM.c (((hF1804.2.1 236 ma_X11_partAt_231_236).trans (hF1791.2.1 236 ma_X11_isSign_231_236))), nM.c (((hF1804.1 231 8 mf_X11_partAt_231_231_8).trans (hF1791.1 231 8 mf_X11_isSign_231_231_8))), pI.c (b := 14) (((hF1804.1 231 14 mf_X11_partAt_231_231_14).trans (hF1791.1 231 14 mf_X11_isSign_231_231_14))), pI.c (b := 13) (((hF1804.1 231 13 mf_X11_partAt_231_231_13).trans (hF1791.1 231 13 mf_X11_isSign_231_231_13))), pI.c (b := 10) (((hF1804.1 231 10 mf_X11_partAt_231_231_10).trans (hF1791.1 231 10 mf_X11_isSign_231_231_10))), pI.c (b := 9) (((hF1804.1 231 9 mf_X11_partAt_231_231_9).trans (hF1791.1 231 9 mf_X11_isSign_231_231_9)))] at c2287
              have mu2293 : MUSTP g0 g2259 0 := c2287
              clear c2287
              have hK2294 := mu2293.1
              refine At.enter rfl ?_
              refine r_aload_n rfl ?_
              refine q_getI (Sh.int hI2260.1 kx_231 rfl) v2278 hv2278 ?_
              refine r_ifs 29 rfl (fun c2295 => ?_) (fun c2295 => ?_)
              · have c2295_ : v2278.toInt ≠ 0 := en_k_ne_t c2295
                clear c2286
                obtain ⟨i2296, i2297⟩ := MUSTP.y mu2293 (by omega) (by omega)
                refine At.enter rfl ?_
                refine q_vret ?_
                refine At.enter rfl ?_
                refine r_iconst 3 rfl ?_
                refine r_ireti ?_
                obtain ⟨v2302, hv2302⟩ : ∃ v, gJ g2259 231 12 = v := ⟨_, rfl⟩
                have x2303 := HI.eqJ hI2260 (b := 12) (hv2302)
                have x2305 := HI.eqI hI2260 (p := 231) (b := 17) ((((hF2261.1 231 17 mf_X11_must_231_231_17).trans ((hF1804.1 231 17 mf_X11_partAt_231_231_17).trans (hF1791.1 231 17 mf_X11_isSign_231_231_17))).trans hv7))
                have x2306 := HI.eqI hI2260 (p := 231) (b := 23) ((((hF2261.1 231 23 mf_X11_must_231_231_23).trans ((hF1804.1 231 23 mf_X11_partAt_231_231_23).trans (hF1791.1 231 23 mf_X11_isSign_231_231_23))).trans hv8))
                have zv2308 : (3 : Int32).toInt = 3 := rfl
                obtain ⟨v2312, hv2312⟩ : ∃ v, gI g0 231 15 = v := ⟨_, rfl⟩
                have rv2312 := RgF.at hI0.2.1 (p := 231) (b := 15) rfl
                rw [hv2312] at rv2312
                dsimp only at rv2312
                have tv2312 := congrArg Int32.toInt hv2312
                have x2313 := HI.eqI hI2260 (p := 231) (b := 15) ((((hF2261.1 231 15 mf_X11_must_231_231_15).trans ((hF1804.1 231 15 mf_X11_partAt_231_231_15).trans (hF1791.1 231 15 mf_X11_isSign_231_231_15))).trans hv2312))
                have x2314 := HI.eqI hI2260 (p := 231) (b := 20) ((((hF2261.1 231 20 mf_X11_must_231_231_20).trans ((hF1804.1 231 20 mf_X11_partAt_231_231_20).trans (hF1791.1 231 20 mf_X11_isSign_231_231_20))).trans hv2251))
                obtain ⟨v2316, hv2316⟩ : ∃ v, gI g0 231 24 = v := ⟨_, rfl⟩
                have tv2316 := congrArg Int32.toInt hv2316
                have x2317 := HI.eqI hI2260 (p := 231) (b := 24) ((((hF2261.1 231 24 mf_X11_must_231_231_24).trans ((hF1804.1 231 24 mf_X11_partAt_231_231_24).trans (hF1791.1 231 24 mf_X11_isSign_231_231_24))).trans hv2316))
                have x2322 := HI.eqI hI0 (p := 231) (b := 20) (hv2251)
                have lp := pa1810
                unfold PAI at lp
                have ld := CDM.dig hK
                have y2325 : pI g0 11 = (gI g0 231 11).toInt := rfl
                have y2326 : wth g0 = (gJ g0 231 12).toInt := rfl
                have x2328 := HI.eqJ hI0 (b := 12) (hv5)
                have mf2329 := mu2293.2.2.1 (show (gI g0 231 14).toInt = 0 from by omega) (by omega)
                have y2330 : (gI _ 231 14).toInt ≠ 0 := mf2329.1
                have y2331 : (gI _ 231 13).toInt = (gI g0 231 9).toInt := mf2329.2
                exact ⟨_, rfl, hI2260, hF2264, _, rfl, by decide, ⟨by omega, by omega, by omega, by omega, c2285, by omega, by omega, (fun hbad => ⟨by omega, (PT.mk (fun h => by first | exact absurd h (by decide) | (exfalso; omega)) (fun h => by first | exact absurd h (by decide) | (exfalso; omega)) (fun h h9 => by first | exact absurd h (by decide) | (exfalso; omega)) (fun h => by first | exact absurd h (by decide) | (exfalso; omega)))⟩), (fun hbad => by omega), hK2294, (fun c0 b hC h => M.leafF h (TKM.some hK).choose_spec (by omega) (fun z => by have z1 := z.1; have z2 : (gI g0 231 20).toInt < 50 := z.2; omega) (fun _ => ⟨show (gI _ 231 14).toInt ≠ 0 from by omega, show (gI _ 231 13).toInt = (gI g0 231 9).toInt from by omega⟩) (fun z => absurd (show (gI g0 231 14).toInt = 0 from (by first | exact h2 | omega)) z) _), (fun h14 c0 b K hC h => absurd (show (gI _ 231 14).toInt = 0 from h14) (by omega))⟩⟩
              · have c2295_ : v2278.toInt = 0 := en_k_ne_f c2295
                obtain ⟨i2332, i2333, i2334⟩ := c2286 (by omega)
                obtain ⟨i2335, i2336⟩ := MUSTP.z mu2293 (by omega) (by omega)
                refine At.enter rfl ?_
                refine r_aload_n rfl ?_
                refine r_iload_n rfl ?_
                refine r_iload_n rfl ?_
                have x2337 := HI.eqI hI2260 (p := 231) (b := 17) ((((hF2261.1 231 17 mf_X11_must_231_231_17).trans ((hF1804.1 231 17 mf_X11_partAt_231_231_17).trans (hF1791.1 231 17 mf_X11_isSign_231_231_17))).trans hv7))
                refine r_callV 35 rfl [.ref 231, .int v1805, .int 0] [] (Nat.le_of_ble_eq_true rfl) rfl (T_X11_emit_231 _ hI2260 v1805 0 (by omega)) ?_
                rintro _ _ ⟨g2339, rfl, hI2340, hF2341, rfl, hr2343⟩
                refine At.stn ?_
                have hF2344 := Fr.tr hF2264 hF2341 rfl rfl
                have x2347 := HI.eqI hI2260 (p := 231) (b := 23) ((((hF2261.1 231 23 mf_X11_must_231_231_23).trans ((hF1804.1 231 23 mf_X11_partAt_231_231_23).trans (hF1791.1 231 23 mf_X11_isSign_231_231_23))).trans hv8))
                obtain ⟨v2348, hv2348⟩ : ∃ v, gI g2339 231 17 = v := ⟨_, rfl⟩
                have rv2348 := RgF.at hI2340.2.1 (p := 231) (b := 17) rfl
                rw [hv2348] at rv2348
                dsimp only at rv2348
                have tv2348 := congrArg Int32.toInt hv2348
                have y2350 : (gI _ 231 17).toInt = (gI _ 231 17).toInt + 1 := hr2343.1.1
                have pg2352 := PG.cong (hP.1 (by decide)) hI2260 (((hF2261.2.1 238 ma_X11_must_231_238).trans ((hF1804.2.1 238 ma_X11_partAt_231_238).trans (hF1791.2.1 238 ma_X11_isSign_231_238)))) (((hF2261.2.1 239 ma_X11_must_231_239).trans ((hF1804.2.1 239 ma_X11_partAt_231_239).trans (hF1791.2.1 239 ma_X11_isSign_231_239)))) (((hF2261.2.1 240 ma_X11_must_231_240).trans ((hF1804.2.1 240 ma_X11_partAt_231_240).trans (hF1791.2.1 240 ma_X11_isSign_231_240)))) (((hF2261.2.1 241 ma_X11_must_231_241).trans ((hF1804.2.1 241 ma_X11_partAt_231_241).trans (hF1791.2.1 241 ma_X11_isSign_231_241)))) (((hF2261.1 231 17 mf_X11_must_231_231_17).trans ((hF1804.1 231 17 mf_X11_partAt_231_231_17).trans (hF1791.1 231 17 mf_X11_isSign_231_231_17)))) (((hF2261.1 231 23 mf_X11_must_231_231_23).trans ((hF1804.1 231 23 mf_X11_partAt_231_231_23).trans (hF1791.1 231 23 mf_X11_isSign_231_231_23))))
                have pg2351 := PG.emit (e' := 1) pg2352 hr2343.1 (hF2341.2.1 240 ma_X11_emit_231_240) (hF2341.2.1 241 ma_X11_emit_231_241) (hF2341.1 231 23 mf_X11_emit_231_231_23) (Or.inl ⟨by omega, by omega, by decide, by decide⟩)
                refine At.enter rfl ?_
                refine r_aload_n rfl ?_
                refine r_dup rfl ?_
                refine q_getI (Sh.int hI2340.1 kx_231 rfl) v2251 (((hF2341.1 231 20 mf_X11_emit_231_231_20).trans ((hF2261.1 231 20 mf_X11_must_231_231_20).trans ((hF1804.1 231 20 mf_X11_partAt_231_231_20).trans (hF1791.1 231 20 mf_X11_isSign_231_231_20)))).trans hv2251) ?_
                refine r_iconst 1 rfl ?_
                refine q_iaddO (fun v2353 _ => ?_)
                refine q_putI (Sh.int hI2340.1 kx_231 rfl) rfl ?_
                have hI2354 := HI.wI0 hI2340 kx_231 rfl (p := 231) (b := 20) (v := v2353) rfl
                have hF2355 := Fr.wI (p := 231) (b := 20) (v := v2353) hF2344 rfl
                refine Ar.fall 45 rfl ?_
                refine At.enter rfl ?_
                refine q_vret ?_
                refine At.enter rfl ?_
                refine r_iconst 3 rfl ?_
                refine r_ireti ?_
                have x2356 := HI.eqI hI2354 (p := 231) (b := 8) ((((gI_sI_ne (by decide)).trans ((hF2341.1 231 8 mf_X11_emit_231_231_8).trans ((hF2261.1 231 8 mf_X11_must_231_231_8).trans ((hF1804.1 231 8 mf_X11_partAt_231_231_8).trans (hF1791.1 231 8 mf_X11_isSign_231_231_8))))).trans hv1))
                have x2357 := HI.eqI hI2354 (p := 231) (b := 9) ((((gI_sI_ne (by decide)).trans (hF2341.1 231 9 mf_X11_emit_231_231_9)).trans hv2272))
                have x2358 := HI.eqI hI2354 (p := 231) (b := 10) ((((gI_sI_ne (by decide)).trans (hF2341.1 231 10 mf_X11_emit_231_231_10)).trans hv2274))
                have x2359 := HI.eqI hI2354 (p := 231) (b := 11) ((((gI_sI_ne (by decide)).trans (hF2341.1 231 11 mf_X11_emit_231_231_11)).trans hv2276))
                obtain ⟨v2360, hv2360⟩ : ∃ v, gJ g2259 231 12 = v := ⟨_, rfl⟩
                have x2361 := HI.eqJ hI2354 (b := 12) ((((gJ_sI_ne (by decide)).trans (hF2341.2.2 231 12 mf_X11_emit_231_231_12)).trans hv2360))
                have x2362 := HI.eqI hI2354 (p := 231) (b := 14) ((((gI_sI_ne (by decide)).trans (hF2341.1 231 14 mf_X11_emit_231_231_14)).trans hv2278))
                have x2363 := HI.eqI hI2354 (p := 231) (b := 17) (((gI_sI_ne (by decide)).trans hv2348))
                have x2364 := HI.eqI hI2354 (p := 231) (b := 23) ((((gI_sI_ne (by decide)).trans ((hF2341.1 231 23 mf_X11_emit_231_231_23).trans ((hF2261.1 231 23 mf_X11_must_231_231_23).trans ((hF1804.1 231 23 mf_X11_partAt_231_231_23).trans (hF1791.1 231 23 mf_X11_isSign_231_231_23))))).trans hv8))
                have zv2366 : (3 : Int32).toInt = 3 := rfl
                have pg2367 := PG.cong pg2351 hI2354 ((gA_sI)) ((gA_sI)) ((gA_sI)) ((gA_sI)) ((gI_sI_ne (by decide))) ((gI_sI_ne (by decide)))
                have w262368 := W26.cong c2285 hI2354 (((gI_sI_ne (by decide)).trans (hF2341.1 231 9 mf_X11_emit_231_231_9))) (((gI_sI_ne (by decide)).trans (hF2341.1 231 10 mf_X11_emit_231_231_10))) (((gI_sI_ne (by decide)).trans (hF2341.1 231 11 mf_X11_emit_231_231_11))) (((gJ_sI_ne (by decide)).trans (hF2341.2.2 231 12 mf_X11_emit_231_231_12)))
                have x2370 := HI.eqI hI2354 (p := 231) (b := 13) ((((gI_sI_ne (by decide)).trans (hF2341.1 231 13 mf_X11_emit_231_231_13)).trans hv2291))
                obtain ⟨v2372, hv2372⟩ : ∃ v, gI g0 231 15 = v := ⟨_, rfl⟩
                have rv2372 := RgF.at hI0.2.1 (p := 231) (b := 15) rfl
                rw [hv2372] at rv2372
                dsimp only at rv2372
                have tv2372 := congrArg Int32.toInt hv2372
                have x2373 := HI.eqI hI2354 (p := 231) (b := 15) ((((gI_sI_ne (by decide)).trans ((hF2341.1 231 15 mf_X11_emit_231_231_15).trans ((hF2261.1 231 15 mf_X11_must_231_231_15).trans ((hF1804.1 231 15 mf_X11_partAt_231_231_15).trans (hF1791.1 231 15 mf_X11_isSign_231_231_15))))).trans hv2372))
                have x2374 := HI.eqI hI2354 (p := 231) (b := 20) ((gI_sI_eq hI2340.1 kx_231 rfl _))
                obtain ⟨v2376, hv2376⟩ : ∃ v, gI g0 231 24 = v := ⟨_, rfl⟩
                have tv2376 := congrArg Int32.toInt hv2376
                have x2377 := HI.eqI hI2354 (p := 231) (b := 24) ((((gI_sI_ne (by decide)).trans ((hF2341.1 231 24 mf_X11_emit_231_231_24).trans ((hF2261.1 231 24 mf_X11_must_231_231_24).trans ((hF1804.1 231 24 mf_X11_partAt_231_231_24).trans (hF1791.1 231 24 mf_X11_isSign_231_231_24))))).trans hv2376))
                have x2382 := HI.eqI hI0 (p := 231) (b := 20) (hv2251)
                have lp := pa1810
                unfold PAI at lp
                have ld := CDM.dig hK
                have y2385 : pI g0 11 = (gI g0 231 11).toInt := rfl
                have y2386 : wth g0 = (gJ g0 231 12).toInt := rfl
                have x2388 := HI.eqJ hI0 (b := 12) (hv5)
                have y2393 : (gI g2259 231 13).toInt = (gI g0 231 13).toInt := (mu2293.2.1 (show (gI g0 231 14).toInt = 0 from by omega) (by omega)).2.1
                have dg2394 := fun a b => CDM_dg hK a b
                exact ⟨_, rfl, hI2354, hF2355, _, rfl, by decide, ⟨by omega, by omega, by omega, by omega, w262368, by omega, by omega, (fun hbad => ⟨by omega, (PT.mk (fun h => by first | exact absurd h (by decide) | (exfalso; omega)) (fun _ => pg2367) (fun h h9 => by first | exact absurd h (by decide) | (exfalso; omega)) (fun h => by first | exact absurd h (by decide) | (exfalso; omega)))⟩), (fun hbad => by omega), (TKM.c hK2294 (((gA_sI).trans (hF2341.2.1 236 ma_X11_emit_231_236))) (((gI_sI_ne (by decide)).trans (hF2341.1 231 8 mf_X11_emit_231_231_8))) (((gI_sI_ne (by decide)).trans (hF2341.1 231 9 mf_X11_emit_231_231_9))) (((gI_sI_ne (by decide)).trans (hF2341.1 231 10 mf_X11_emit_231_231_10))) (((gI_sI_ne (by decide)).trans (hF2341.1 231 11 mf_X11_emit_231_231_11))) (((gJ_sI_ne (by decide)).trans (hF2341.2.2 231 12 mf_X11_emit_231_231_12)))), (fun c0 b hC h => M.leaf h (by rw [pI.c (((gI_sI_ne (by decide)).trans (hF2341.1 231 9 mf_X11_emit_231_231_9)))]; exact (MUSTP.tok hK mu2293 (by omega) (by omega))) (by omega) (show (gI g0 231 20).toInt < 50 from by omega) (((gA_sI).trans ((hF2341.2.1 240 ma_X11_emit_231_240).trans ((hF2261.2.1 240 ma_X11_must_231_240).trans ((hF1804.2.1 240 ma_X11_partAt_231_240).trans (hF1791.2.1 240 ma_X11_isSign_231_240)))))) (show (gI _ 231 23).toInt = (gI g0 231 23).toInt from (by first | exact x2364.trans tv8.symm | omega)) (show (gI _ 231 24).toInt = (gI g0 231 24).toInt from (by first | exact x2377.trans tv2376.symm | omega)) (show (gI _ 231 20).toInt = (gI g0 231 20).toInt + 1 from by omega) (show (gI _ 231 15).toInt = (gI g0 231 15).toInt from (by first | exact x2373.trans tv2372.symm | omega)) (fun _ => ⟨show (gI _ 231 14).toInt = 0 from by omega, show (gI _ 231 13).toInt = (gI g0 231 13).toInt from by omega⟩) (fun z => absurd (show (gI g0 231 14).toInt = 0 from (by first | exact h2 | omega)) z)), (fun h14 c0 b K hC h => MG_leaf h (by rw [pI.c (((gI_sI_ne (by decide)).trans (hF2341.1 231 9 mf_X11_emit_231_231_9)))]; exact (MUSTP.tok hK mu2293 (by omega) (by omega))) (by first | omega | (have d1 := dg2394 (by show (gI g0 231 11).toInt = 2; omega) (by show (gJ g0 231 12).toInt ≤ 1000; omega); omega)) (((gA_sI).trans ((hF2341.2.1 240 ma_X11_emit_231_240).trans ((hF2261.2.1 240 ma_X11_must_231_240).trans ((hF1804.2.1 240 ma_X11_partAt_231_240).trans (hF1791.2.1 240 ma_X11_isSign_231_240)))))) (((gA_sI).trans ((hF2341.2.1 241 ma_X11_emit_231_241).trans ((hF2261.2.1 241 ma_X11_must_231_241).trans ((hF1804.2.1 241 ma_X11_partAt_231_241).trans (hF1791.2.1 241 ma_X11_isSign_231_241)))))) (pI.c (((gI_sI_ne (by decide)).trans ((hF2341.1 231 23 mf_X11_emit_231_231_23).trans ((hF2261.1 231 23 mf_X11_must_231_231_23).trans ((hF1804.1 231 23 mf_X11_partAt_231_231_23).trans (hF1791.1 231 23 mf_X11_isSign_231_231_23))))))) (EMG_fr hr2343.2 (SMG_mk (((hF2261.2.1 238 ma_X11_must_231_238).trans ((hF1804.2.1 238 ma_X11_partAt_231_238).trans (hF1791.2.1 238 ma_X11_isSign_231_238)))) (((hF2261.2.1 239 ma_X11_must_231_239).trans ((hF1804.2.1 239 ma_X11_partAt_231_239).trans (hF1791.2.1 239 ma_X11_isSign_231_239)))) (((hF2261.1 231 17 mf_X11_must_231_231_17).trans ((hF1804.1 231 17 mf_X11_partAt_231_231_17).trans (hF1791.1 231 17 mf_X11_isSign_231_231_17))))) (SMG_mk ((gA_sI)) ((gA_sI)) ((gI_sI_ne (by decide))))))⟩⟩
            · have c2252_ : v2251.toInt < 50 := en_i_ge_f c2252
              refine At.enter rfl ?_
              refine r_iconst 1 rfl ?_
              refine r_goto ?_
              refine At.enter rfl ?_
              have x2395 := HI.eqI hI1803 (p := 231) (b := 8) ((((hF1804.1 231 8 mf_X11_partAt_231_231_8).trans (hF1791.1 231 8 mf_X11_isSign_231_231_8)).trans hv1))
              have x2396 := HI.eqI hI1803 (p := 231) (b := 9) ((((hF1804.1 231 9 mf_X11_partAt_231_231_9).trans (hF1791.1 231 9 mf_X11_isSign_231_231_9)).trans hv2))
              have x2397 := HI.eqI hI1803 (p := 231) (b := 10) ((((hF1804.1 231 10 mf_X11_partAt_231_231_10).trans (hF1791.1 231 10 mf_X11_isSign_231_231_10)).trans hv3))
              have w262399 := W26.cong hW hI1803 (((hF1804.1 231 9 mf_X11_partAt_231_231_9).trans (hF1791.1 231 9 mf_X11_isSign_231_231_9))) (((hF1804.1 231 10 mf_X11_partAt_231_231_10).trans (hF1791.1 231 10 mf_X11_isSign_231_231_10))) (((hF1804.1 231 11 mf_X11_partAt_231_231_11).trans (hF1791.1 231 11 mf_X11_isSign_231_231_11))) (((hF1804.2.2 231 12 mf_X11_partAt_231_231_12).trans (hF1791.2.2 231 12 mf_X11_isSign_231_231_12)))
              have zv2400 : (1 : Int32).toInt = 1 := rfl
              refine r_callV 22 rfl [.ref 231, .int 1] [] (Nat.le_of_ble_eq_true rfl) rfl (T_X11_must_231 _ hI1803 1 (by decide) (by refine ⟨?_, ?_, ?_, ?_⟩ <;> omega) w262399 (TKM.c hK (((hF1804.2.1 236 ma_X11_partAt_231_236).trans (hF1791.2.1 236 ma_X11_isSign_231_236))) (((hF1804.1 231 8 mf_X11_partAt_231_231_8).trans (hF1791.1 231 8 mf_X11_isSign_231_231_8))) (((hF1804.1 231 9 mf_X11_partAt_231_231_9).trans (hF1791.1 231 9 mf_X11_isSign_231_231_9))) (((hF1804.1 231 10 mf_X11_partAt_231_231_10).trans (hF1791.1 231 10 mf_X11_isSign_231_231_10))) (((hF1804.1 231 11 mf_X11_partAt_231_231_11).trans (hF1791.1 231 11 mf_X11_isSign_231_231_11))) (((hF1804.2.2 231 12 mf_X11_partAt_231_231_12).trans (hF1791.2.2 231 12 mf_X11_isSign_231_231_12))))) ?_
              rintro _ _ ⟨g2401, rfl, hI2402, hF2403, rfl, hr2405⟩
              refine At.stn ?_
              have hF2406 := Fr.tr hF1807 hF2403 rfl rfl
              have x2412 := HI.eqI hI1803 (p := 231) (b := 14) ((((hF1804.1 231 14 mf_X11_partAt_231_231_14).trans (hF1791.1 231 14 mf_X11_isSign_231_231_14)).trans hv6))
              have x2413 := HI.eqI hI2402 (p := 231) (b := 8) ((((hF2403.1 231 8 mf_X11_must_231_231_8).trans ((hF1804.1 231 8 mf_X11_partAt_231_231_8).trans (hF1791.1 231 8 mf_X11_isSign_231_231_8))).trans hv1))
              obtain ⟨v2414, hv2414⟩ : ∃ v, gI g2401 231 9 = v := ⟨_, rfl⟩
              have rv2414 := RgF.at hI2402.2.1 (p := 231) (b := 9) rfl
              rw [hv2414] at rv2414
              dsimp only at rv2414
              have tv2414 := congrArg Int32.toInt hv2414
              obtain ⟨v2416, hv2416⟩ : ∃ v, gI g2401 231 10 = v := ⟨_, rfl⟩
              have rv2416 := RgF.at hI2402.2.1 (p := 231) (b := 10) rfl
              rw [hv2416] at rv2416
              dsimp only at rv2416
              have tv2416 := congrArg Int32.toInt hv2416
              obtain ⟨v2418, hv2418⟩ : ∃ v, gI g2401 231 11 = v := ⟨_, rfl⟩
              have tv2418 := congrArg Int32.toInt hv2418
              obtain ⟨v2420, hv2420⟩ : ∃ v, gI g2401 231 14 = v := ⟨_, rfl⟩
              have tv2420 := congrArg Int32.toInt hv2420
              obtain ⟨c2422, c2423, c2424, c2425, c2426, c2427, c2428, c2429⟩ := hr2405
              obtain ⟨v2430, hv2430⟩ : ∃ v, gI g0 231 13 = v := ⟨_, rfl⟩
              have tv2430 := congrArg Int32.toInt hv2430
              have x2431 := HI.eqI hI1803 (p := 231) (b := 13) ((((hF1804.1 231 13 mf_X11_partAt_231_231_13).trans (hF1791.1 231 13 mf_X11_isSign_231_231_13)).trans hv2430))
              obtain ⟨v2433, hv2433⟩ : ∃ v, gI g2401 231 13 = v := ⟨_, rfl⟩
              have tv2433 := congrArg Int32.toInt hv2433
              unfold MUSTP at c2429
              rw [TM.c (((hF1804.2.1 236 ma_X11_partAt_231_236).trans (hF1791.2.1 236 ma_X11_isSign_231_236))), nM.c (((hF1804.1 231 8 mf_X11_partAt_231_231_8).trans (hF1791.1 231 8 mf_X11_isSign_231_231_8))), pI.c (b := 14) (((hF1804.1 231 14 mf_X11_partAt_231_231_14).trans (hF1791.1 231 14 mf_X11_isSign_231_231_14))), pI.c (b := 13) (((hF1804.1 231 13 mf_X11_partAt_231_231_13).trans (hF1791.1 231 13 mf_X11_isSign_231_231_13))), pI.c (b := 10) (((hF1804.1 231 10 mf_X11_partAt_231_231_10).trans (hF1791.1 231 10 mf_X11_isSign_231_231_10))), pI.c (b := 9) (((hF1804.1 231 9 mf_X11_partAt_231_231_9).trans (hF1791.1 231 9 mf_X11_isSign_231_231_9)))] at c2429
              have mu2435 : MUSTP g0 g2401 1 := c2429
              clear c2429
              have hK2436 := mu2435.1
              refine At.enter rfl ?_
              refine r_aload_n rfl ?_
              refine q_getI (Sh.int hI2402.1 kx_231 rfl) v2420 hv2420 ?_
              refine r_ifs 29 rfl (fun c2437 => ?_) (fun c2437 => ?_)
              · have c2437_ : v2420.toInt ≠ 0 := en_k_ne_t c2437
                clear c2428
                obtain ⟨i2438, i2439⟩ := MUSTP.y mu2435 (by omega) (by omega)
                refine At.enter rfl ?_
                refine q_vret ?_
                refine At.enter rfl ?_
                refine r_iconst 3 rfl ?_
                refine r_ireti ?_
                obtain ⟨v2444, hv2444⟩ : ∃ v, gJ g2401 231 12 = v := ⟨_, rfl⟩
                have x2445 := HI.eqJ hI2402 (b := 12) (hv2444)
                have x2447 := HI.eqI hI2402 (p := 231) (b := 17) ((((hF2403.1 231 17 mf_X11_must_231_231_17).trans ((hF1804.1 231 17 mf_X11_partAt_231_231_17).trans (hF1791.1 231 17 mf_X11_isSign_231_231_17))).trans hv7))
                have x2448 := HI.eqI hI2402 (p := 231) (b := 23) ((((hF2403.1 231 23 mf_X11_must_231_231_23).trans ((hF1804.1 231 23 mf_X11_partAt_231_231_23).trans (hF1791.1 231 23 mf_X11_isSign_231_231_23))).trans hv8))
                have zv2450 : (3 : Int32).toInt = 3 := rfl
                obtain ⟨v2454, hv2454⟩ : ∃ v, gI g0 231 15 = v := ⟨_, rfl⟩
                have rv2454 := RgF.at hI0.2.1 (p := 231) (b := 15) rfl
                rw [hv2454] at rv2454
                dsimp only at rv2454
                have tv2454 := congrArg Int32.toInt hv2454
                have x2455 := HI.eqI hI2402 (p := 231) (b := 15) ((((hF2403.1 231 15 mf_X11_must_231_231_15).trans ((hF1804.1 231 15 mf_X11_partAt_231_231_15).trans (hF1791.1 231 15 mf_X11_isSign_231_231_15))).trans hv2454))
                have x2456 := HI.eqI hI2402 (p := 231) (b := 20) ((((hF2403.1 231 20 mf_X11_must_231_231_20).trans ((hF1804.1 231 20 mf_X11_partAt_231_231_20).trans (hF1791.1 231 20 mf_X11_isSign_231_231_20))).trans hv2251))
                obtain ⟨v2458, hv2458⟩ : ∃ v, gI g0 231 24 = v := ⟨_, rfl⟩
                have tv2458 := congrArg Int32.toInt hv2458
                have x2459 := HI.eqI hI2402 (p := 231) (b := 24) ((((hF2403.1 231 24 mf_X11_must_231_231_24).trans ((hF1804.1 231 24 mf_X11_partAt_231_231_24).trans (hF1791.1 231 24 mf_X11_isSign_231_231_24))).trans hv2458))
                have x2464 := HI.eqI hI0 (p := 231) (b := 20) (hv2251)
                have lp := pa1810
                unfold PAI at lp
                have ld := CDM.dig hK
                have y2467 : pI g0 11 = (gI g0 231 11).toInt := rfl
                have y2468 : wth g0 = (gJ g0 231 12).toInt := rfl
                have x2470 := HI.eqJ hI0 (b := 12) (hv5)
                have mf2471 := mu2435.2.2.1 (show (gI g0 231 14).toInt = 0 from by omega) (by omega)
                have y2472 : (gI _ 231 14).toInt ≠ 0 := mf2471.1
                have y2473 : (gI _ 231 13).toInt = (gI g0 231 9).toInt := mf2471.2
                exact ⟨_, rfl, hI2402, hF2406, _, rfl, by decide, ⟨by omega, by omega, by omega, by omega, c2427, by omega, by omega, (fun hbad => ⟨by omega, (PT.mk (fun h => by first | exact absurd h (by decide) | (exfalso; omega)) (fun h => by first | exact absurd h (by decide) | (exfalso; omega)) (fun h h9 => by first | exact absurd h (by decide) | (exfalso; omega)) (fun h => by first | exact absurd h (by decide) | (exfalso; omega)))⟩), (fun hbad => by omega), hK2436, (fun c0 b hC h => M.leafF h (TKM.some hK).choose_spec (by omega) (fun z => by have z1 := z.1; have z2 : (gI g0 231 20).toInt < 50 := z.2; omega) (fun _ => ⟨show (gI _ 231 14).toInt ≠ 0 from by omega, show (gI _ 231 13).toInt = (gI g0 231 9).toInt from by omega⟩) (fun z => absurd (show (gI g0 231 14).toInt = 0 from (by first | exact h2 | omega)) z) _), (fun h14 c0 b K hC h => absurd (show (gI _ 231 14).toInt = 0 from h14) (by omega))⟩⟩
              · have c2437_ : v2420.toInt = 0 := en_k_ne_f c2437
                obtain ⟨i2474, i2475, i2476⟩ := c2428 (by omega)
                obtain ⟨i2477, i2478⟩ := MUSTP.z mu2435 (by omega) (by omega)
                refine At.enter rfl ?_
                refine r_aload_n rfl ?_
                refine r_iload_n rfl ?_
                refine r_iload_n rfl ?_
                have x2479 := HI.eqI hI2402 (p := 231) (b := 17) ((((hF2403.1 231 17 mf_X11_must_231_231_17).trans ((hF1804.1 231 17 mf_X11_partAt_231_231_17).trans (hF1791.1 231 17 mf_X11_isSign_231_231_17))).trans hv7))
                have zv2480 : (0 : Int32).toInt = 0 := rfl
                refine r_callV 35 rfl [.ref 231, .int v1805, .int 0] [] (Nat.le_of_ble_eq_true rfl) rfl (T_X11_emit_231 _ hI2402 v1805 0 (by omega)) ?_
                rintro _ _ ⟨g2481, rfl, hI2482, hF2483, rfl, hr2485⟩
                refine At.stn ?_
                have hF2486 := Fr.tr hF2406 hF2483 rfl rfl
                have x2489 := HI.eqI hI2402 (p := 231) (b := 23) ((((hF2403.1 231 23 mf_X11_must_231_231_23).trans ((hF1804.1 231 23 mf_X11_partAt_231_231_23).trans (hF1791.1 231 23 mf_X11_isSign_231_231_23))).trans hv8))
                obtain ⟨v2490, hv2490⟩ : ∃ v, gI g2481 231 17 = v := ⟨_, rfl⟩
                have rv2490 := RgF.at hI2482.2.1 (p := 231) (b := 17) rfl
                rw [hv2490] at rv2490
                dsimp only at rv2490
                have tv2490 := congrArg Int32.toInt hv2490
                have y2492 : (gI _ 231 17).toInt = (gI _ 231 17).toInt + 1 := hr2485.1.1
                have pg2494 := PG.cong (hP.1 (by decide)) hI2402 (((hF2403.2.1 238 ma_X11_must_231_238).trans ((hF1804.2.1 238 ma_X11_partAt_231_238).trans (hF1791.2.1 238 ma_X11_isSign_231_238)))) (((hF2403.2.1 239 ma_X11_must_231_239).trans ((hF1804.2.1 239 ma_X11_partAt_231_239).trans (hF1791.2.1 239 ma_X11_isSign_231_239)))) (((hF2403.2.1 240 ma_X11_must_231_240).trans ((hF1804.2.1 240 ma_X11_partAt_231_240).trans (hF1791.2.1 240 ma_X11_isSign_231_240)))) (((hF2403.2.1 241 ma_X11_must_231_241).trans ((hF1804.2.1 241 ma_X11_partAt_231_241).trans (hF1791.2.1 241 ma_X11_isSign_231_241)))) (((hF2403.1 231 17 mf_X11_must_231_231_17).trans ((hF1804.1 231 17 mf_X11_partAt_231_231_17).trans (hF1791.1 231 17 mf_X11_isSign_231_231_17)))) (((hF2403.1 231 23 mf_X11_must_231_231_23).trans ((hF1804.1 231 23 mf_X11_partAt_231_231_23).trans (hF1791.1 231 23 mf_X11_isSign_231_231_23))))
                have pg2493 := PG.emit (e' := 1) pg2494 hr2485.1 (hF2483.2.1 240 ma_X11_emit_231_240) (hF2483.2.1 241 ma_X11_emit_231_241) (hF2483.1 231 23 mf_X11_emit_231_231_23) (Or.inl ⟨by omega, by omega, by decide, by decide⟩)
                refine At.enter rfl ?_
                refine r_aload_n rfl ?_
                refine r_dup rfl ?_
                refine q_getI (Sh.int hI2482.1 kx_231 rfl) v2251 (((hF2483.1 231 20 mf_X11_emit_231_231_20).trans ((hF2403.1 231 20 mf_X11_must_231_231_20).trans ((hF1804.1 231 20 mf_X11_partAt_231_231_20).trans (hF1791.1 231 20 mf_X11_isSign_231_231_20)))).trans hv2251) ?_
                refine r_iconst 1 rfl ?_
                have bv2495 := q_bnd v2251
                refine q_iadd (v2251.toInt + 1) rfl (by omega) (fun v2496 hv2496 => ?_)
                refine q_putI (Sh.int hI2482.1 kx_231 rfl) rfl ?_
                have hI2497 := HI.wI0 hI2482 kx_231 rfl (p := 231) (b := 20) (v := v2496) rfl
                have hF2498 := Fr.wI (p := 231) (b := 20) (v := v2496) hF2486 rfl
                refine Ar.fall 45 rfl ?_
                refine At.enter rfl ?_
                refine q_vret ?_
                refine At.enter rfl ?_
                refine r_iconst 3 rfl ?_
                refine r_ireti ?_
                have x2499 := HI.eqI hI2497 (p := 231) (b := 8) ((((gI_sI_ne (by decide)).trans ((hF2483.1 231 8 mf_X11_emit_231_231_8).trans ((hF2403.1 231 8 mf_X11_must_231_231_8).trans ((hF1804.1 231 8 mf_X11_partAt_231_231_8).trans (hF1791.1 231 8 mf_X11_isSign_231_231_8))))).trans hv1))
                have x2500 := HI.eqI hI2497 (p := 231) (b := 9) ((((gI_sI_ne (by decide)).trans (hF2483.1 231 9 mf_X11_emit_231_231_9)).trans hv2414))
                have x2501 := HI.eqI hI2497 (p := 231) (b := 10) ((((gI_sI_ne (by decide)).trans (hF2483.1 231 10 mf_X11_emit_231_231_10)).trans hv2416))
                have x2502 := HI.eqI hI2497 (p := 231) (b := 11) ((((gI_sI_ne (by decide)).trans (hF2483.1 231 11 mf_X11_emit_231_231_11)).trans hv2418))
                obtain ⟨v2503, hv2503⟩ : ∃ v, gJ g2401 231 12 = v := ⟨_, rfl⟩
                have x2504 := HI.eqJ hI2497 (b := 12) ((((gJ_sI_ne (by decide)).trans (hF2483.2.2 231 12 mf_X11_emit_231_231_12)).trans hv2503))
                have x2505 := HI.eqI hI2497 (p := 231) (b := 14) ((((gI_sI_ne (by decide)).trans (hF2483.1 231 14 mf_X11_emit_231_231_14)).trans hv2420))
                have x2506 := HI.eqI hI2497 (p := 231) (b := 17) (((gI_sI_ne (by decide)).trans hv2490))
                have x2507 := HI.eqI hI2497 (p := 231) (b := 23) ((((gI_sI_ne (by decide)).trans ((hF2483.1 231 23 mf_X11_emit_231_231_23).trans ((hF2403.1 231 23 mf_X11_must_231_231_23).trans ((hF1804.1 231 23 mf_X11_partAt_231_231_23).trans (hF1791.1 231 23 mf_X11_isSign_231_231_23))))).trans hv8))
                have zv2509 : (3 : Int32).toInt = 3 := rfl
                have pg2510 := PG.cong pg2493 hI2497 ((gA_sI)) ((gA_sI)) ((gA_sI)) ((gA_sI)) ((gI_sI_ne (by decide))) ((gI_sI_ne (by decide)))
                have w262511 := W26.cong c2427 hI2497 (((gI_sI_ne (by decide)).trans (hF2483.1 231 9 mf_X11_emit_231_231_9))) (((gI_sI_ne (by decide)).trans (hF2483.1 231 10 mf_X11_emit_231_231_10))) (((gI_sI_ne (by decide)).trans (hF2483.1 231 11 mf_X11_emit_231_231_11))) (((gJ_sI_ne (by decide)).trans (hF2483.2.2 231 12 mf_X11_emit_231_231_12)))
                have x2513 := HI.eqI hI2497 (p := 231) (b := 13) ((((gI_sI_ne (by decide)).trans (hF2483.1 231 13 mf_X11_emit_231_231_13)).trans hv2433))
                obtain ⟨v2515, hv2515⟩ : ∃ v, gI g0 231 15 = v := ⟨_, rfl⟩
                have rv2515 := RgF.at hI0.2.1 (p := 231) (b := 15) rfl
                rw [hv2515] at rv2515
                dsimp only at rv2515
                have tv2515 := congrArg Int32.toInt hv2515
                have x2516 := HI.eqI hI2497 (p := 231) (b := 15) ((((gI_sI_ne (by decide)).trans ((hF2483.1 231 15 mf_X11_emit_231_231_15).trans ((hF2403.1 231 15 mf_X11_must_231_231_15).trans ((hF1804.1 231 15 mf_X11_partAt_231_231_15).trans (hF1791.1 231 15 mf_X11_isSign_231_231_15))))).trans hv2515))
                have x2517 := HI.eqI hI2497 (p := 231) (b := 20) ((gI_sI_eq hI2482.1 kx_231 rfl _))
                obtain ⟨v2519, hv2519⟩ : ∃ v, gI g0 231 24 = v := ⟨_, rfl⟩
                have tv2519 := congrArg Int32.toInt hv2519
                have x2520 := HI.eqI hI2497 (p := 231) (b := 24) ((((gI_sI_ne (by decide)).trans ((hF2483.1 231 24 mf_X11_emit_231_231_24).trans ((hF2403.1 231 24 mf_X11_must_231_231_24).trans ((hF1804.1 231 24 mf_X11_partAt_231_231_24).trans (hF1791.1 231 24 mf_X11_isSign_231_231_24))))).trans hv2519))
                have x2525 := HI.eqI hI0 (p := 231) (b := 20) (hv2251)
                have lp := pa1810
                unfold PAI at lp
                have ld := CDM.dig hK
                have y2528 : pI g0 11 = (gI g0 231 11).toInt := rfl
                have y2529 : wth g0 = (gJ g0 231 12).toInt := rfl
                have x2531 := HI.eqJ hI0 (b := 12) (hv5)
                have y2536 : (gI g2401 231 13).toInt = (gI g0 231 13).toInt := (mu2435.2.1 (show (gI g0 231 14).toInt = 0 from by omega) (by omega)).2.1
                have dg2537 := fun a b => CDM_dg hK a b
                exact ⟨_, rfl, hI2497, hF2498, _, rfl, by decide, ⟨by omega, by omega, by omega, by omega, w262511, by omega, by omega, (fun hbad => ⟨by omega, (PT.mk (fun h => by first | exact absurd h (by decide) | (exfalso; omega)) (fun _ => pg2510) (fun h h9 => by first | exact absurd h (by decide) | (exfalso; omega)) (fun h => by first | exact absurd h (by decide) | (exfalso; omega)))⟩), (fun hbad => by omega), (TKM.c hK2436 (((gA_sI).trans (hF2483.2.1 236 ma_X11_emit_231_236))) (((gI_sI_ne (by decide)).trans (hF2483.1 231 8 mf_X11_emit_231_231_8))) (((gI_sI_ne (by decide)).trans (hF2483.1 231 9 mf_X11_emit_231_231_9))) (((gI_sI_ne (by decide)).trans (hF2483.1 231 10 mf_X11_emit_231_231_10))) (((gI_sI_ne (by decide)).trans (hF2483.1 231 11 mf_X11_emit_231_231_11))) (((gJ_sI_ne (by decide)).trans (hF2483.2.2 231 12 mf_X11_emit_231_231_12)))), (fun c0 b hC h => M.leaf h (by rw [pI.c (((gI_sI_ne (by decide)).trans (hF2483.1 231 9 mf_X11_emit_231_231_9)))]; exact (MUSTP.tok hK mu2435 (by omega) (by omega))) (by omega) (show (gI g0 231 20).toInt < 50 from by omega) (((gA_sI).trans ((hF2483.2.1 240 ma_X11_emit_231_240).trans ((hF2403.2.1 240 ma_X11_must_231_240).trans ((hF1804.2.1 240 ma_X11_partAt_231_240).trans (hF1791.2.1 240 ma_X11_isSign_231_240)))))) (show (gI _ 231 23).toInt = (gI g0 231 23).toInt from (by first | exact x2507.trans tv8.symm | omega)) (show (gI _ 231 24).toInt = (gI g0 231 24).toInt from (by first | exact x2520.trans tv2519.symm | omega)) (show (gI _ 231 20).toInt = (gI g0 231 20).toInt + 1 from by omega) (show (gI _ 231 15).toInt = (gI g0 231 15).toInt from (by first | exact x2516.trans tv2515.symm | omega)) (fun _ => ⟨show (gI _ 231 14).toInt = 0 from by omega, show (gI _ 231 13).toInt = (gI g0 231 13).toInt from by omega⟩) (fun z => absurd (show (gI g0 231 14).toInt = 0 from (by first | exact h2 | omega)) z)), (fun h14 c0 b K hC h => MG_leaf h (by rw [pI.c (((gI_sI_ne (by decide)).trans (hF2483.1 231 9 mf_X11_emit_231_231_9)))]; exact (MUSTP.tok hK mu2435 (by omega) (by omega))) (by first | omega | (have d1 := dg2537 (by show (gI g0 231 11).toInt = 2; omega) (by show (gJ g0 231 12).toInt ≤ 1000; omega); omega)) (((gA_sI).trans ((hF2483.2.1 240 ma_X11_emit_231_240).trans ((hF2403.2.1 240 ma_X11_must_231_240).trans ((hF1804.2.1 240 ma_X11_partAt_231_240).trans (hF1791.2.1 240 ma_X11_isSign_231_240)))))) (((gA_sI).trans ((hF2483.2.1 241 ma_X11_emit_231_241).trans ((hF2403.2.1 241 ma_X11_must_231_241).trans ((hF1804.2.1 241 ma_X11_partAt_231_241).trans (hF1791.2.1 241 ma_X11_isSign_231_241)))))) (pI.c (((gI_sI_ne (by decide)).trans ((hF2483.1 231 23 mf_X11_emit_231_231_23).trans ((hF2403.1 231 23 mf_X11_must_231_231_23).trans ((hF1804.1 231 23 mf_X11_partAt_231_231_23).trans (hF1791.1 231 23 mf_X11_isSign_231_231_23))))))) (EMG_fr hr2485.2 (SMG_mk (((hF2403.2.1 238 ma_X11_must_231_238).trans ((hF1804.2.1 238 ma_X11_partAt_231_238).trans (hF1791.2.1 238 ma_X11_isSign_231_238)))) (((hF2403.2.1 239 ma_X11_must_231_239).trans ((hF1804.2.1 239 ma_X11_partAt_231_239).trans (hF1791.2.1 239 ma_X11_isSign_231_239)))) (((hF2403.1 231 17 mf_X11_must_231_231_17).trans ((hF1804.1 231 17 mf_X11_partAt_231_231_17).trans (hF1791.1 231 17 mf_X11_isSign_231_231_17))))) (SMG_mk ((gA_sI)) ((gA_sI)) ((gI_sI_ne (by decide))))))⟩⟩
          · have c2250_ : v1805.toInt = (-1) := en_i_ne_f c2250
            exfalso; omega
        · have c2249_ : v1805.toInt = (-1) := en_i_ne_f c2249
          refine At.enter rfl ?_
          refine r_iload_n rfl ?_
          refine r_ift (by decide) ?_
          refine At.enter rfl ?_
          refine r_iconst 0 rfl ?_
          refine Ar.fall 62 rfl ?_
          refine At.enter rfl ?_
          refine r_iload_n rfl ?_
          refine r_iconst (-1) rfl ?_
          refine r_ics 67 rfl (fun c2538 => ?_) (fun c2538 => ?_)
          · have c2538_ : v1805.toInt ≠ (-1) := en_i_ne_t c2538
            exfalso; omega
          · have c2538_ : v1805.toInt = (-1) := en_i_ne_f c2538
            refine At.enter rfl ?_
            refine r_iconst 0 rfl ?_
            refine r_goto ?_
            refine At.enter rfl ?_
            refine r_iload_n rfl ?_
            refine r_ift (by decide) ?_
            refine At.enter rfl ?_
            refine r_iconst 0 rfl ?_
            refine Ar.fall 85 rfl ?_
            refine At.enter rfl ?_
            refine q_inlV 88 rfl [.ref 231, .int 0, .int 0, .int 0] [] (Nat.le_of_ble_eq_true rfl) rfl ?_
            refine Ev.mk rfl rfl ⟨Nat.le_of_ble_eq_true rfl, Or.inr (q_rc hI1803.1 kx_231 rfl)⟩ ?_
            show At _ none _ _ (0, [(0, .ref 231), (1, .int 0), (2, .int 0), (3, .int 0)], [], (_, _)) _
            refine At.enter rfl ?_
            refine r_aload_n rfl ?_
            refine r_iload_n rfl ?_
            refine r_ift (by decide) ?_
            refine At.enter rfl ?_
            refine r_iconst 0 rfl ?_
            refine Ar.fall 19 rfl ?_
            refine At.enter rfl ?_
            have x2539 := HI.eqI hI1803 (p := 231) (b := 8) ((((hF1804.1 231 8 mf_X11_partAt_231_231_8).trans (hF1791.1 231 8 mf_X11_isSign_231_231_8)).trans hv1))
            have x2540 := HI.eqI hI1803 (p := 231) (b := 9) ((((hF1804.1 231 9 mf_X11_partAt_231_231_9).trans (hF1791.1 231 9 mf_X11_isSign_231_231_9)).trans hv2))
            have x2541 := HI.eqI hI1803 (p := 231) (b := 10) ((((hF1804.1 231 10 mf_X11_partAt_231_231_10).trans (hF1791.1 231 10 mf_X11_isSign_231_231_10)).trans hv3))
            have w262543 := W26.cong hW hI1803 (((hF1804.1 231 9 mf_X11_partAt_231_231_9).trans (hF1791.1 231 9 mf_X11_isSign_231_231_9))) (((hF1804.1 231 10 mf_X11_partAt_231_231_10).trans (hF1791.1 231 10 mf_X11_isSign_231_231_10))) (((hF1804.1 231 11 mf_X11_partAt_231_231_11).trans (hF1791.1 231 11 mf_X11_isSign_231_231_11))) (((hF1804.2.2 231 12 mf_X11_partAt_231_231_12).trans (hF1791.2.2 231 12 mf_X11_isSign_231_231_12)))
            have zv2544 : (0 : Int32).toInt = 0 := rfl
            refine r_callV 22 rfl [.ref 231, .int 0] [] (Nat.le_of_ble_eq_true rfl) rfl (T_X11_must_231 _ hI1803 0 (by decide) (by refine ⟨?_, ?_, ?_, ?_⟩ <;> omega) w262543 (TKM.c hK (((hF1804.2.1 236 ma_X11_partAt_231_236).trans (hF1791.2.1 236 ma_X11_isSign_231_236))) (((hF1804.1 231 8 mf_X11_partAt_231_231_8).trans (hF1791.1 231 8 mf_X11_isSign_231_231_8))) (((hF1804.1 231 9 mf_X11_partAt_231_231_9).trans (hF1791.1 231 9 mf_X11_isSign_231_231_9))) (((hF1804.1 231 10 mf_X11_partAt_231_231_10).trans (hF1791.1 231 10 mf_X11_isSign_231_231_10))) (((hF1804.1 231 11 mf_X11_partAt_231_231_11).trans (hF1791.1 231 11 mf_X11_isSign_231_231_11))) (((hF1804.2.2 231 12 mf_X11_partAt_231_231_12).trans (hF1791.2.2 231 12 mf_X11_isSign_231_231_12))))) ?_
            rintro _ _ ⟨g2545, rfl, hI2546, hF2547, rfl, hr2549⟩
            refine At.stn ?_
            have hF2550 := Fr.tr hF1807 hF2547 rfl rfl
            have x2556 := HI.eqI hI1803 (p := 231) (b := 14) ((((hF1804.1 231 14 mf_X11_partAt_231_231_14).trans (hF1791.1 231 14 mf_X11_isSign_231_231_14)).trans hv6))
            have x2557 := HI.eqI hI2546 (p := 231) (b := 8) ((((hF2547.1 231 8 mf_X11_must_231_231_8).trans ((hF1804.1 231 8 mf_X11_partAt_231_231_8).trans (hF1791.1 231 8 mf_X11_isSign_231_231_8))).trans hv1))
            obtain ⟨v2558, hv2558⟩ : ∃ v, gI g2545 231 9 = v := ⟨_, rfl⟩
            have rv2558 := RgF.at hI2546.2.1 (p := 231) (b := 9) rfl
            rw [hv2558] at rv2558
            dsimp only at rv2558
            have tv2558 := congrArg Int32.toInt hv2558
            obtain ⟨v2560, hv2560⟩ : ∃ v, gI g2545 231 10 = v := ⟨_, rfl⟩
            have rv2560 := RgF.at hI2546.2.1 (p := 231) (b := 10) rfl
            rw [hv2560] at rv2560
            dsimp only at rv2560
            have tv2560 := congrArg Int32.toInt hv2560
            obtain ⟨v2562, hv2562⟩ : ∃ v, gI g2545 231 11 = v := ⟨_, rfl⟩
            have tv2562 := congrArg Int32.toInt hv2562
            obtain ⟨v2564, hv2564⟩ : ∃ v, gI g2545 231 14 = v := ⟨_, rfl⟩
            have tv2564 := congrArg Int32.toInt hv2564
            obtain ⟨c2566, c2567, c2568, c2569, c2570, c2571, c2572, c2573⟩ := hr2549
            obtain ⟨v2574, hv2574⟩ : ∃ v, gI g0 231 13 = v := ⟨_, rfl⟩
            have tv2574 := congrArg Int32.toInt hv2574
            have x2575 := HI.eqI hI1803 (p := 231) (b := 13) ((((hF1804.1 231 13 mf_X11_partAt_231_231_13).trans (hF1791.1 231 13 mf_X11_isSign_231_231_13)).trans hv2574))
            obtain ⟨v2577, hv2577⟩ : ∃ v, gI g2545 231 13 = v := ⟨_, rfl⟩
            have tv2577 := congrArg Int32.toInt hv2577
            unfold MUSTP at c2573
            rw [TM.c (((hF1804.2.1 236 ma_X11_partAt_231_236).trans (hF1791.2.1 236 ma_X11_isSign_231_236))), nM.c (((hF1804.1 231 8 mf_X11_partAt_231_231_8).trans (hF1791.1 231 8 mf_X11_isSign_231_231_8))), pI.c (b := 14) (((hF1804.1 231 14 mf_X11_partAt_231_231_14).trans (hF1791.1 231 14 mf_X11_isSign_231_231_14))), pI.c (b := 13) (((hF1804.1 231 13 mf_X11_partAt_231_231_13).trans (hF1791.1 231 13 mf_X11_isSign_231_231_13))), pI.c (b := 10) (((hF1804.1 231 10 mf_X11_partAt_231_231_10).trans (hF1791.1 231 10 mf_X11_isSign_231_231_10))), pI.c (b := 9) (((hF1804.1 231 9 mf_X11_partAt_231_231_9).trans (hF1791.1 231 9 mf_X11_isSign_231_231_9)))] at c2573
            have mu2579 : MUSTP g0 g2545 0 := c2573
            clear c2573
            have hK2580 := mu2579.1
            refine At.enter rfl ?_
            refine r_aload_n rfl ?_
            refine q_getI (Sh.int hI2546.1 kx_231 rfl) v2564 hv2564 ?_
            refine r_ifs 29 rfl (fun c2581 => ?_) (fun c2581 => ?_)
            · have c2581_ : v2564.toInt ≠ 0 := en_k_ne_t c2581
              clear c2572
              obtain ⟨i2582, i2583⟩ := MUSTP.y mu2579 (by omega) (by omega)
              refine At.enter rfl ?_
              refine q_vret ?_
              refine At.enter rfl ?_
              refine r_iconst 3 rfl ?_
              refine r_ireti ?_
              obtain ⟨v2588, hv2588⟩ : ∃ v, gJ g2545 231 12 = v := ⟨_, rfl⟩
              have x2589 := HI.eqJ hI2546 (b := 12) (hv2588)
              have x2591 := HI.eqI hI2546 (p := 231) (b := 17) ((((hF2547.1 231 17 mf_X11_must_231_231_17).trans ((hF1804.1 231 17 mf_X11_partAt_231_231_17).trans (hF1791.1 231 17 mf_X11_isSign_231_231_17))).trans hv7))
              have x2592 := HI.eqI hI2546 (p := 231) (b := 23) ((((hF2547.1 231 23 mf_X11_must_231_231_23).trans ((hF1804.1 231 23 mf_X11_partAt_231_231_23).trans (hF1791.1 231 23 mf_X11_isSign_231_231_23))).trans hv8))
              have zv2594 : (3 : Int32).toInt = 3 := rfl
              obtain ⟨v2598, hv2598⟩ : ∃ v, gI g0 231 15 = v := ⟨_, rfl⟩
              have rv2598 := RgF.at hI0.2.1 (p := 231) (b := 15) rfl
              rw [hv2598] at rv2598
              dsimp only at rv2598
              have tv2598 := congrArg Int32.toInt hv2598
              have x2599 := HI.eqI hI2546 (p := 231) (b := 15) ((((hF2547.1 231 15 mf_X11_must_231_231_15).trans ((hF1804.1 231 15 mf_X11_partAt_231_231_15).trans (hF1791.1 231 15 mf_X11_isSign_231_231_15))).trans hv2598))
              obtain ⟨v2600, hv2600⟩ : ∃ v, gI g0 231 20 = v := ⟨_, rfl⟩
              have tv2600 := congrArg Int32.toInt hv2600
              have x2601 := HI.eqI hI2546 (p := 231) (b := 20) ((((hF2547.1 231 20 mf_X11_must_231_231_20).trans ((hF1804.1 231 20 mf_X11_partAt_231_231_20).trans (hF1791.1 231 20 mf_X11_isSign_231_231_20))).trans hv2600))
              obtain ⟨v2603, hv2603⟩ : ∃ v, gI g0 231 24 = v := ⟨_, rfl⟩
              have tv2603 := congrArg Int32.toInt hv2603
              have x2604 := HI.eqI hI2546 (p := 231) (b := 24) ((((hF2547.1 231 24 mf_X11_must_231_231_24).trans ((hF1804.1 231 24 mf_X11_partAt_231_231_24).trans (hF1791.1 231 24 mf_X11_isSign_231_231_24))).trans hv2603))
              have lp := pa1810
              unfold PAI at lp
              have ld := CDM.dig hK
              have y2612 : pI g0 11 = (gI g0 231 11).toInt := rfl
              have y2613 : wth g0 = (gJ g0 231 12).toInt := rfl
              have x2615 := HI.eqJ hI0 (b := 12) (hv5)
              have mf2616 := mu2579.2.2.1 (show (gI g0 231 14).toInt = 0 from by omega) (by omega)
              have y2617 : (gI _ 231 14).toInt ≠ 0 := mf2616.1
              have y2618 : (gI _ 231 13).toInt = (gI g0 231 9).toInt := mf2616.2
              exact ⟨_, rfl, hI2546, hF2550, _, rfl, by decide, ⟨by omega, by omega, by omega, by omega, c2571, by omega, by omega, (fun hbad => ⟨by omega, (PT.mk (fun h => by first | exact absurd h (by decide) | (exfalso; omega)) (fun h => by first | exact absurd h (by decide) | (exfalso; omega)) (fun h h9 => by first | exact absurd h (by decide) | (exfalso; omega)) (fun h => by first | exact absurd h (by decide) | (exfalso; omega)))⟩), (fun hbad => by omega), hK2580, (fun c0 b hC h => M.leafF h (TKM.some hK).choose_spec (by omega) (fun z => by have z1 := z.1; have z2 : (gI g0 231 20).toInt < 50 := z.2; omega) (fun _ => ⟨show (gI _ 231 14).toInt ≠ 0 from by omega, show (gI _ 231 13).toInt = (gI g0 231 9).toInt from by omega⟩) (fun z => absurd (show (gI g0 231 14).toInt = 0 from (by first | exact h2 | omega)) z) _), (fun h14 c0 b K hC h => absurd (show (gI _ 231 14).toInt = 0 from h14) (by omega))⟩⟩
            · have c2581_ : v2564.toInt = 0 := en_k_ne_f c2581
              obtain ⟨i2619, i2620, i2621⟩ := c2572 (by omega)
              obtain ⟨i2622, i2623⟩ := MUSTP.z mu2579 (by omega) (by omega)
              refine At.enter rfl ?_
              refine r_aload_n rfl ?_
              refine r_iload_n rfl ?_
              refine r_iload_n rfl ?_
              have x2624 := HI.eqI hI2546 (p := 231) (b := 17) ((((hF2547.1 231 17 mf_X11_must_231_231_17).trans ((hF1804.1 231 17 mf_X11_partAt_231_231_17).trans (hF1791.1 231 17 mf_X11_isSign_231_231_17))).trans hv7))
              refine r_callV 35 rfl [.ref 231, .int 0, .int 0] [] (Nat.le_of_ble_eq_true rfl) rfl (T_X11_emit_231 _ hI2546 0 0 (by omega)) ?_
              rintro _ _ ⟨g2627, rfl, hI2628, hF2629, rfl, hr2631⟩
              refine At.stn ?_
              have hF2632 := Fr.tr hF2550 hF2629 rfl rfl
              have x2636 := HI.eqI hI2546 (p := 231) (b := 23) ((((hF2547.1 231 23 mf_X11_must_231_231_23).trans ((hF1804.1 231 23 mf_X11_partAt_231_231_23).trans (hF1791.1 231 23 mf_X11_isSign_231_231_23))).trans hv8))
              obtain ⟨v2637, hv2637⟩ : ∃ v, gI g2627 231 17 = v := ⟨_, rfl⟩
              have rv2637 := RgF.at hI2628.2.1 (p := 231) (b := 17) rfl
              rw [hv2637] at rv2637
              dsimp only at rv2637
              have tv2637 := congrArg Int32.toInt hv2637
              have y2639 : (gI _ 231 17).toInt = (gI _ 231 17).toInt + 1 := hr2631.1.1
              have pg2641 := PG.cong (hP.1 (by decide)) hI2546 (((hF2547.2.1 238 ma_X11_must_231_238).trans ((hF1804.2.1 238 ma_X11_partAt_231_238).trans (hF1791.2.1 238 ma_X11_isSign_231_238)))) (((hF2547.2.1 239 ma_X11_must_231_239).trans ((hF1804.2.1 239 ma_X11_partAt_231_239).trans (hF1791.2.1 239 ma_X11_isSign_231_239)))) (((hF2547.2.1 240 ma_X11_must_231_240).trans ((hF1804.2.1 240 ma_X11_partAt_231_240).trans (hF1791.2.1 240 ma_X11_isSign_231_240)))) (((hF2547.2.1 241 ma_X11_must_231_241).trans ((hF1804.2.1 241 ma_X11_partAt_231_241).trans (hF1791.2.1 241 ma_X11_isSign_231_241)))) (((hF2547.1 231 17 mf_X11_must_231_231_17).trans ((hF1804.1 231 17 mf_X11_partAt_231_231_17).trans (hF1791.1 231 17 mf_X11_isSign_231_231_17)))) (((hF2547.1 231 23 mf_X11_must_231_231_23).trans ((hF1804.1 231 23 mf_X11_partAt_231_231_23).trans (hF1791.1 231 23 mf_X11_isSign_231_231_23))))
              have pg2640 := PG.emit (e' := 1) pg2641 hr2631.1 (hF2629.2.1 240 ma_X11_emit_231_240) (hF2629.2.1 241 ma_X11_emit_231_241) (hF2629.1 231 23 mf_X11_emit_231_231_23) (Or.inl ⟨by omega, by omega, by decide, by decide⟩)
              refine At.enter rfl ?_
              refine r_aload_n rfl ?_
              refine r_dup rfl ?_
              obtain ⟨v2642, hv2642⟩ : ∃ v, gI g0 231 20 = v := ⟨_, rfl⟩
              refine q_getI (Sh.int hI2628.1 kx_231 rfl) v2642 (((hF2629.1 231 20 mf_X11_emit_231_231_20).trans ((hF2547.1 231 20 mf_X11_must_231_231_20).trans ((hF1804.1 231 20 mf_X11_partAt_231_231_20).trans (hF1791.1 231 20 mf_X11_isSign_231_231_20)))).trans hv2642) ?_
              refine r_iconst 1 rfl ?_
              refine q_iaddO (fun v2643 _ => ?_)
              refine q_putI (Sh.int hI2628.1 kx_231 rfl) rfl ?_
              have hI2644 := HI.wI0 hI2628 kx_231 rfl (p := 231) (b := 20) (v := v2643) rfl
              have hF2645 := Fr.wI (p := 231) (b := 20) (v := v2643) hF2632 rfl
              refine Ar.fall 45 rfl ?_
              refine At.enter rfl ?_
              refine q_vret ?_
              refine At.enter rfl ?_
              refine r_iconst 3 rfl ?_
              refine r_ireti ?_
              have x2646 := HI.eqI hI2644 (p := 231) (b := 8) ((((gI_sI_ne (by decide)).trans ((hF2629.1 231 8 mf_X11_emit_231_231_8).trans ((hF2547.1 231 8 mf_X11_must_231_231_8).trans ((hF1804.1 231 8 mf_X11_partAt_231_231_8).trans (hF1791.1 231 8 mf_X11_isSign_231_231_8))))).trans hv1))
              have x2647 := HI.eqI hI2644 (p := 231) (b := 9) ((((gI_sI_ne (by decide)).trans (hF2629.1 231 9 mf_X11_emit_231_231_9)).trans hv2558))
              have x2648 := HI.eqI hI2644 (p := 231) (b := 10) ((((gI_sI_ne (by decide)).trans (hF2629.1 231 10 mf_X11_emit_231_231_10)).trans hv2560))
              have x2649 := HI.eqI hI2644 (p := 231) (b := 11) ((((gI_sI_ne (by decide)).trans (hF2629.1 231 11 mf_X11_emit_231_231_11)).trans hv2562))
              obtain ⟨v2650, hv2650⟩ : ∃ v, gJ g2545 231 12 = v := ⟨_, rfl⟩
              have x2651 := HI.eqJ hI2644 (b := 12) ((((gJ_sI_ne (by decide)).trans (hF2629.2.2 231 12 mf_X11_emit_231_231_12)).trans hv2650))
              have x2652 := HI.eqI hI2644 (p := 231) (b := 14) ((((gI_sI_ne (by decide)).trans (hF2629.1 231 14 mf_X11_emit_231_231_14)).trans hv2564))
              have x2653 := HI.eqI hI2644 (p := 231) (b := 17) (((gI_sI_ne (by decide)).trans hv2637))
              have x2654 := HI.eqI hI2644 (p := 231) (b := 23) ((((gI_sI_ne (by decide)).trans ((hF2629.1 231 23 mf_X11_emit_231_231_23).trans ((hF2547.1 231 23 mf_X11_must_231_231_23).trans ((hF1804.1 231 23 mf_X11_partAt_231_231_23).trans (hF1791.1 231 23 mf_X11_isSign_231_231_23))))).trans hv8))
              have zv2656 : (3 : Int32).toInt = 3 := rfl
              have pg2657 := PG.cong pg2640 hI2644 ((gA_sI)) ((gA_sI)) ((gA_sI)) ((gA_sI)) ((gI_sI_ne (by decide))) ((gI_sI_ne (by decide)))
              have w262658 := W26.cong c2571 hI2644 (((gI_sI_ne (by decide)).trans (hF2629.1 231 9 mf_X11_emit_231_231_9))) (((gI_sI_ne (by decide)).trans (hF2629.1 231 10 mf_X11_emit_231_231_10))) (((gI_sI_ne (by decide)).trans (hF2629.1 231 11 mf_X11_emit_231_231_11))) (((gJ_sI_ne (by decide)).trans (hF2629.2.2 231 12 mf_X11_emit_231_231_12)))
              have x2660 := HI.eqI hI2644 (p := 231) (b := 13) ((((gI_sI_ne (by decide)).trans (hF2629.1 231 13 mf_X11_emit_231_231_13)).trans hv2577))
              obtain ⟨v2662, hv2662⟩ : ∃ v, gI g0 231 15 = v := ⟨_, rfl⟩
              have rv2662 := RgF.at hI0.2.1 (p := 231) (b := 15) rfl
              rw [hv2662] at rv2662
              dsimp only at rv2662
              have tv2662 := congrArg Int32.toInt hv2662
              have x2663 := HI.eqI hI2644 (p := 231) (b := 15) ((((gI_sI_ne (by decide)).trans ((hF2629.1 231 15 mf_X11_emit_231_231_15).trans ((hF2547.1 231 15 mf_X11_must_231_231_15).trans ((hF1804.1 231 15 mf_X11_partAt_231_231_15).trans (hF1791.1 231 15 mf_X11_isSign_231_231_15))))).trans hv2662))
              have x2664 := HI.eqI hI2644 (p := 231) (b := 20) ((gI_sI_eq hI2628.1 kx_231 rfl _))
              obtain ⟨v2666, hv2666⟩ : ∃ v, gI g0 231 24 = v := ⟨_, rfl⟩
              have tv2666 := congrArg Int32.toInt hv2666
              have x2667 := HI.eqI hI2644 (p := 231) (b := 24) ((((gI_sI_ne (by decide)).trans ((hF2629.1 231 24 mf_X11_emit_231_231_24).trans ((hF2547.1 231 24 mf_X11_must_231_231_24).trans ((hF1804.1 231 24 mf_X11_partAt_231_231_24).trans (hF1791.1 231 24 mf_X11_isSign_231_231_24))))).trans hv2666))
              have x2672 := HI.eqI hI0 (p := 231) (b := 20) (hv2642)
              have lp := pa1810
              unfold PAI at lp
              have ld := CDM.dig hK
              have y2675 : pI g0 11 = (gI g0 231 11).toInt := rfl
              have y2676 : wth g0 = (gJ g0 231 12).toInt := rfl
              have x2678 := HI.eqJ hI0 (b := 12) (hv5)
              have y2683 : (gI g2545 231 13).toInt = (gI g0 231 13).toInt := (mu2579.2.1 (show (gI g0 231 14).toInt = 0 from by omega) (by omega)).2.1
              have dg2684 := fun a b => CDM_dg hK a b
              exact ⟨_, rfl, hI2644, hF2645, _, rfl, by decide, ⟨by omega, by omega, by omega, by omega, w262658, by omega, by omega, (fun hbad => ⟨by omega, (PT.mk (fun h => by first | exact absurd h (by decide) | (exfalso; omega)) (fun _ => pg2657) (fun h h9 => by first | exact absurd h (by decide) | (exfalso; omega)) (fun h => by first | exact absurd h (by decide) | (exfalso; omega)))⟩), (fun hbad => by omega), (TKM.c hK2580 (((gA_sI).trans (hF2629.2.1 236 ma_X11_emit_231_236))) (((gI_sI_ne (by decide)).trans (hF2629.1 231 8 mf_X11_emit_231_231_8))) (((gI_sI_ne (by decide)).trans (hF2629.1 231 9 mf_X11_emit_231_231_9))) (((gI_sI_ne (by decide)).trans (hF2629.1 231 10 mf_X11_emit_231_231_10))) (((gI_sI_ne (by decide)).trans (hF2629.1 231 11 mf_X11_emit_231_231_11))) (((gJ_sI_ne (by decide)).trans (hF2629.2.2 231 12 mf_X11_emit_231_231_12)))), (fun c0 b hC h => M.leaf h (by rw [pI.c (((gI_sI_ne (by decide)).trans (hF2629.1 231 9 mf_X11_emit_231_231_9)))]; exact (MUSTP.tok hK mu2579 (by omega) (by omega))) (by omega) (show (gI g0 231 20).toInt < 50 from by omega) (((gA_sI).trans ((hF2629.2.1 240 ma_X11_emit_231_240).trans ((hF2547.2.1 240 ma_X11_must_231_240).trans ((hF1804.2.1 240 ma_X11_partAt_231_240).trans (hF1791.2.1 240 ma_X11_isSign_231_240)))))) (show (gI _ 231 23).toInt = (gI g0 231 23).toInt from (by first | exact x2654.trans tv8.symm | omega)) (show (gI _ 231 24).toInt = (gI g0 231 24).toInt from (by first | exact x2667.trans tv2666.symm | omega)) (show (gI _ 231 20).toInt = (gI g0 231 20).toInt + 1 from by omega) (show (gI _ 231 15).toInt = (gI g0 231 15).toInt from (by first | exact x2663.trans tv2662.symm | omega)) (fun _ => ⟨show (gI _ 231 14).toInt = 0 from by omega, show (gI _ 231 13).toInt = (gI g0 231 13).toInt from by omega⟩) (fun z => absurd (show (gI g0 231 14).toInt = 0 from (by first | exact h2 | omega)) z)), (fun h14 c0 b K hC h => MG_leaf h (by rw [pI.c (((gI_sI_ne (by decide)).trans (hF2629.1 231 9 mf_X11_emit_231_231_9)))]; exact (MUSTP.tok hK mu2579 (by omega) (by omega))) (by first | omega | (have d1 := dg2684 (by show (gI g0 231 11).toInt = 2; omega) (by show (gJ g0 231 12).toInt ≤ 1000; omega); omega)) (((gA_sI).trans ((hF2629.2.1 240 ma_X11_emit_231_240).trans ((hF2547.2.1 240 ma_X11_must_231_240).trans ((hF1804.2.1 240 ma_X11_partAt_231_240).trans (hF1791.2.1 240 ma_X11_isSign_231_240)))))) (((gA_sI).trans ((hF2629.2.1 241 ma_X11_emit_231_241).trans ((hF2547.2.1 241 ma_X11_must_231_241).trans ((hF1804.2.1 241 ma_X11_partAt_231_241).trans (hF1791.2.1 241 ma_X11_isSign_231_241)))))) (pI.c (((gI_sI_ne (by decide)).trans ((hF2629.1 231 23 mf_X11_emit_231_231_23).trans ((hF2547.1 231 23 mf_X11_must_231_231_23).trans ((hF1804.1 231 23 mf_X11_partAt_231_231_23).trans (hF1791.1 231 23 mf_X11_isSign_231_231_23))))))) (EMG_fr hr2631.2 (SMG_mk (((hF2547.2.1 238 ma_X11_must_231_238).trans ((hF1804.2.1 238 ma_X11_partAt_231_238).trans (hF1791.2.1 238 ma_X11_isSign_231_238)))) (((hF2547.2.1 239 ma_X11_must_231_239).trans ((hF1804.2.1 239 ma_X11_partAt_231_239).trans (hF1791.2.1 239 ma_X11_isSign_231_239)))) (((hF2547.1 231 17 mf_X11_must_231_231_17).trans ((hF1804.1 231 17 mf_X11_partAt_231_231_17).trans (hF1791.1 231 17 mf_X11_isSign_231_231_17))))) (SMG_mk ((gA_sI)) ((gA_sI)) ((gI_sI_ne (by decide))))))⟩⟩
      · have c2248_ : v5.toInt ≤ 1000 := en_j_gt_f c2248
        refine At.enter rfl ?_
        refine r_iconst 1 rfl ?_
        refine r_goto ?_
        refine At.enter rfl ?_
        refine r_istore_n ([(2, .int 1), (1, .int v1805), (0, .ref 231)]) rfl ?_
        refine r_aload_n rfl ?_
        refine r_iload_n rfl ?_
        refine r_iconst (-1) rfl ?_
        refine r_ics 53 rfl (fun c2685 => ?_) (fun c2685 => ?_)
        · have c2685_ : v1805.toInt ≠ (-1) := en_i_ne_t c2685
          refine At.enter rfl ?_
          refine r_iconst 1 rfl ?_
          refine r_goto ?_
          refine At.enter rfl ?_
          refine r_iload_n rfl ?_
          refine r_iconst (-1) rfl ?_
          refine r_ics 67 rfl (fun c2686 => ?_) (fun c2686 => ?_)
          · have c2686_ : v1805.toInt ≠ (-1) := en_i_ne_t c2686
            refine At.enter rfl ?_
            refine r_iload_n rfl ?_
            refine Ar.fall 72 rfl ?_
            refine At.enter rfl ?_
            refine r_iload_n rfl ?_
            refine r_iff 76 rfl (by decide) ?_
            refine At.enter rfl ?_
            refine r_aload_n rfl ?_
            refine q_getJv (Sh.long hI1803.1 kx_231 rfl) v5 (((hF1804.2.2 231 12 mf_X11_partAt_231_231_12).trans (hF1791.2.2 231 12 mf_X11_isSign_231_231_12)).trans hv5) ?_
            refine q_l2iO (fun v2687 hv2687 => ?_)
            refine r_goto ?_
            refine At.enter rfl ?_
            refine q_inlV 88 rfl [.ref 231, .int 1, .int v1805, .int v2687] [] (Nat.le_of_ble_eq_true rfl) rfl ?_
            refine Ev.mk rfl rfl ⟨Nat.le_of_ble_eq_true rfl, Or.inr (q_rc hI1803.1 kx_231 rfl)⟩ ?_
            show At _ none _ _ (0, [(0, .ref 231), (1, .int 1), (2, .int v1805), (3, .int v2687)], [], (_, _)) _
            refine At.enter rfl ?_
            refine r_aload_n rfl ?_
            refine r_iload_n rfl ?_
            refine r_iff 5 rfl (by decide) ?_
            refine At.enter rfl ?_
            refine r_aload_n rfl ?_
            obtain ⟨v2688, hv2688⟩ : ∃ v, gI g0 231 20 = v := ⟨_, rfl⟩
            refine q_getI (Sh.int hI1803.1 kx_231 rfl) v2688 (((hF1804.1 231 20 mf_X11_partAt_231_231_20).trans (hF1791.1 231 20 mf_X11_isSign_231_231_20)).trans hv2688) ?_
            refine r_bipush 50 rfl ?_
            refine r_ics 14 rfl (fun c2689 => ?_) (fun c2689 => ?_)
            · have c2689_ : v2688.toInt ≥ 50 := en_i_ge_t c2689
              refine At.enter rfl ?_
              refine r_iconst 0 rfl ?_
              refine Ar.fall 19 rfl ?_
              refine At.enter rfl ?_
              have x2690 := HI.eqI hI1803 (p := 231) (b := 8) ((((hF1804.1 231 8 mf_X11_partAt_231_231_8).trans (hF1791.1 231 8 mf_X11_isSign_231_231_8)).trans hv1))
              have x2691 := HI.eqI hI1803 (p := 231) (b := 9) ((((hF1804.1 231 9 mf_X11_partAt_231_231_9).trans (hF1791.1 231 9 mf_X11_isSign_231_231_9)).trans hv2))
              have x2692 := HI.eqI hI1803 (p := 231) (b := 10) ((((hF1804.1 231 10 mf_X11_partAt_231_231_10).trans (hF1791.1 231 10 mf_X11_isSign_231_231_10)).trans hv3))
              have w262694 := W26.cong hW hI1803 (((hF1804.1 231 9 mf_X11_partAt_231_231_9).trans (hF1791.1 231 9 mf_X11_isSign_231_231_9))) (((hF1804.1 231 10 mf_X11_partAt_231_231_10).trans (hF1791.1 231 10 mf_X11_isSign_231_231_10))) (((hF1804.1 231 11 mf_X11_partAt_231_231_11).trans (hF1791.1 231 11 mf_X11_isSign_231_231_11))) (((hF1804.2.2 231 12 mf_X11_partAt_231_231_12).trans (hF1791.2.2 231 12 mf_X11_isSign_231_231_12)))
              have zv2695 : (0 : Int32).toInt = 0 := rfl
              refine r_callV 22 rfl [.ref 231, .int 0] [] (Nat.le_of_ble_eq_true rfl) rfl (T_X11_must_231 _ hI1803 0 (by decide) (by refine ⟨?_, ?_, ?_, ?_⟩ <;> omega) w262694 (TKM.c hK (((hF1804.2.1 236 ma_X11_partAt_231_236).trans (hF1791.2.1 236 ma_X11_isSign_231_236))) (((hF1804.1 231 8 mf_X11_partAt_231_231_8).trans (hF1791.1 231 8 mf_X11_isSign_231_231_8))) (((hF1804.1 231 9 mf_X11_partAt_231_231_9).trans (hF1791.1 231 9 mf_X11_isSign_231_231_9))) (((hF1804.1 231 10 mf_X11_partAt_231_231_10).trans (hF1791.1 231 10 mf_X11_isSign_231_231_10))) (((hF1804.1 231 11 mf_X11_partAt_231_231_11).trans (hF1791.1 231 11 mf_X11_isSign_231_231_11))) (((hF1804.2.2 231 12 mf_X11_partAt_231_231_12).trans (hF1791.2.2 231 12 mf_X11_isSign_231_231_12))))) ?_
              rintro _ _ ⟨g2696, rfl, hI2697, hF2698, rfl, hr2700⟩
              refine At.stn ?_
              have hF2701 := Fr.tr hF1807 hF2698 rfl rfl
              have x2707 := HI.eqI hI1803 (p := 231) (b := 14) ((((hF1804.1 231 14 mf_X11_partAt_231_231_14).trans (hF1791.1 231 14 mf_X11_isSign_231_231_14)).trans hv6))
              have x2708 := HI.eqI hI2697 (p := 231) (b := 8) ((((hF2698.1 231 8 mf_X11_must_231_231_8).trans ((hF1804.1 231 8 mf_X11_partAt_231_231_8).trans (hF1791.1 231 8 mf_X11_isSign_231_231_8))).trans hv1))
              obtain ⟨v2709, hv2709⟩ : ∃ v, gI g2696 231 9 = v := ⟨_, rfl⟩
              have rv2709 := RgF.at hI2697.2.1 (p := 231) (b := 9) rfl
              rw [hv2709] at rv2709
              dsimp only at rv2709
              have tv2709 := congrArg Int32.toInt hv2709
              obtain ⟨v2711, hv2711⟩ : ∃ v, gI g2696 231 10 = v := ⟨_, rfl⟩
              have rv2711 := RgF.at hI2697.2.1 (p := 231) (b := 10) rfl
              rw [hv2711] at rv2711
              dsimp only at rv2711
              have tv2711 := congrArg Int32.toInt hv2711
              obtain ⟨v2713, hv2713⟩ : ∃ v, gI g2696 231 11 = v := ⟨_, rfl⟩
              have tv2713 := congrArg Int32.toInt hv2713
              obtain ⟨v2715, hv2715⟩ : ∃ v, gI g2696 231 14 = v := ⟨_, rfl⟩
              have tv2715 := congrArg Int32.toInt hv2715
              obtain ⟨c2717, c2718, c2719, c2720, c2721, c2722, c2723, c2724⟩ := hr2700
              obtain ⟨v2725, hv2725⟩ : ∃ v, gI g0 231 13 = v := ⟨_, rfl⟩
              have tv2725 := congrArg Int32.toInt hv2725
              have x2726 := HI.eqI hI1803 (p := 231) (b := 13) ((((hF1804.1 231 13 mf_X11_partAt_231_231_13).trans (hF1791.1 231 13 mf_X11_isSign_231_231_13)).trans hv2725))
              obtain ⟨v2728, hv2728⟩ : ∃ v, gI g2696 231 13 = v := ⟨_, rfl⟩
              have tv2728 := congrArg Int32.toInt hv2728
              unfold MUSTP at c2724
              rw [TM.c (((hF1804.2.1 236 ma_X11_partAt_231_236).trans (hF1791.2.1 236 ma_X11_isSign_231_236))), nM.c (((hF1804.1 231 8 mf_X11_partAt_231_231_8).trans (hF1791.1 231 8 mf_X11_isSign_231_231_8))), pI.c (b := 14) (((hF1804.1 231 14 mf_X11_partAt_231_231_14).trans (hF1791.1 231 14 mf_X11_isSign_231_231_14))), pI.c (b := 13) (((hF1804.1 231 13 mf_X11_partAt_231_231_13).trans (hF1791.1 231 13 mf_X11_isSign_231_231_13))), pI.c (b := 10) (((hF1804.1 231 10 mf_X11_partAt_231_231_10).trans (hF1791.1 231 10 mf_X11_isSign_231_231_10))), pI.c (b := 9) (((hF1804.1 231 9 mf_X11_partAt_231_231_9).trans (hF1791.1 231 9 mf_X11_isSign_231_231_9)))] at c2724
              have mu2730 : MUSTP g0 g2696 0 := c2724
              clear c2724
              have hK2731 := mu2730.1
              refine At.enter rfl ?_
              refine r_aload_n rfl ?_
              refine q_getI (Sh.int hI2697.1 kx_231 rfl) v2715 hv2715 ?_
              refine r_ifs 29 rfl (fun c2732 => ?_) (fun c2732 => ?_)
              · have c2732_ : v2715.toInt ≠ 0 := en_k_ne_t c2732
                clear c2723
                obtain ⟨i2733, i2734⟩ := MUSTP.y mu2730 (by omega) (by omega)
                refine At.enter rfl ?_
                refine q_vret ?_
                refine At.enter rfl ?_
                refine r_iconst 3 rfl ?_
                refine r_ireti ?_
                obtain ⟨v2739, hv2739⟩ : ∃ v, gJ g2696 231 12 = v := ⟨_, rfl⟩
                have x2740 := HI.eqJ hI2697 (b := 12) (hv2739)
                have x2742 := HI.eqI hI2697 (p := 231) (b := 17) ((((hF2698.1 231 17 mf_X11_must_231_231_17).trans ((hF1804.1 231 17 mf_X11_partAt_231_231_17).trans (hF1791.1 231 17 mf_X11_isSign_231_231_17))).trans hv7))
                have x2743 := HI.eqI hI2697 (p := 231) (b := 23) ((((hF2698.1 231 23 mf_X11_must_231_231_23).trans ((hF1804.1 231 23 mf_X11_partAt_231_231_23).trans (hF1791.1 231 23 mf_X11_isSign_231_231_23))).trans hv8))
                have zv2745 : (3 : Int32).toInt = 3 := rfl
                obtain ⟨v2749, hv2749⟩ : ∃ v, gI g0 231 15 = v := ⟨_, rfl⟩
                have rv2749 := RgF.at hI0.2.1 (p := 231) (b := 15) rfl
                rw [hv2749] at rv2749
                dsimp only at rv2749
                have tv2749 := congrArg Int32.toInt hv2749
                have x2750 := HI.eqI hI2697 (p := 231) (b := 15) ((((hF2698.1 231 15 mf_X11_must_231_231_15).trans ((hF1804.1 231 15 mf_X11_partAt_231_231_15).trans (hF1791.1 231 15 mf_X11_isSign_231_231_15))).trans hv2749))
                have x2751 := HI.eqI hI2697 (p := 231) (b := 20) ((((hF2698.1 231 20 mf_X11_must_231_231_20).trans ((hF1804.1 231 20 mf_X11_partAt_231_231_20).trans (hF1791.1 231 20 mf_X11_isSign_231_231_20))).trans hv2688))
                obtain ⟨v2753, hv2753⟩ : ∃ v, gI g0 231 24 = v := ⟨_, rfl⟩
                have tv2753 := congrArg Int32.toInt hv2753
                have x2754 := HI.eqI hI2697 (p := 231) (b := 24) ((((hF2698.1 231 24 mf_X11_must_231_231_24).trans ((hF1804.1 231 24 mf_X11_partAt_231_231_24).trans (hF1791.1 231 24 mf_X11_isSign_231_231_24))).trans hv2753))
                have x2759 := HI.eqI hI0 (p := 231) (b := 20) (hv2688)
                have lp := pa1810
                unfold PAI at lp
                have ld := CDM.dig hK
                have y2762 : pI g0 11 = (gI g0 231 11).toInt := rfl
                have y2763 : wth g0 = (gJ g0 231 12).toInt := rfl
                have x2765 := HI.eqJ hI0 (b := 12) (hv5)
                have mf2766 := mu2730.2.2.1 (show (gI g0 231 14).toInt = 0 from by omega) (by omega)
                have y2767 : (gI _ 231 14).toInt ≠ 0 := mf2766.1
                have y2768 : (gI _ 231 13).toInt = (gI g0 231 9).toInt := mf2766.2
                exact ⟨_, rfl, hI2697, hF2701, _, rfl, by decide, ⟨by omega, by omega, by omega, by omega, c2722, by omega, by omega, (fun hbad => ⟨by omega, (PT.mk (fun h => by first | exact absurd h (by decide) | (exfalso; omega)) (fun h => by first | exact absurd h (by decide) | (exfalso; omega)) (fun h h9 => by first | exact absurd h (by decide) | (exfalso; omega)) (fun h => by first | exact absurd h (by decide) | (exfalso; omega)))⟩), (fun hbad => by omega), hK2731, (fun c0 b hC h => M.leafF h (TKM.some hK).choose_spec (by omega) (fun z => by have z1 := z.1; have z2 : (gI g0 231 20).toInt < 50 := z.2; omega) (fun _ => ⟨show (gI _ 231 14).toInt ≠ 0 from by omega, show (gI _ 231 13).toInt = (gI g0 231 9).toInt from by omega⟩) (fun z => absurd (show (gI g0 231 14).toInt = 0 from (by first | exact h2 | omega)) z) _), (fun h14 c0 b K hC h => absurd (show (gI _ 231 14).toInt = 0 from h14) (by omega))⟩⟩
              · have c2732_ : v2715.toInt = 0 := en_k_ne_f c2732
                obtain ⟨i2769, i2770, i2771⟩ := c2723 (by omega)
                obtain ⟨i2772, i2773⟩ := MUSTP.z mu2730 (by omega) (by omega)
                refine At.enter rfl ?_
                refine r_aload_n rfl ?_
                refine r_iload_n rfl ?_
                refine r_iload_n rfl ?_
                have x2774 := HI.eqI hI2697 (p := 231) (b := 17) ((((hF2698.1 231 17 mf_X11_must_231_231_17).trans ((hF1804.1 231 17 mf_X11_partAt_231_231_17).trans (hF1791.1 231 17 mf_X11_isSign_231_231_17))).trans hv7))
                refine r_callV 35 rfl [.ref 231, .int v1805, .int v2687] [] (Nat.le_of_ble_eq_true rfl) rfl (T_X11_emit_231 _ hI2697 v1805 v2687 (by omega)) ?_
                rintro _ _ ⟨g2775, rfl, hI2776, hF2777, rfl, hr2779⟩
                refine At.stn ?_
                have hF2780 := Fr.tr hF2701 hF2777 rfl rfl
                have x2782 := HI.eqI hI2697 (p := 231) (b := 23) ((((hF2698.1 231 23 mf_X11_must_231_231_23).trans ((hF1804.1 231 23 mf_X11_partAt_231_231_23).trans (hF1791.1 231 23 mf_X11_isSign_231_231_23))).trans hv8))
                obtain ⟨v2783, hv2783⟩ : ∃ v, gI g2775 231 17 = v := ⟨_, rfl⟩
                have rv2783 := RgF.at hI2776.2.1 (p := 231) (b := 17) rfl
                rw [hv2783] at rv2783
                dsimp only at rv2783
                have tv2783 := congrArg Int32.toInt hv2783
                have y2785 : (gI _ 231 17).toInt = (gI _ 231 17).toInt + 1 := hr2779.1.1
                have pg2787 := PG.cong (hP.1 (by decide)) hI2697 (((hF2698.2.1 238 ma_X11_must_231_238).trans ((hF1804.2.1 238 ma_X11_partAt_231_238).trans (hF1791.2.1 238 ma_X11_isSign_231_238)))) (((hF2698.2.1 239 ma_X11_must_231_239).trans ((hF1804.2.1 239 ma_X11_partAt_231_239).trans (hF1791.2.1 239 ma_X11_isSign_231_239)))) (((hF2698.2.1 240 ma_X11_must_231_240).trans ((hF1804.2.1 240 ma_X11_partAt_231_240).trans (hF1791.2.1 240 ma_X11_isSign_231_240)))) (((hF2698.2.1 241 ma_X11_must_231_241).trans ((hF1804.2.1 241 ma_X11_partAt_231_241).trans (hF1791.2.1 241 ma_X11_isSign_231_241)))) (((hF2698.1 231 17 mf_X11_must_231_231_17).trans ((hF1804.1 231 17 mf_X11_partAt_231_231_17).trans (hF1791.1 231 17 mf_X11_isSign_231_231_17)))) (((hF2698.1 231 23 mf_X11_must_231_231_23).trans ((hF1804.1 231 23 mf_X11_partAt_231_231_23).trans (hF1791.1 231 23 mf_X11_isSign_231_231_23))))
                have pg2786 := PG.emit (e' := 1) pg2787 hr2779.1 (hF2777.2.1 240 ma_X11_emit_231_240) (hF2777.2.1 241 ma_X11_emit_231_241) (hF2777.1 231 23 mf_X11_emit_231_231_23) (Or.inl ⟨by omega, by omega, by decide, by decide⟩)
                refine At.enter rfl ?_
                refine r_aload_n rfl ?_
                refine r_dup rfl ?_
                refine q_getI (Sh.int hI2776.1 kx_231 rfl) v2688 (((hF2777.1 231 20 mf_X11_emit_231_231_20).trans ((hF2698.1 231 20 mf_X11_must_231_231_20).trans ((hF1804.1 231 20 mf_X11_partAt_231_231_20).trans (hF1791.1 231 20 mf_X11_isSign_231_231_20)))).trans hv2688) ?_
                refine r_iconst 1 rfl ?_
                refine q_iaddO (fun v2788 _ => ?_)
                refine q_putI (Sh.int hI2776.1 kx_231 rfl) rfl ?_
                have hI2789 := HI.wI0 hI2776 kx_231 rfl (p := 231) (b := 20) (v := v2788) rfl
                have hF2790 := Fr.wI (p := 231) (b := 20) (v := v2788) hF2780 rfl
                refine Ar.fall 45 rfl ?_
                refine At.enter rfl ?_
                refine q_vret ?_
                refine At.enter rfl ?_
                refine r_iconst 3 rfl ?_
                refine r_ireti ?_
                have x2791 := HI.eqI hI2789 (p := 231) (b := 8) ((((gI_sI_ne (by decide)).trans ((hF2777.1 231 8 mf_X11_emit_231_231_8).trans ((hF2698.1 231 8 mf_X11_must_231_231_8).trans ((hF1804.1 231 8 mf_X11_partAt_231_231_8).trans (hF1791.1 231 8 mf_X11_isSign_231_231_8))))).trans hv1))
                have x2792 := HI.eqI hI2789 (p := 231) (b := 9) ((((gI_sI_ne (by decide)).trans (hF2777.1 231 9 mf_X11_emit_231_231_9)).trans hv2709))
                have x2793 := HI.eqI hI2789 (p := 231) (b := 10) ((((gI_sI_ne (by decide)).trans (hF2777.1 231 10 mf_X11_emit_231_231_10)).trans hv2711))
                have x2794 := HI.eqI hI2789 (p := 231) (b := 11) ((((gI_sI_ne (by decide)).trans (hF2777.1 231 11 mf_X11_emit_231_231_11)).trans hv2713))
                obtain ⟨v2795, hv2795⟩ : ∃ v, gJ g2696 231 12 = v := ⟨_, rfl⟩
                have x2796 := HI.eqJ hI2789 (b := 12) ((((gJ_sI_ne (by decide)).trans (hF2777.2.2 231 12 mf_X11_emit_231_231_12)).trans hv2795))
                have x2797 := HI.eqI hI2789 (p := 231) (b := 14) ((((gI_sI_ne (by decide)).trans (hF2777.1 231 14 mf_X11_emit_231_231_14)).trans hv2715))
                have x2798 := HI.eqI hI2789 (p := 231) (b := 17) (((gI_sI_ne (by decide)).trans hv2783))
                have x2799 := HI.eqI hI2789 (p := 231) (b := 23) ((((gI_sI_ne (by decide)).trans ((hF2777.1 231 23 mf_X11_emit_231_231_23).trans ((hF2698.1 231 23 mf_X11_must_231_231_23).trans ((hF1804.1 231 23 mf_X11_partAt_231_231_23).trans (hF1791.1 231 23 mf_X11_isSign_231_231_23))))).trans hv8))
                have zv2801 : (3 : Int32).toInt = 3 := rfl
                have pg2802 := PG.cong pg2786 hI2789 ((gA_sI)) ((gA_sI)) ((gA_sI)) ((gA_sI)) ((gI_sI_ne (by decide))) ((gI_sI_ne (by decide)))
                have w262803 := W26.cong c2722 hI2789 (((gI_sI_ne (by decide)).trans (hF2777.1 231 9 mf_X11_emit_231_231_9))) (((gI_sI_ne (by decide)).trans (hF2777.1 231 10 mf_X11_emit_231_231_10))) (((gI_sI_ne (by decide)).trans (hF2777.1 231 11 mf_X11_emit_231_231_11))) (((gJ_sI_ne (by decide)).trans (hF2777.2.2 231 12 mf_X11_emit_231_231_12)))
                have x2805 := HI.eqI hI2789 (p := 231) (b := 13) ((((gI_sI_ne (by decide)).trans (hF2777.1 231 13 mf_X11_emit_231_231_13)).trans hv2728))
                obtain ⟨v2807, hv2807⟩ : ∃ v, gI g0 231 15 = v := ⟨_, rfl⟩
                have rv2807 := RgF.at hI0.2.1 (p := 231) (b := 15) rfl
                rw [hv2807] at rv2807
                dsimp only at rv2807
                have tv2807 := congrArg Int32.toInt hv2807
                have x2808 := HI.eqI hI2789 (p := 231) (b := 15) ((((gI_sI_ne (by decide)).trans ((hF2777.1 231 15 mf_X11_emit_231_231_15).trans ((hF2698.1 231 15 mf_X11_must_231_231_15).trans ((hF1804.1 231 15 mf_X11_partAt_231_231_15).trans (hF1791.1 231 15 mf_X11_isSign_231_231_15))))).trans hv2807))
                have x2809 := HI.eqI hI2789 (p := 231) (b := 20) ((gI_sI_eq hI2776.1 kx_231 rfl _))
                obtain ⟨v2811, hv2811⟩ : ∃ v, gI g0 231 24 = v := ⟨_, rfl⟩
                have tv2811 := congrArg Int32.toInt hv2811
                have x2812 := HI.eqI hI2789 (p := 231) (b := 24) ((((gI_sI_ne (by decide)).trans ((hF2777.1 231 24 mf_X11_emit_231_231_24).trans ((hF2698.1 231 24 mf_X11_must_231_231_24).trans ((hF1804.1 231 24 mf_X11_partAt_231_231_24).trans (hF1791.1 231 24 mf_X11_isSign_231_231_24))))).trans hv2811))
                have x2817 := HI.eqI hI0 (p := 231) (b := 20) (hv2688)
                have lp := pa1810
                unfold PAI at lp
                have ld := CDM.dig hK
                have y2820 : pI g0 11 = (gI g0 231 11).toInt := rfl
                have y2821 : wth g0 = (gJ g0 231 12).toInt := rfl
                have x2823 := HI.eqJ hI0 (b := 12) (hv5)
                have y2828 : (gI g2696 231 13).toInt = (gI g0 231 13).toInt := (mu2730.2.1 (show (gI g0 231 14).toInt = 0 from by omega) (by omega)).2.1
                have dg2829 := fun a b => CDM_dg hK a b
                have l2e : 0 ≤ v5.toInt → v5.toInt ≤ 1000 → v2687.toInt = v5.toInt := fun a b => l2i_e hv2687 (by omega) (by omega)
                exact ⟨_, rfl, hI2789, hF2790, _, rfl, by decide, ⟨by omega, by omega, by omega, by omega, w262803, by omega, by omega, (fun hbad => ⟨by omega, (PT.mk (fun h => by first | exact absurd h (by decide) | (exfalso; omega)) (fun _ => pg2802) (fun h h9 => by first | exact absurd h (by decide) | (exfalso; omega)) (fun h => by first | exact absurd h (by decide) | (exfalso; omega)))⟩), (fun hbad => by omega), (TKM.c hK2731 (((gA_sI).trans (hF2777.2.1 236 ma_X11_emit_231_236))) (((gI_sI_ne (by decide)).trans (hF2777.1 231 8 mf_X11_emit_231_231_8))) (((gI_sI_ne (by decide)).trans (hF2777.1 231 9 mf_X11_emit_231_231_9))) (((gI_sI_ne (by decide)).trans (hF2777.1 231 10 mf_X11_emit_231_231_10))) (((gI_sI_ne (by decide)).trans (hF2777.1 231 11 mf_X11_emit_231_231_11))) (((gJ_sI_ne (by decide)).trans (hF2777.2.2 231 12 mf_X11_emit_231_231_12)))), (fun c0 b hC h => M.leaf h (by rw [pI.c (((gI_sI_ne (by decide)).trans (hF2777.1 231 9 mf_X11_emit_231_231_9)))]; exact (MUSTP.tok hK mu2730 (by omega) (by omega))) (by omega) (show (gI g0 231 20).toInt < 50 from by omega) (((gA_sI).trans ((hF2777.2.1 240 ma_X11_emit_231_240).trans ((hF2698.2.1 240 ma_X11_must_231_240).trans ((hF1804.2.1 240 ma_X11_partAt_231_240).trans (hF1791.2.1 240 ma_X11_isSign_231_240)))))) (show (gI _ 231 23).toInt = (gI g0 231 23).toInt from (by first | exact x2799.trans tv8.symm | omega)) (show (gI _ 231 24).toInt = (gI g0 231 24).toInt from (by first | exact x2812.trans tv2811.symm | omega)) (show (gI _ 231 20).toInt = (gI g0 231 20).toInt + 1 from by omega) (show (gI _ 231 15).toInt = (gI g0 231 15).toInt from (by first | exact x2808.trans tv2807.symm | omega)) (fun _ => ⟨show (gI _ 231 14).toInt = 0 from by omega, show (gI _ 231 13).toInt = (gI g0 231 13).toInt from by omega⟩) (fun z => absurd (show (gI g0 231 14).toInt = 0 from (by first | exact h2 | omega)) z)), (fun h14 c0 b K hC h => MG_leaf h (by rw [pI.c (((gI_sI_ne (by decide)).trans (hF2777.1 231 9 mf_X11_emit_231_231_9)))]; exact (MUSTP.tok hK mu2730 (by omega) (by omega))) (by first | omega | (have d1 := dg2829 (by show (gI g0 231 11).toInt = 2; omega) (by show (gJ g0 231 12).toInt ≤ 1000; omega); omega)) (((gA_sI).trans ((hF2777.2.1 240 ma_X11_emit_231_240).trans ((hF2698.2.1 240 ma_X11_must_231_240).trans ((hF1804.2.1 240 ma_X11_partAt_231_240).trans (hF1791.2.1 240 ma_X11_isSign_231_240)))))) (((gA_sI).trans ((hF2777.2.1 241 ma_X11_emit_231_241).trans ((hF2698.2.1 241 ma_X11_must_231_241).trans ((hF1804.2.1 241 ma_X11_partAt_231_241).trans (hF1791.2.1 241 ma_X11_isSign_231_241)))))) (pI.c (((gI_sI_ne (by decide)).trans ((hF2777.1 231 23 mf_X11_emit_231_231_23).trans ((hF2698.1 231 23 mf_X11_must_231_231_23).trans ((hF1804.1 231 23 mf_X11_partAt_231_231_23).trans (hF1791.1 231 23 mf_X11_isSign_231_231_23))))))) (EMG_fr hr2779.2 (SMG_mk (((hF2698.2.1 238 ma_X11_must_231_238).trans ((hF1804.2.1 238 ma_X11_partAt_231_238).trans (hF1791.2.1 238 ma_X11_isSign_231_238)))) (((hF2698.2.1 239 ma_X11_must_231_239).trans ((hF1804.2.1 239 ma_X11_partAt_231_239).trans (hF1791.2.1 239 ma_X11_isSign_231_239)))) (((hF2698.1 231 17 mf_X11_must_231_231_17).trans ((hF1804.1 231 17 mf_X11_partAt_231_231_17).trans (hF1791.1 231 17 mf_X11_isSign_231_231_17))))) (SMG_mk ((gA_sI)) ((gA_sI)) ((gI_sI_ne (by decide))))))⟩⟩
            · have c2689_ : v2688.toInt < 50 := en_i_ge_f c2689
              refine At.enter rfl ?_
              refine r_iconst 1 rfl ?_
              refine r_goto ?_
              refine At.enter rfl ?_
              have x2830 := HI.eqI hI1803 (p := 231) (b := 8) ((((hF1804.1 231 8 mf_X11_partAt_231_231_8).trans (hF1791.1 231 8 mf_X11_isSign_231_231_8)).trans hv1))
              have x2831 := HI.eqI hI1803 (p := 231) (b := 9) ((((hF1804.1 231 9 mf_X11_partAt_231_231_9).trans (hF1791.1 231 9 mf_X11_isSign_231_231_9)).trans hv2))
              have x2832 := HI.eqI hI1803 (p := 231) (b := 10) ((((hF1804.1 231 10 mf_X11_partAt_231_231_10).trans (hF1791.1 231 10 mf_X11_isSign_231_231_10)).trans hv3))
              have w262834 := W26.cong hW hI1803 (((hF1804.1 231 9 mf_X11_partAt_231_231_9).trans (hF1791.1 231 9 mf_X11_isSign_231_231_9))) (((hF1804.1 231 10 mf_X11_partAt_231_231_10).trans (hF1791.1 231 10 mf_X11_isSign_231_231_10))) (((hF1804.1 231 11 mf_X11_partAt_231_231_11).trans (hF1791.1 231 11 mf_X11_isSign_231_231_11))) (((hF1804.2.2 231 12 mf_X11_partAt_231_231_12).trans (hF1791.2.2 231 12 mf_X11_isSign_231_231_12)))
              have zv2835 : (1 : Int32).toInt = 1 := rfl
              refine r_callV 22 rfl [.ref 231, .int 1] [] (Nat.le_of_ble_eq_true rfl) rfl (T_X11_must_231 _ hI1803 1 (by decide) (by refine ⟨?_, ?_, ?_, ?_⟩ <;> omega) w262834 (TKM.c hK (((hF1804.2.1 236 ma_X11_partAt_231_236).trans (hF1791.2.1 236 ma_X11_isSign_231_236))) (((hF1804.1 231 8 mf_X11_partAt_231_231_8).trans (hF1791.1 231 8 mf_X11_isSign_231_231_8))) (((hF1804.1 231 9 mf_X11_partAt_231_231_9).trans (hF1791.1 231 9 mf_X11_isSign_231_231_9))) (((hF1804.1 231 10 mf_X11_partAt_231_231_10).trans (hF1791.1 231 10 mf_X11_isSign_231_231_10))) (((hF1804.1 231 11 mf_X11_partAt_231_231_11).trans (hF1791.1 231 11 mf_X11_isSign_231_231_11))) (((hF1804.2.2 231 12 mf_X11_partAt_231_231_12).trans (hF1791.2.2 231 12 mf_X11_isSign_231_231_12))))) ?_
              rintro _ _ ⟨g2836, rfl, hI2837, hF2838, rfl, hr2840⟩
              refine At.stn ?_
              have hF2841 := Fr.tr hF1807 hF2838 rfl rfl
              have x2847 := HI.eqI hI1803 (p := 231) (b := 14) ((((hF1804.1 231 14 mf_X11_partAt_231_231_14).trans (hF1791.1 231 14 mf_X11_isSign_231_231_14)).trans hv6))
              have x2848 := HI.eqI hI2837 (p := 231) (b := 8) ((((hF2838.1 231 8 mf_X11_must_231_231_8).trans ((hF1804.1 231 8 mf_X11_partAt_231_231_8).trans (hF1791.1 231 8 mf_X11_isSign_231_231_8))).trans hv1))
              obtain ⟨v2849, hv2849⟩ : ∃ v, gI g2836 231 9 = v := ⟨_, rfl⟩
              have rv2849 := RgF.at hI2837.2.1 (p := 231) (b := 9) rfl
              rw [hv2849] at rv2849
              dsimp only at rv2849
              have tv2849 := congrArg Int32.toInt hv2849
              obtain ⟨v2851, hv2851⟩ : ∃ v, gI g2836 231 10 = v := ⟨_, rfl⟩
              have rv2851 := RgF.at hI2837.2.1 (p := 231) (b := 10) rfl
              rw [hv2851] at rv2851
              dsimp only at rv2851
              have tv2851 := congrArg Int32.toInt hv2851
              obtain ⟨v2853, hv2853⟩ : ∃ v, gI g2836 231 11 = v := ⟨_, rfl⟩
              have tv2853 := congrArg Int32.toInt hv2853
              obtain ⟨v2855, hv2855⟩ : ∃ v, gI g2836 231 14 = v := ⟨_, rfl⟩
              have tv2855 := congrArg Int32.toInt hv2855
              obtain ⟨c2857, c2858, c2859, c2860, c2861, c2862, c2863, c2864⟩ := hr2840
              obtain ⟨v2865, hv2865⟩ : ∃ v, gI g0 231 13 = v := ⟨_, rfl⟩
              have tv2865 := congrArg Int32.toInt hv2865
              have x2866 := HI.eqI hI1803 (p := 231) (b := 13) ((((hF1804.1 231 13 mf_X11_partAt_231_231_13).trans (hF1791.1 231 13 mf_X11_isSign_231_231_13)).trans hv2865))
              obtain ⟨v2868, hv2868⟩ : ∃ v, gI g2836 231 13 = v := ⟨_, rfl⟩
              have tv2868 := congrArg Int32.toInt hv2868
              unfold MUSTP at c2864
              rw [TM.c (((hF1804.2.1 236 ma_X11_partAt_231_236).trans (hF1791.2.1 236 ma_X11_isSign_231_236))), nM.c (((hF1804.1 231 8 mf_X11_partAt_231_231_8).trans (hF1791.1 231 8 mf_X11_isSign_231_231_8))), pI.c (b := 14) (((hF1804.1 231 14 mf_X11_partAt_231_231_14).trans (hF1791.1 231 14 mf_X11_isSign_231_231_14))), pI.c (b := 13) (((hF1804.1 231 13 mf_X11_partAt_231_231_13).trans (hF1791.1 231 13 mf_X11_isSign_231_231_13))), pI.c (b := 10) (((hF1804.1 231 10 mf_X11_partAt_231_231_10).trans (hF1791.1 231 10 mf_X11_isSign_231_231_10))), pI.c (b := 9) (((hF1804.1 231 9 mf_X11_partAt_231_231_9).trans (hF1791.1 231 9 mf_X11_isSign_231_231_9)))] at c2864
              have mu2870 : MUSTP g0 g2836 1 := c2864
              clear c2864
              have hK2871 := mu2870.1
              refine At.enter rfl ?_
              refine r_aload_n rfl ?_
              refine q_getI (Sh.int hI2837.1 kx_231 rfl) v2855 hv2855 ?_
              refine r_ifs 29 rfl (fun c2872 => ?_) (fun c2872 => ?_)
              · have c2872_ : v2855.toInt ≠ 0 := en_k_ne_t c2872
                clear c2863
                obtain ⟨i2873, i2874⟩ := MUSTP.y mu2870 (by omega) (by omega)
                refine At.enter rfl ?_
                refine q_vret ?_
                refine At.enter rfl ?_
                refine r_iconst 3 rfl ?_
                refine r_ireti ?_
                obtain ⟨v2879, hv2879⟩ : ∃ v, gJ g2836 231 12 = v := ⟨_, rfl⟩
                have x2880 := HI.eqJ hI2837 (b := 12) (hv2879)
                have x2882 := HI.eqI hI2837 (p := 231) (b := 17) ((((hF2838.1 231 17 mf_X11_must_231_231_17).trans ((hF1804.1 231 17 mf_X11_partAt_231_231_17).trans (hF1791.1 231 17 mf_X11_isSign_231_231_17))).trans hv7))
                have x2883 := HI.eqI hI2837 (p := 231) (b := 23) ((((hF2838.1 231 23 mf_X11_must_231_231_23).trans ((hF1804.1 231 23 mf_X11_partAt_231_231_23).trans (hF1791.1 231 23 mf_X11_isSign_231_231_23))).trans hv8))
                have zv2885 : (3 : Int32).toInt = 3 := rfl
                obtain ⟨v2889, hv2889⟩ : ∃ v, gI g0 231 15 = v := ⟨_, rfl⟩
                have rv2889 := RgF.at hI0.2.1 (p := 231) (b := 15) rfl
                rw [hv2889] at rv2889
                dsimp only at rv2889
                have tv2889 := congrArg Int32.toInt hv2889
                have x2890 := HI.eqI hI2837 (p := 231) (b := 15) ((((hF2838.1 231 15 mf_X11_must_231_231_15).trans ((hF1804.1 231 15 mf_X11_partAt_231_231_15).trans (hF1791.1 231 15 mf_X11_isSign_231_231_15))).trans hv2889))
                have x2891 := HI.eqI hI2837 (p := 231) (b := 20) ((((hF2838.1 231 20 mf_X11_must_231_231_20).trans ((hF1804.1 231 20 mf_X11_partAt_231_231_20).trans (hF1791.1 231 20 mf_X11_isSign_231_231_20))).trans hv2688))
                obtain ⟨v2893, hv2893⟩ : ∃ v, gI g0 231 24 = v := ⟨_, rfl⟩
                have tv2893 := congrArg Int32.toInt hv2893
                have x2894 := HI.eqI hI2837 (p := 231) (b := 24) ((((hF2838.1 231 24 mf_X11_must_231_231_24).trans ((hF1804.1 231 24 mf_X11_partAt_231_231_24).trans (hF1791.1 231 24 mf_X11_isSign_231_231_24))).trans hv2893))
                have x2899 := HI.eqI hI0 (p := 231) (b := 20) (hv2688)
                have lp := pa1810
                unfold PAI at lp
                have ld := CDM.dig hK
                have y2902 : pI g0 11 = (gI g0 231 11).toInt := rfl
                have y2903 : wth g0 = (gJ g0 231 12).toInt := rfl
                have x2905 := HI.eqJ hI0 (b := 12) (hv5)
                have mf2906 := mu2870.2.2.1 (show (gI g0 231 14).toInt = 0 from by omega) (by omega)
                have y2907 : (gI _ 231 14).toInt ≠ 0 := mf2906.1
                have y2908 : (gI _ 231 13).toInt = (gI g0 231 9).toInt := mf2906.2
                exact ⟨_, rfl, hI2837, hF2841, _, rfl, by decide, ⟨by omega, by omega, by omega, by omega, c2862, by omega, by omega, (fun hbad => ⟨by omega, (PT.mk (fun h => by first | exact absurd h (by decide) | (exfalso; omega)) (fun h => by first | exact absurd h (by decide) | (exfalso; omega)) (fun h h9 => by first | exact absurd h (by decide) | (exfalso; omega)) (fun h => by first | exact absurd h (by decide) | (exfalso; omega)))⟩), (fun hbad => by omega), hK2871, (fun c0 b hC h => M.leafF h (TKM.some hK).choose_spec (by omega) (fun z => by have z1 := z.1; have z2 : (gI g0 231 20).toInt < 50 := z.2; omega) (fun _ => ⟨show (gI _ 231 14).toInt ≠ 0 from by omega, show (gI _ 231 13).toInt = (gI g0 231 9).toInt from by omega⟩) (fun z => absurd (show (gI g0 231 14).toInt = 0 from (by first | exact h2 | omega)) z) _), (fun h14 c0 b K hC h => absurd (show (gI _ 231 14).toInt = 0 from h14) (by omega))⟩⟩
              · have c2872_ : v2855.toInt = 0 := en_k_ne_f c2872
                obtain ⟨i2909, i2910, i2911⟩ := c2863 (by omega)
                obtain ⟨i2912, i2913⟩ := MUSTP.z mu2870 (by omega) (by omega)
                refine At.enter rfl ?_
                refine r_aload_n rfl ?_
                refine r_iload_n rfl ?_
                refine r_iload_n rfl ?_
                have x2914 := HI.eqI hI2837 (p := 231) (b := 17) ((((hF2838.1 231 17 mf_X11_must_231_231_17).trans ((hF1804.1 231 17 mf_X11_partAt_231_231_17).trans (hF1791.1 231 17 mf_X11_isSign_231_231_17))).trans hv7))
                refine r_callV 35 rfl [.ref 231, .int v1805, .int v2687] [] (Nat.le_of_ble_eq_true rfl) rfl (T_X11_emit_231 _ hI2837 v1805 v2687 (by omega)) ?_
                rintro _ _ ⟨g2915, rfl, hI2916, hF2917, rfl, hr2919⟩
                refine At.stn ?_
                have hF2920 := Fr.tr hF2841 hF2917 rfl rfl
                have x2922 := HI.eqI hI2837 (p := 231) (b := 23) ((((hF2838.1 231 23 mf_X11_must_231_231_23).trans ((hF1804.1 231 23 mf_X11_partAt_231_231_23).trans (hF1791.1 231 23 mf_X11_isSign_231_231_23))).trans hv8))
                obtain ⟨v2923, hv2923⟩ : ∃ v, gI g2915 231 17 = v := ⟨_, rfl⟩
                have rv2923 := RgF.at hI2916.2.1 (p := 231) (b := 17) rfl
                rw [hv2923] at rv2923
                dsimp only at rv2923
                have tv2923 := congrArg Int32.toInt hv2923
                have y2925 : (gI _ 231 17).toInt = (gI _ 231 17).toInt + 1 := hr2919.1.1
                have pg2927 := PG.cong (hP.1 (by decide)) hI2837 (((hF2838.2.1 238 ma_X11_must_231_238).trans ((hF1804.2.1 238 ma_X11_partAt_231_238).trans (hF1791.2.1 238 ma_X11_isSign_231_238)))) (((hF2838.2.1 239 ma_X11_must_231_239).trans ((hF1804.2.1 239 ma_X11_partAt_231_239).trans (hF1791.2.1 239 ma_X11_isSign_231_239)))) (((hF2838.2.1 240 ma_X11_must_231_240).trans ((hF1804.2.1 240 ma_X11_partAt_231_240).trans (hF1791.2.1 240 ma_X11_isSign_231_240)))) (((hF2838.2.1 241 ma_X11_must_231_241).trans ((hF1804.2.1 241 ma_X11_partAt_231_241).trans (hF1791.2.1 241 ma_X11_isSign_231_241)))) (((hF2838.1 231 17 mf_X11_must_231_231_17).trans ((hF1804.1 231 17 mf_X11_partAt_231_231_17).trans (hF1791.1 231 17 mf_X11_isSign_231_231_17)))) (((hF2838.1 231 23 mf_X11_must_231_231_23).trans ((hF1804.1 231 23 mf_X11_partAt_231_231_23).trans (hF1791.1 231 23 mf_X11_isSign_231_231_23))))
                have pg2926 := PG.emit (e' := 1) pg2927 hr2919.1 (hF2917.2.1 240 ma_X11_emit_231_240) (hF2917.2.1 241 ma_X11_emit_231_241) (hF2917.1 231 23 mf_X11_emit_231_231_23) (Or.inl ⟨by omega, by omega, by decide, by decide⟩)
                refine At.enter rfl ?_
                refine r_aload_n rfl ?_
                refine r_dup rfl ?_
                refine q_getI (Sh.int hI2916.1 kx_231 rfl) v2688 (((hF2917.1 231 20 mf_X11_emit_231_231_20).trans ((hF2838.1 231 20 mf_X11_must_231_231_20).trans ((hF1804.1 231 20 mf_X11_partAt_231_231_20).trans (hF1791.1 231 20 mf_X11_isSign_231_231_20)))).trans hv2688) ?_
                refine r_iconst 1 rfl ?_
                have bv2928 := q_bnd v2688
                refine q_iadd (v2688.toInt + 1) rfl (by omega) (fun v2929 hv2929 => ?_)
                refine q_putI (Sh.int hI2916.1 kx_231 rfl) rfl ?_
                have hI2930 := HI.wI0 hI2916 kx_231 rfl (p := 231) (b := 20) (v := v2929) rfl
                have hF2931 := Fr.wI (p := 231) (b := 20) (v := v2929) hF2920 rfl
                refine Ar.fall 45 rfl ?_
                refine At.enter rfl ?_
                refine q_vret ?_
                refine At.enter rfl ?_
                refine r_iconst 3 rfl ?_
                refine r_ireti ?_
                have x2932 := HI.eqI hI2930 (p := 231) (b := 8) ((((gI_sI_ne (by decide)).trans ((hF2917.1 231 8 mf_X11_emit_231_231_8).trans ((hF2838.1 231 8 mf_X11_must_231_231_8).trans ((hF1804.1 231 8 mf_X11_partAt_231_231_8).trans (hF1791.1 231 8 mf_X11_isSign_231_231_8))))).trans hv1))
                have x2933 := HI.eqI hI2930 (p := 231) (b := 9) ((((gI_sI_ne (by decide)).trans (hF2917.1 231 9 mf_X11_emit_231_231_9)).trans hv2849))
                have x2934 := HI.eqI hI2930 (p := 231) (b := 10) ((((gI_sI_ne (by decide)).trans (hF2917.1 231 10 mf_X11_emit_231_231_10)).trans hv2851))
                have x2935 := HI.eqI hI2930 (p := 231) (b := 11) ((((gI_sI_ne (by decide)).trans (hF2917.1 231 11 mf_X11_emit_231_231_11)).trans hv2853))
                obtain ⟨v2936, hv2936⟩ : ∃ v, gJ g2836 231 12 = v := ⟨_, rfl⟩
                have x2937 := HI.eqJ hI2930 (b := 12) ((((gJ_sI_ne (by decide)).trans (hF2917.2.2 231 12 mf_X11_emit_231_231_12)).trans hv2936))
                have x2938 := HI.eqI hI2930 (p := 231) (b := 14) ((((gI_sI_ne (by decide)).trans (hF2917.1 231 14 mf_X11_emit_231_231_14)).trans hv2855))
                have x2939 := HI.eqI hI2930 (p := 231) (b := 17) (((gI_sI_ne (by decide)).trans hv2923))
                have x2940 := HI.eqI hI2930 (p := 231) (b := 23) ((((gI_sI_ne (by decide)).trans ((hF2917.1 231 23 mf_X11_emit_231_231_23).trans ((hF2838.1 231 23 mf_X11_must_231_231_23).trans ((hF1804.1 231 23 mf_X11_partAt_231_231_23).trans (hF1791.1 231 23 mf_X11_isSign_231_231_23))))).trans hv8))
                have zv2942 : (3 : Int32).toInt = 3 := rfl
                have pg2943 := PG.cong pg2926 hI2930 ((gA_sI)) ((gA_sI)) ((gA_sI)) ((gA_sI)) ((gI_sI_ne (by decide))) ((gI_sI_ne (by decide)))
                have w262944 := W26.cong c2862 hI2930 (((gI_sI_ne (by decide)).trans (hF2917.1 231 9 mf_X11_emit_231_231_9))) (((gI_sI_ne (by decide)).trans (hF2917.1 231 10 mf_X11_emit_231_231_10))) (((gI_sI_ne (by decide)).trans (hF2917.1 231 11 mf_X11_emit_231_231_11))) (((gJ_sI_ne (by decide)).trans (hF2917.2.2 231 12 mf_X11_emit_231_231_12)))
                have x2946 := HI.eqI hI2930 (p := 231) (b := 13) ((((gI_sI_ne (by decide)).trans (hF2917.1 231 13 mf_X11_emit_231_231_13)).trans hv2868))
                obtain ⟨v2948, hv2948⟩ : ∃ v, gI g0 231 15 = v := ⟨_, rfl⟩
                have rv2948 := RgF.at hI0.2.1 (p := 231) (b := 15) rfl
                rw [hv2948] at rv2948
                dsimp only at rv2948
                have tv2948 := congrArg Int32.toInt hv2948
                have x2949 := HI.eqI hI2930 (p := 231) (b := 15) ((((gI_sI_ne (by decide)).trans ((hF2917.1 231 15 mf_X11_emit_231_231_15).trans ((hF2838.1 231 15 mf_X11_must_231_231_15).trans ((hF1804.1 231 15 mf_X11_partAt_231_231_15).trans (hF1791.1 231 15 mf_X11_isSign_231_231_15))))).trans hv2948))
                have x2950 := HI.eqI hI2930 (p := 231) (b := 20) ((gI_sI_eq hI2916.1 kx_231 rfl _))
                obtain ⟨v2952, hv2952⟩ : ∃ v, gI g0 231 24 = v := ⟨_, rfl⟩
                have tv2952 := congrArg Int32.toInt hv2952
                have x2953 := HI.eqI hI2930 (p := 231) (b := 24) ((((gI_sI_ne (by decide)).trans ((hF2917.1 231 24 mf_X11_emit_231_231_24).trans ((hF2838.1 231 24 mf_X11_must_231_231_24).trans ((hF1804.1 231 24 mf_X11_partAt_231_231_24).trans (hF1791.1 231 24 mf_X11_isSign_231_231_24))))).trans hv2952))
                have x2958 := HI.eqI hI0 (p := 231) (b := 20) (hv2688)
                have lp := pa1810
                unfold PAI at lp
                have ld := CDM.dig hK
                have y2961 : pI g0 11 = (gI g0 231 11).toInt := rfl
                have y2962 : wth g0 = (gJ g0 231 12).toInt := rfl
                have x2964 := HI.eqJ hI0 (b := 12) (hv5)
                have y2969 : (gI g2836 231 13).toInt = (gI g0 231 13).toInt := (mu2870.2.1 (show (gI g0 231 14).toInt = 0 from by omega) (by omega)).2.1
                have dg2970 := fun a b => CDM_dg hK a b
                have l2e : 0 ≤ v5.toInt → v5.toInt ≤ 1000 → v2687.toInt = v5.toInt := fun a b => l2i_e hv2687 (by omega) (by omega)
                exact ⟨_, rfl, hI2930, hF2931, _, rfl, by decide, ⟨by omega, by omega, by omega, by omega, w262944, by omega, by omega, (fun hbad => ⟨by omega, (PT.mk (fun h => by first | exact absurd h (by decide) | (exfalso; omega)) (fun _ => pg2943) (fun h h9 => by first | exact absurd h (by decide) | (exfalso; omega)) (fun h => by first | exact absurd h (by decide) | (exfalso; omega)))⟩), (fun hbad => by omega), (TKM.c hK2871 (((gA_sI).trans (hF2917.2.1 236 ma_X11_emit_231_236))) (((gI_sI_ne (by decide)).trans (hF2917.1 231 8 mf_X11_emit_231_231_8))) (((gI_sI_ne (by decide)).trans (hF2917.1 231 9 mf_X11_emit_231_231_9))) (((gI_sI_ne (by decide)).trans (hF2917.1 231 10 mf_X11_emit_231_231_10))) (((gI_sI_ne (by decide)).trans (hF2917.1 231 11 mf_X11_emit_231_231_11))) (((gJ_sI_ne (by decide)).trans (hF2917.2.2 231 12 mf_X11_emit_231_231_12)))), (fun c0 b hC h => M.leaf h (by rw [pI.c (((gI_sI_ne (by decide)).trans (hF2917.1 231 9 mf_X11_emit_231_231_9)))]; exact (MUSTP.tok hK mu2870 (by omega) (by omega))) (by omega) (show (gI g0 231 20).toInt < 50 from by omega) (((gA_sI).trans ((hF2917.2.1 240 ma_X11_emit_231_240).trans ((hF2838.2.1 240 ma_X11_must_231_240).trans ((hF1804.2.1 240 ma_X11_partAt_231_240).trans (hF1791.2.1 240 ma_X11_isSign_231_240)))))) (show (gI _ 231 23).toInt = (gI g0 231 23).toInt from (by first | exact x2940.trans tv8.symm | omega)) (show (gI _ 231 24).toInt = (gI g0 231 24).toInt from (by first | exact x2953.trans tv2952.symm | omega)) (show (gI _ 231 20).toInt = (gI g0 231 20).toInt + 1 from by omega) (show (gI _ 231 15).toInt = (gI g0 231 15).toInt from (by first | exact x2949.trans tv2948.symm | omega)) (fun _ => ⟨show (gI _ 231 14).toInt = 0 from by omega, show (gI _ 231 13).toInt = (gI g0 231 13).toInt from by omega⟩) (fun z => absurd (show (gI g0 231 14).toInt = 0 from (by first | exact h2 | omega)) z)), (fun h14 c0 b K hC h => MG_leaf h (by rw [pI.c (((gI_sI_ne (by decide)).trans (hF2917.1 231 9 mf_X11_emit_231_231_9)))]; exact (MUSTP.tok hK mu2870 (by omega) (by omega))) (by first | omega | (have d1 := dg2970 (by show (gI g0 231 11).toInt = 2; omega) (by show (gJ g0 231 12).toInt ≤ 1000; omega); omega)) (((gA_sI).trans ((hF2917.2.1 240 ma_X11_emit_231_240).trans ((hF2838.2.1 240 ma_X11_must_231_240).trans ((hF1804.2.1 240 ma_X11_partAt_231_240).trans (hF1791.2.1 240 ma_X11_isSign_231_240)))))) (((gA_sI).trans ((hF2917.2.1 241 ma_X11_emit_231_241).trans ((hF2838.2.1 241 ma_X11_must_231_241).trans ((hF1804.2.1 241 ma_X11_partAt_231_241).trans (hF1791.2.1 241 ma_X11_isSign_231_241)))))) (pI.c (((gI_sI_ne (by decide)).trans ((hF2917.1 231 23 mf_X11_emit_231_231_23).trans ((hF2838.1 231 23 mf_X11_must_231_231_23).trans ((hF1804.1 231 23 mf_X11_partAt_231_231_23).trans (hF1791.1 231 23 mf_X11_isSign_231_231_23))))))) (EMG_fr hr2919.2 (SMG_mk (((hF2838.2.1 238 ma_X11_must_231_238).trans ((hF1804.2.1 238 ma_X11_partAt_231_238).trans (hF1791.2.1 238 ma_X11_isSign_231_238)))) (((hF2838.2.1 239 ma_X11_must_231_239).trans ((hF1804.2.1 239 ma_X11_partAt_231_239).trans (hF1791.2.1 239 ma_X11_isSign_231_239)))) (((hF2838.1 231 17 mf_X11_must_231_231_17).trans ((hF1804.1 231 17 mf_X11_partAt_231_231_17).trans (hF1791.1 231 17 mf_X11_isSign_231_231_17))))) (SMG_mk ((gA_sI)) ((gA_sI)) ((gI_sI_ne (by decide))))))⟩⟩
          · have c2686_ : v1805.toInt = (-1) := en_i_ne_f c2686
            exfalso; omega
        · have c2685_ : v1805.toInt = (-1) := en_i_ne_f c2685
          refine At.enter rfl ?_
          refine r_iload_n rfl ?_
          refine r_iff 57 rfl (by decide) ?_
          refine At.enter rfl ?_
          refine r_iconst 1 rfl ?_
          refine r_goto ?_
          refine At.enter rfl ?_
          refine r_iload_n rfl ?_
          refine r_iconst (-1) rfl ?_
          refine r_ics 67 rfl (fun c2971 => ?_) (fun c2971 => ?_)
          · have c2971_ : v1805.toInt ≠ (-1) := en_i_ne_t c2971
            exfalso; omega
          · have c2971_ : v1805.toInt = (-1) := en_i_ne_f c2971
            refine At.enter rfl ?_
            refine r_iconst 0 rfl ?_
            refine r_goto ?_
            refine At.enter rfl ?_
            refine r_iload_n rfl ?_
            refine r_iff 76 rfl (by decide) ?_
            refine At.enter rfl ?_
            refine r_aload_n rfl ?_
            refine q_getJv (Sh.long hI1803.1 kx_231 rfl) v5 (((hF1804.2.2 231 12 mf_X11_partAt_231_231_12).trans (hF1791.2.2 231 12 mf_X11_isSign_231_231_12)).trans hv5) ?_
            refine q_l2iO (fun v2972 hv2972 => ?_)
            refine r_goto ?_
            refine At.enter rfl ?_
            refine q_inlV 88 rfl [.ref 231, .int 1, .int 0, .int v2972] [] (Nat.le_of_ble_eq_true rfl) rfl ?_
            refine Ev.mk rfl rfl ⟨Nat.le_of_ble_eq_true rfl, Or.inr (q_rc hI1803.1 kx_231 rfl)⟩ ?_
            show At _ none _ _ (0, [(0, .ref 231), (1, .int 1), (2, .int 0), (3, .int v2972)], [], (_, _)) _
            refine At.enter rfl ?_
            refine r_aload_n rfl ?_
            refine r_iload_n rfl ?_
            refine r_iff 5 rfl (by decide) ?_
            refine At.enter rfl ?_
            refine r_aload_n rfl ?_
            obtain ⟨v2973, hv2973⟩ : ∃ v, gI g0 231 20 = v := ⟨_, rfl⟩
            refine q_getI (Sh.int hI1803.1 kx_231 rfl) v2973 (((hF1804.1 231 20 mf_X11_partAt_231_231_20).trans (hF1791.1 231 20 mf_X11_isSign_231_231_20)).trans hv2973) ?_
            refine r_bipush 50 rfl ?_
            refine r_ics 14 rfl (fun c2974 => ?_) (fun c2974 => ?_)
            · have c2974_ : v2973.toInt ≥ 50 := en_i_ge_t c2974
              refine At.enter rfl ?_
              refine r_iconst 0 rfl ?_
              refine Ar.fall 19 rfl ?_
              refine At.enter rfl ?_
              have x2975 := HI.eqI hI1803 (p := 231) (b := 8) ((((hF1804.1 231 8 mf_X11_partAt_231_231_8).trans (hF1791.1 231 8 mf_X11_isSign_231_231_8)).trans hv1))
              have x2976 := HI.eqI hI1803 (p := 231) (b := 9) ((((hF1804.1 231 9 mf_X11_partAt_231_231_9).trans (hF1791.1 231 9 mf_X11_isSign_231_231_9)).trans hv2))
              have x2977 := HI.eqI hI1803 (p := 231) (b := 10) ((((hF1804.1 231 10 mf_X11_partAt_231_231_10).trans (hF1791.1 231 10 mf_X11_isSign_231_231_10)).trans hv3))
              have w262979 := W26.cong hW hI1803 (((hF1804.1 231 9 mf_X11_partAt_231_231_9).trans (hF1791.1 231 9 mf_X11_isSign_231_231_9))) (((hF1804.1 231 10 mf_X11_partAt_231_231_10).trans (hF1791.1 231 10 mf_X11_isSign_231_231_10))) (((hF1804.1 231 11 mf_X11_partAt_231_231_11).trans (hF1791.1 231 11 mf_X11_isSign_231_231_11))) (((hF1804.2.2 231 12 mf_X11_partAt_231_231_12).trans (hF1791.2.2 231 12 mf_X11_isSign_231_231_12)))
              have zv2980 : (0 : Int32).toInt = 0 := rfl
              refine r_callV 22 rfl [.ref 231, .int 0] [] (Nat.le_of_ble_eq_true rfl) rfl (T_X11_must_231 _ hI1803 0 (by decide) (by refine ⟨?_, ?_, ?_, ?_⟩ <;> omega) w262979 (TKM.c hK (((hF1804.2.1 236 ma_X11_partAt_231_236).trans (hF1791.2.1 236 ma_X11_isSign_231_236))) (((hF1804.1 231 8 mf_X11_partAt_231_231_8).trans (hF1791.1 231 8 mf_X11_isSign_231_231_8))) (((hF1804.1 231 9 mf_X11_partAt_231_231_9).trans (hF1791.1 231 9 mf_X11_isSign_231_231_9))) (((hF1804.1 231 10 mf_X11_partAt_231_231_10).trans (hF1791.1 231 10 mf_X11_isSign_231_231_10))) (((hF1804.1 231 11 mf_X11_partAt_231_231_11).trans (hF1791.1 231 11 mf_X11_isSign_231_231_11))) (((hF1804.2.2 231 12 mf_X11_partAt_231_231_12).trans (hF1791.2.2 231 12 mf_X11_isSign_231_231_12))))) ?_
              rintro _ _ ⟨g2981, rfl, hI2982, hF2983, rfl, hr2985⟩
              refine At.stn ?_
              have hF2986 := Fr.tr hF1807 hF2983 rfl rfl
              have x2992 := HI.eqI hI1803 (p := 231) (b := 14) ((((hF1804.1 231 14 mf_X11_partAt_231_231_14).trans (hF1791.1 231 14 mf_X11_isSign_231_231_14)).trans hv6))
              have x2993 := HI.eqI hI2982 (p := 231) (b := 8) ((((hF2983.1 231 8 mf_X11_must_231_231_8).trans ((hF1804.1 231 8 mf_X11_partAt_231_231_8).trans (hF1791.1 231 8 mf_X11_isSign_231_231_8))).trans hv1))
              obtain ⟨v2994, hv2994⟩ : ∃ v, gI g2981 231 9 = v := ⟨_, rfl⟩
              have rv2994 := RgF.at hI2982.2.1 (p := 231) (b := 9) rfl
              rw [hv2994] at rv2994
              dsimp only at rv2994
              have tv2994 := congrArg Int32.toInt hv2994
              obtain ⟨v2996, hv2996⟩ : ∃ v, gI g2981 231 10 = v := ⟨_, rfl⟩
              have rv2996 := RgF.at hI2982.2.1 (p := 231) (b := 10) rfl
              rw [hv2996] at rv2996
              dsimp only at rv2996
              have tv2996 := congrArg Int32.toInt hv2996
              obtain ⟨v2998, hv2998⟩ : ∃ v, gI g2981 231 11 = v := ⟨_, rfl⟩
              have tv2998 := congrArg Int32.toInt hv2998
              obtain ⟨v3000, hv3000⟩ : ∃ v, gI g2981 231 14 = v := ⟨_, rfl⟩
              have tv3000 := congrArg Int32.toInt hv3000
              obtain ⟨c3002, c3003, c3004, c3005, c3006, c3007, c3008, c3009⟩ := hr2985
              obtain ⟨v3010, hv3010⟩ : ∃ v, gI g0 231 13 = v := ⟨_, rfl⟩
              have tv3010 := congrArg Int32.toInt hv3010
              have x3011 := HI.eqI hI1803 (p := 231) (b := 13) ((((hF1804.1 231 13 mf_X11_partAt_231_231_13).trans (hF1791.1 231 13 mf_X11_isSign_231_231_13)).trans hv3010))
              obtain ⟨v3013, hv3013⟩ : ∃ v, gI g2981 231 13 = v := ⟨_, rfl⟩
              have tv3013 := congrArg Int32.toInt hv3013
              unfold MUSTP at c3009
              rw [TM.c (((hF1804.2.1 236 ma_X11_partAt_231_236).trans (hF1791.2.1 236 ma_X11_isSign_231_236))), nM.c (((hF1804.1 231 8 mf_X11_partAt_231_231_8).trans (hF1791.1 231 8 mf_X11_isSign_231_231_8))), pI.c (b := 14) (((hF1804.1 231 14 mf_X11_partAt_231_231_14).trans (hF1791.1 231 14 mf_X11_isSign_231_231_14))), pI.c (b := 13) (((hF1804.1 231 13 mf_X11_partAt_231_231_13).trans (hF1791.1 231 13 mf_X11_isSign_231_231_13))), pI.c (b := 10) (((hF1804.1 231 10 mf_X11_partAt_231_231_10).trans (hF1791.1 231 10 mf_X11_isSign_231_231_10))), pI.c (b := 9) (((hF1804.1 231 9 mf_X11_partAt_231_231_9).trans (hF1791.1 231 9 mf_X11_isSign_231_231_9)))] at c3009
              have mu3015 : MUSTP g0 g2981 0 := c3009
              clear c3009
              have hK3016 := mu3015.1
              refine At.enter rfl ?_
              refine r_aload_n rfl ?_
              refine q_getI (Sh.int hI2982.1 kx_231 rfl) v3000 hv3000 ?_
              refine r_ifs 29 rfl (fun c3017 => ?_) (fun c3017 => ?_)
              · have c3017_ : v3000.toInt ≠ 0 := en_k_ne_t c3017
                clear c3008
                obtain ⟨i3018, i3019⟩ := MUSTP.y mu3015 (by omega) (by omega)
                refine At.enter rfl ?_
                refine q_vret ?_
                refine At.enter rfl ?_
                refine r_iconst 3 rfl ?_
                refine r_ireti ?_
                obtain ⟨v3024, hv3024⟩ : ∃ v, gJ g2981 231 12 = v := ⟨_, rfl⟩
                have x3025 := HI.eqJ hI2982 (b := 12) (hv3024)
                have x3027 := HI.eqI hI2982 (p := 231) (b := 17) ((((hF2983.1 231 17 mf_X11_must_231_231_17).trans ((hF1804.1 231 17 mf_X11_partAt_231_231_17).trans (hF1791.1 231 17 mf_X11_isSign_231_231_17))).trans hv7))
                have x3028 := HI.eqI hI2982 (p := 231) (b := 23) ((((hF2983.1 231 23 mf_X11_must_231_231_23).trans ((hF1804.1 231 23 mf_X11_partAt_231_231_23).trans (hF1791.1 231 23 mf_X11_isSign_231_231_23))).trans hv8))
                have zv3030 : (3 : Int32).toInt = 3 := rfl
                obtain ⟨v3034, hv3034⟩ : ∃ v, gI g0 231 15 = v := ⟨_, rfl⟩
                have rv3034 := RgF.at hI0.2.1 (p := 231) (b := 15) rfl
                rw [hv3034] at rv3034
                dsimp only at rv3034
                have tv3034 := congrArg Int32.toInt hv3034
                have x3035 := HI.eqI hI2982 (p := 231) (b := 15) ((((hF2983.1 231 15 mf_X11_must_231_231_15).trans ((hF1804.1 231 15 mf_X11_partAt_231_231_15).trans (hF1791.1 231 15 mf_X11_isSign_231_231_15))).trans hv3034))
                have x3036 := HI.eqI hI2982 (p := 231) (b := 20) ((((hF2983.1 231 20 mf_X11_must_231_231_20).trans ((hF1804.1 231 20 mf_X11_partAt_231_231_20).trans (hF1791.1 231 20 mf_X11_isSign_231_231_20))).trans hv2973))
                obtain ⟨v3038, hv3038⟩ : ∃ v, gI g0 231 24 = v := ⟨_, rfl⟩
                have tv3038 := congrArg Int32.toInt hv3038
                have x3039 := HI.eqI hI2982 (p := 231) (b := 24) ((((hF2983.1 231 24 mf_X11_must_231_231_24).trans ((hF1804.1 231 24 mf_X11_partAt_231_231_24).trans (hF1791.1 231 24 mf_X11_isSign_231_231_24))).trans hv3038))
                have x3044 := HI.eqI hI0 (p := 231) (b := 20) (hv2973)
                have lp := pa1810
                unfold PAI at lp
                have ld := CDM.dig hK
                have y3047 : pI g0 11 = (gI g0 231 11).toInt := rfl
                have y3048 : wth g0 = (gJ g0 231 12).toInt := rfl
                have x3050 := HI.eqJ hI0 (b := 12) (hv5)
                have mf3051 := mu3015.2.2.1 (show (gI g0 231 14).toInt = 0 from by omega) (by omega)
                have y3052 : (gI _ 231 14).toInt ≠ 0 := mf3051.1
                have y3053 : (gI _ 231 13).toInt = (gI g0 231 9).toInt := mf3051.2
                exact ⟨_, rfl, hI2982, hF2986, _, rfl, by decide, ⟨by omega, by omega, by omega, by omega, c3007, by omega, by omega, (fun hbad => ⟨by omega, (PT.mk (fun h => by first | exact absurd h (by decide) | (exfalso; omega)) (fun h => by first | exact absurd h (by decide) | (exfalso; omega)) (fun h h9 => by first | exact absurd h (by decide) | (exfalso; omega)) (fun h => by first | exact absurd h (by decide) | (exfalso; omega)))⟩), (fun hbad => by omega), hK3016, (fun c0 b hC h => M.leafF h (TKM.some hK).choose_spec (by omega) (fun z => by have z1 := z.1; have z2 : (gI g0 231 20).toInt < 50 := z.2; omega) (fun _ => ⟨show (gI _ 231 14).toInt ≠ 0 from by omega, show (gI _ 231 13).toInt = (gI g0 231 9).toInt from by omega⟩) (fun z => absurd (show (gI g0 231 14).toInt = 0 from (by first | exact h2 | omega)) z) _), (fun h14 c0 b K hC h => absurd (show (gI _ 231 14).toInt = 0 from h14) (by omega))⟩⟩
              · have c3017_ : v3000.toInt = 0 := en_k_ne_f c3017
                obtain ⟨i3054, i3055, i3056⟩ := c3008 (by omega)
                obtain ⟨i3057, i3058⟩ := MUSTP.z mu3015 (by omega) (by omega)
                refine At.enter rfl ?_
                refine r_aload_n rfl ?_
                refine r_iload_n rfl ?_
                refine r_iload_n rfl ?_
                have x3059 := HI.eqI hI2982 (p := 231) (b := 17) ((((hF2983.1 231 17 mf_X11_must_231_231_17).trans ((hF1804.1 231 17 mf_X11_partAt_231_231_17).trans (hF1791.1 231 17 mf_X11_isSign_231_231_17))).trans hv7))
                refine r_callV 35 rfl [.ref 231, .int 0, .int v2972] [] (Nat.le_of_ble_eq_true rfl) rfl (T_X11_emit_231 _ hI2982 0 v2972 (by omega)) ?_
                rintro _ _ ⟨g3061, rfl, hI3062, hF3063, rfl, hr3065⟩
                refine At.stn ?_
                have hF3066 := Fr.tr hF2986 hF3063 rfl rfl
                have x3069 := HI.eqI hI2982 (p := 231) (b := 23) ((((hF2983.1 231 23 mf_X11_must_231_231_23).trans ((hF1804.1 231 23 mf_X11_partAt_231_231_23).trans (hF1791.1 231 23 mf_X11_isSign_231_231_23))).trans hv8))
                obtain ⟨v3070, hv3070⟩ : ∃ v, gI g3061 231 17 = v := ⟨_, rfl⟩
                have rv3070 := RgF.at hI3062.2.1 (p := 231) (b := 17) rfl
                rw [hv3070] at rv3070
                dsimp only at rv3070
                have tv3070 := congrArg Int32.toInt hv3070
                have y3072 : (gI _ 231 17).toInt = (gI _ 231 17).toInt + 1 := hr3065.1.1
                have pg3074 := PG.cong (hP.1 (by decide)) hI2982 (((hF2983.2.1 238 ma_X11_must_231_238).trans ((hF1804.2.1 238 ma_X11_partAt_231_238).trans (hF1791.2.1 238 ma_X11_isSign_231_238)))) (((hF2983.2.1 239 ma_X11_must_231_239).trans ((hF1804.2.1 239 ma_X11_partAt_231_239).trans (hF1791.2.1 239 ma_X11_isSign_231_239)))) (((hF2983.2.1 240 ma_X11_must_231_240).trans ((hF1804.2.1 240 ma_X11_partAt_231_240).trans (hF1791.2.1 240 ma_X11_isSign_231_240)))) (((hF2983.2.1 241 ma_X11_must_231_241).trans ((hF1804.2.1 241 ma_X11_partAt_231_241).trans (hF1791.2.1 241 ma_X11_isSign_231_241)))) (((hF2983.1 231 17 mf_X11_must_231_231_17).trans ((hF1804.1 231 17 mf_X11_partAt_231_231_17).trans (hF1791.1 231 17 mf_X11_isSign_231_231_17)))) (((hF2983.1 231 23 mf_X11_must_231_231_23).trans ((hF1804.1 231 23 mf_X11_partAt_231_231_23).trans (hF1791.1 231 23 mf_X11_isSign_231_231_23))))
                have pg3073 := PG.emit (e' := 1) pg3074 hr3065.1 (hF3063.2.1 240 ma_X11_emit_231_240) (hF3063.2.1 241 ma_X11_emit_231_241) (hF3063.1 231 23 mf_X11_emit_231_231_23) (Or.inl ⟨by omega, by omega, by decide, by decide⟩)
                refine At.enter rfl ?_
                refine r_aload_n rfl ?_
                refine r_dup rfl ?_
                refine q_getI (Sh.int hI3062.1 kx_231 rfl) v2973 (((hF3063.1 231 20 mf_X11_emit_231_231_20).trans ((hF2983.1 231 20 mf_X11_must_231_231_20).trans ((hF1804.1 231 20 mf_X11_partAt_231_231_20).trans (hF1791.1 231 20 mf_X11_isSign_231_231_20)))).trans hv2973) ?_
                refine r_iconst 1 rfl ?_
                refine q_iaddO (fun v3075 _ => ?_)
                refine q_putI (Sh.int hI3062.1 kx_231 rfl) rfl ?_
                have hI3076 := HI.wI0 hI3062 kx_231 rfl (p := 231) (b := 20) (v := v3075) rfl
                have hF3077 := Fr.wI (p := 231) (b := 20) (v := v3075) hF3066 rfl
                refine Ar.fall 45 rfl ?_
                refine At.enter rfl ?_
                refine q_vret ?_
                refine At.enter rfl ?_
                refine r_iconst 3 rfl ?_
                refine r_ireti ?_
                have x3078 := HI.eqI hI3076 (p := 231) (b := 8) ((((gI_sI_ne (by decide)).trans ((hF3063.1 231 8 mf_X11_emit_231_231_8).trans ((hF2983.1 231 8 mf_X11_must_231_231_8).trans ((hF1804.1 231 8 mf_X11_partAt_231_231_8).trans (hF1791.1 231 8 mf_X11_isSign_231_231_8))))).trans hv1))
                have x3079 := HI.eqI hI3076 (p := 231) (b := 9) ((((gI_sI_ne (by decide)).trans (hF3063.1 231 9 mf_X11_emit_231_231_9)).trans hv2994))
                have x3080 := HI.eqI hI3076 (p := 231) (b := 10) ((((gI_sI_ne (by decide)).trans (hF3063.1 231 10 mf_X11_emit_231_231_10)).trans hv2996))
                have x3081 := HI.eqI hI3076 (p := 231) (b := 11) ((((gI_sI_ne (by decide)).trans (hF3063.1 231 11 mf_X11_emit_231_231_11)).trans hv2998))
                obtain ⟨v3082, hv3082⟩ : ∃ v, gJ g2981 231 12 = v := ⟨_, rfl⟩
                have x3083 := HI.eqJ hI3076 (b := 12) ((((gJ_sI_ne (by decide)).trans (hF3063.2.2 231 12 mf_X11_emit_231_231_12)).trans hv3082))
                have x3084 := HI.eqI hI3076 (p := 231) (b := 14) ((((gI_sI_ne (by decide)).trans (hF3063.1 231 14 mf_X11_emit_231_231_14)).trans hv3000))
                have x3085 := HI.eqI hI3076 (p := 231) (b := 17) (((gI_sI_ne (by decide)).trans hv3070))
                have x3086 := HI.eqI hI3076 (p := 231) (b := 23) ((((gI_sI_ne (by decide)).trans ((hF3063.1 231 23 mf_X11_emit_231_231_23).trans ((hF2983.1 231 23 mf_X11_must_231_231_23).trans ((hF1804.1 231 23 mf_X11_partAt_231_231_23).trans (hF1791.1 231 23 mf_X11_isSign_231_231_23))))).trans hv8))
                have zv3088 : (3 : Int32).toInt = 3 := rfl
                have pg3089 := PG.cong pg3073 hI3076 ((gA_sI)) ((gA_sI)) ((gA_sI)) ((gA_sI)) ((gI_sI_ne (by decide))) ((gI_sI_ne (by decide)))
                have w263090 := W26.cong c3007 hI3076 (((gI_sI_ne (by decide)).trans (hF3063.1 231 9 mf_X11_emit_231_231_9))) (((gI_sI_ne (by decide)).trans (hF3063.1 231 10 mf_X11_emit_231_231_10))) (((gI_sI_ne (by decide)).trans (hF3063.1 231 11 mf_X11_emit_231_231_11))) (((gJ_sI_ne (by decide)).trans (hF3063.2.2 231 12 mf_X11_emit_231_231_12)))
                have x3092 := HI.eqI hI3076 (p := 231) (b := 13) ((((gI_sI_ne (by decide)).trans (hF3063.1 231 13 mf_X11_emit_231_231_13)).trans hv3013))
                obtain ⟨v3094, hv3094⟩ : ∃ v, gI g0 231 15 = v := ⟨_, rfl⟩
                have rv3094 := RgF.at hI0.2.1 (p := 231) (b := 15) rfl
                rw [hv3094] at rv3094
                dsimp only at rv3094
                have tv3094 := congrArg Int32.toInt hv3094
                have x3095 := HI.eqI hI3076 (p := 231) (b := 15) ((((gI_sI_ne (by decide)).trans ((hF3063.1 231 15 mf_X11_emit_231_231_15).trans ((hF2983.1 231 15 mf_X11_must_231_231_15).trans ((hF1804.1 231 15 mf_X11_partAt_231_231_15).trans (hF1791.1 231 15 mf_X11_isSign_231_231_15))))).trans hv3094))
                have x3096 := HI.eqI hI3076 (p := 231) (b := 20) ((gI_sI_eq hI3062.1 kx_231 rfl _))
                obtain ⟨v3098, hv3098⟩ : ∃ v, gI g0 231 24 = v := ⟨_, rfl⟩
                have tv3098 := congrArg Int32.toInt hv3098
                have x3099 := HI.eqI hI3076 (p := 231) (b := 24) ((((gI_sI_ne (by decide)).trans ((hF3063.1 231 24 mf_X11_emit_231_231_24).trans ((hF2983.1 231 24 mf_X11_must_231_231_24).trans ((hF1804.1 231 24 mf_X11_partAt_231_231_24).trans (hF1791.1 231 24 mf_X11_isSign_231_231_24))))).trans hv3098))
                have x3104 := HI.eqI hI0 (p := 231) (b := 20) (hv2973)
                have lp := pa1810
                unfold PAI at lp
                have ld := CDM.dig hK
                have y3107 : pI g0 11 = (gI g0 231 11).toInt := rfl
                have y3108 : wth g0 = (gJ g0 231 12).toInt := rfl
                have x3110 := HI.eqJ hI0 (b := 12) (hv5)
                have y3115 : (gI g2981 231 13).toInt = (gI g0 231 13).toInt := (mu3015.2.1 (show (gI g0 231 14).toInt = 0 from by omega) (by omega)).2.1
                have dg3116 := fun a b => CDM_dg hK a b
                have l2e : 0 ≤ v5.toInt → v5.toInt ≤ 1000 → v2972.toInt = v5.toInt := fun a b => l2i_e hv2972 (by omega) (by omega)
                exact ⟨_, rfl, hI3076, hF3077, _, rfl, by decide, ⟨by omega, by omega, by omega, by omega, w263090, by omega, by omega, (fun hbad => ⟨by omega, (PT.mk (fun h => by first | exact absurd h (by decide) | (exfalso; omega)) (fun _ => pg3089) (fun h h9 => by first | exact absurd h (by decide) | (exfalso; omega)) (fun h => by first | exact absurd h (by decide) | (exfalso; omega)))⟩), (fun hbad => by omega), (TKM.c hK3016 (((gA_sI).trans (hF3063.2.1 236 ma_X11_emit_231_236))) (((gI_sI_ne (by decide)).trans (hF3063.1 231 8 mf_X11_emit_231_231_8))) (((gI_sI_ne (by decide)).trans (hF3063.1 231 9 mf_X11_emit_231_231_9))) (((gI_sI_ne (by decide)).trans (hF3063.1 231 10 mf_X11_emit_231_231_10))) (((gI_sI_ne (by decide)).trans (hF3063.1 231 11 mf_X11_emit_231_231_11))) (((gJ_sI_ne (by decide)).trans (hF3063.2.2 231 12 mf_X11_emit_231_231_12)))), (fun c0 b hC h => M.leaf h (by rw [pI.c (((gI_sI_ne (by decide)).trans (hF3063.1 231 9 mf_X11_emit_231_231_9)))]; exact (MUSTP.tok hK mu3015 (by omega) (by omega))) (by omega) (show (gI g0 231 20).toInt < 50 from by omega) (((gA_sI).trans ((hF3063.2.1 240 ma_X11_emit_231_240).trans ((hF2983.2.1 240 ma_X11_must_231_240).trans ((hF1804.2.1 240 ma_X11_partAt_231_240).trans (hF1791.2.1 240 ma_X11_isSign_231_240)))))) (show (gI _ 231 23).toInt = (gI g0 231 23).toInt from (by first | exact x3086.trans tv8.symm | omega)) (show (gI _ 231 24).toInt = (gI g0 231 24).toInt from (by first | exact x3099.trans tv3098.symm | omega)) (show (gI _ 231 20).toInt = (gI g0 231 20).toInt + 1 from by omega) (show (gI _ 231 15).toInt = (gI g0 231 15).toInt from (by first | exact x3095.trans tv3094.symm | omega)) (fun _ => ⟨show (gI _ 231 14).toInt = 0 from by omega, show (gI _ 231 13).toInt = (gI g0 231 13).toInt from by omega⟩) (fun z => absurd (show (gI g0 231 14).toInt = 0 from (by first | exact h2 | omega)) z)), (fun h14 c0 b K hC h => MG_leaf h (by rw [pI.c (((gI_sI_ne (by decide)).trans (hF3063.1 231 9 mf_X11_emit_231_231_9)))]; exact (MUSTP.tok hK mu3015 (by omega) (by omega))) (by first | omega | (have d1 := dg3116 (by show (gI g0 231 11).toInt = 2; omega) (by show (gJ g0 231 12).toInt ≤ 1000; omega); omega)) (((gA_sI).trans ((hF3063.2.1 240 ma_X11_emit_231_240).trans ((hF2983.2.1 240 ma_X11_must_231_240).trans ((hF1804.2.1 240 ma_X11_partAt_231_240).trans (hF1791.2.1 240 ma_X11_isSign_231_240)))))) (((gA_sI).trans ((hF3063.2.1 241 ma_X11_emit_231_241).trans ((hF2983.2.1 241 ma_X11_must_231_241).trans ((hF1804.2.1 241 ma_X11_partAt_231_241).trans (hF1791.2.1 241 ma_X11_isSign_231_241)))))) (pI.c (((gI_sI_ne (by decide)).trans ((hF3063.1 231 23 mf_X11_emit_231_231_23).trans ((hF2983.1 231 23 mf_X11_must_231_231_23).trans ((hF1804.1 231 23 mf_X11_partAt_231_231_23).trans (hF1791.1 231 23 mf_X11_isSign_231_231_23))))))) (EMG_fr hr3065.2 (SMG_mk (((hF2983.2.1 238 ma_X11_must_231_238).trans ((hF1804.2.1 238 ma_X11_partAt_231_238).trans (hF1791.2.1 238 ma_X11_isSign_231_238)))) (((hF2983.2.1 239 ma_X11_must_231_239).trans ((hF1804.2.1 239 ma_X11_partAt_231_239).trans (hF1791.2.1 239 ma_X11_isSign_231_239)))) (((hF2983.1 231 17 mf_X11_must_231_231_17).trans ((hF1804.1 231 17 mf_X11_partAt_231_231_17).trans (hF1791.1 231 17 mf_X11_isSign_231_231_17))))) (SMG_mk ((gA_sI)) ((gA_sI)) ((gI_sI_ne (by decide))))))⟩⟩
            · have c2974_ : v2973.toInt < 50 := en_i_ge_f c2974
              refine At.enter rfl ?_
              refine r_iconst 1 rfl ?_
              refine r_goto ?_
              refine At.enter rfl ?_
              have x3117 := HI.eqI hI1803 (p := 231) (b := 8) ((((hF1804.1 231 8 mf_X11_partAt_231_231_8).trans (hF1791.1 231 8 mf_X11_isSign_231_231_8)).trans hv1))
              have x3118 := HI.eqI hI1803 (p := 231) (b := 9) ((((hF1804.1 231 9 mf_X11_partAt_231_231_9).trans (hF1791.1 231 9 mf_X11_isSign_231_231_9)).trans hv2))
              have x3119 := HI.eqI hI1803 (p := 231) (b := 10) ((((hF1804.1 231 10 mf_X11_partAt_231_231_10).trans (hF1791.1 231 10 mf_X11_isSign_231_231_10)).trans hv3))
              have w263121 := W26.cong hW hI1803 (((hF1804.1 231 9 mf_X11_partAt_231_231_9).trans (hF1791.1 231 9 mf_X11_isSign_231_231_9))) (((hF1804.1 231 10 mf_X11_partAt_231_231_10).trans (hF1791.1 231 10 mf_X11_isSign_231_231_10))) (((hF1804.1 231 11 mf_X11_partAt_231_231_11).trans (hF1791.1 231 11 mf_X11_isSign_231_231_11))) (((hF1804.2.2 231 12 mf_X11_partAt_231_231_12).trans (hF1791.2.2 231 12 mf_X11_isSign_231_231_12)))
              have zv3122 : (1 : Int32).toInt = 1 := rfl
              refine r_callV 22 rfl [.ref 231, .int 1] [] (Nat.le_of_ble_eq_true rfl) rfl (T_X11_must_231 _ hI1803 1 (by decide) (by refine ⟨?_, ?_, ?_, ?_⟩ <;> omega) w263121 (TKM.c hK (((hF1804.2.1 236 ma_X11_partAt_231_236).trans (hF1791.2.1 236 ma_X11_isSign_231_236))) (((hF1804.1 231 8 mf_X11_partAt_231_231_8).trans (hF1791.1 231 8 mf_X11_isSign_231_231_8))) (((hF1804.1 231 9 mf_X11_partAt_231_231_9).trans (hF1791.1 231 9 mf_X11_isSign_231_231_9))) (((hF1804.1 231 10 mf_X11_partAt_231_231_10).trans (hF1791.1 231 10 mf_X11_isSign_231_231_10))) (((hF1804.1 231 11 mf_X11_partAt_231_231_11).trans (hF1791.1 231 11 mf_X11_isSign_231_231_11))) (((hF1804.2.2 231 12 mf_X11_partAt_231_231_12).trans (hF1791.2.2 231 12 mf_X11_isSign_231_231_12))))) ?_
              rintro _ _ ⟨g3123, rfl, hI3124, hF3125, rfl, hr3127⟩
              refine At.stn ?_
              have hF3128 := Fr.tr hF1807 hF3125 rfl rfl
              have x3134 := HI.eqI hI1803 (p := 231) (b := 14) ((((hF1804.1 231 14 mf_X11_partAt_231_231_14).trans (hF1791.1 231 14 mf_X11_isSign_231_231_14)).trans hv6))
              have x3135 := HI.eqI hI3124 (p := 231) (b := 8) ((((hF3125.1 231 8 mf_X11_must_231_231_8).trans ((hF1804.1 231 8 mf_X11_partAt_231_231_8).trans (hF1791.1 231 8 mf_X11_isSign_231_231_8))).trans hv1))
              obtain ⟨v3136, hv3136⟩ : ∃ v, gI g3123 231 9 = v := ⟨_, rfl⟩
              have rv3136 := RgF.at hI3124.2.1 (p := 231) (b := 9) rfl
              rw [hv3136] at rv3136
              dsimp only at rv3136
              have tv3136 := congrArg Int32.toInt hv3136
              obtain ⟨v3138, hv3138⟩ : ∃ v, gI g3123 231 10 = v := ⟨_, rfl⟩
              have rv3138 := RgF.at hI3124.2.1 (p := 231) (b := 10) rfl
              rw [hv3138] at rv3138
              dsimp only at rv3138
              have tv3138 := congrArg Int32.toInt hv3138
              obtain ⟨v3140, hv3140⟩ : ∃ v, gI g3123 231 11 = v := ⟨_, rfl⟩
              have tv3140 := congrArg Int32.toInt hv3140
              obtain ⟨v3142, hv3142⟩ : ∃ v, gI g3123 231 14 = v := ⟨_, rfl⟩
              have tv3142 := congrArg Int32.toInt hv3142
              obtain ⟨c3144, c3145, c3146, c3147, c3148, c3149, c3150, c3151⟩ := hr3127
              obtain ⟨v3152, hv3152⟩ : ∃ v, gI g0 231 13 = v := ⟨_, rfl⟩
              have tv3152 := congrArg Int32.toInt hv3152
              have x3153 := HI.eqI hI1803 (p := 231) (b := 13) ((((hF1804.1 231 13 mf_X11_partAt_231_231_13).trans (hF1791.1 231 13 mf_X11_isSign_231_231_13)).trans hv3152))
              obtain ⟨v3155, hv3155⟩ : ∃ v, gI g3123 231 13 = v := ⟨_, rfl⟩
              have tv3155 := congrArg Int32.toInt hv3155
              unfold MUSTP at c3151
              rw [TM.c (((hF1804.2.1 236 ma_X11_partAt_231_236).trans (hF1791.2.1 236 ma_X11_isSign_231_236))), nM.c (((hF1804.1 231 8 mf_X11_partAt_231_231_8).trans (hF1791.1 231 8 mf_X11_isSign_231_231_8))), pI.c (b := 14) (((hF1804.1 231 14 mf_X11_partAt_231_231_14).trans (hF1791.1 231 14 mf_X11_isSign_231_231_14))), pI.c (b := 13) (((hF1804.1 231 13 mf_X11_partAt_231_231_13).trans (hF1791.1 231 13 mf_X11_isSign_231_231_13))), pI.c (b := 10) (((hF1804.1 231 10 mf_X11_partAt_231_231_10).trans (hF1791.1 231 10 mf_X11_isSign_231_231_10))), pI.c (b := 9) (((hF1804.1 231 9 mf_X11_partAt_231_231_9).trans (hF1791.1 231 9 mf_X11_isSign_231_231_9)))] at c3151
              have mu3157 : MUSTP g0 g3123 1 := c3151
              clear c3151
              have hK3158 := mu3157.1
              refine At.enter rfl ?_
              refine r_aload_n rfl ?_
              refine q_getI (Sh.int hI3124.1 kx_231 rfl) v3142 hv3142 ?_
              refine r_ifs 29 rfl (fun c3159 => ?_) (fun c3159 => ?_)
              · have c3159_ : v3142.toInt ≠ 0 := en_k_ne_t c3159
                clear c3150
                obtain ⟨i3160, i3161⟩ := MUSTP.y mu3157 (by omega) (by omega)
                refine At.enter rfl ?_
                refine q_vret ?_
                refine At.enter rfl ?_
                refine r_iconst 3 rfl ?_
                refine r_ireti ?_
                obtain ⟨v3166, hv3166⟩ : ∃ v, gJ g3123 231 12 = v := ⟨_, rfl⟩
                have x3167 := HI.eqJ hI3124 (b := 12) (hv3166)
                have x3169 := HI.eqI hI3124 (p := 231) (b := 17) ((((hF3125.1 231 17 mf_X11_must_231_231_17).trans ((hF1804.1 231 17 mf_X11_partAt_231_231_17).trans (hF1791.1 231 17 mf_X11_isSign_231_231_17))).trans hv7))
                have x3170 := HI.eqI hI3124 (p := 231) (b := 23) ((((hF3125.1 231 23 mf_X11_must_231_231_23).trans ((hF1804.1 231 23 mf_X11_partAt_231_231_23).trans (hF1791.1 231 23 mf_X11_isSign_231_231_23))).trans hv8))
                have zv3172 : (3 : Int32).toInt = 3 := rfl
                obtain ⟨v3176, hv3176⟩ : ∃ v, gI g0 231 15 = v := ⟨_, rfl⟩
                have rv3176 := RgF.at hI0.2.1 (p := 231) (b := 15) rfl
                rw [hv3176] at rv3176
                dsimp only at rv3176
                have tv3176 := congrArg Int32.toInt hv3176
                have x3177 := HI.eqI hI3124 (p := 231) (b := 15) ((((hF3125.1 231 15 mf_X11_must_231_231_15).trans ((hF1804.1 231 15 mf_X11_partAt_231_231_15).trans (hF1791.1 231 15 mf_X11_isSign_231_231_15))).trans hv3176))
                have x3178 := HI.eqI hI3124 (p := 231) (b := 20) ((((hF3125.1 231 20 mf_X11_must_231_231_20).trans ((hF1804.1 231 20 mf_X11_partAt_231_231_20).trans (hF1791.1 231 20 mf_X11_isSign_231_231_20))).trans hv2973))
                obtain ⟨v3180, hv3180⟩ : ∃ v, gI g0 231 24 = v := ⟨_, rfl⟩
                have tv3180 := congrArg Int32.toInt hv3180
                have x3181 := HI.eqI hI3124 (p := 231) (b := 24) ((((hF3125.1 231 24 mf_X11_must_231_231_24).trans ((hF1804.1 231 24 mf_X11_partAt_231_231_24).trans (hF1791.1 231 24 mf_X11_isSign_231_231_24))).trans hv3180))
                have x3186 := HI.eqI hI0 (p := 231) (b := 20) (hv2973)
                have lp := pa1810
                unfold PAI at lp
                have ld := CDM.dig hK
                have y3189 : pI g0 11 = (gI g0 231 11).toInt := rfl
                have y3190 : wth g0 = (gJ g0 231 12).toInt := rfl
                have x3192 := HI.eqJ hI0 (b := 12) (hv5)
                have mf3193 := mu3157.2.2.1 (show (gI g0 231 14).toInt = 0 from by omega) (by omega)
                have y3194 : (gI _ 231 14).toInt ≠ 0 := mf3193.1
                have y3195 : (gI _ 231 13).toInt = (gI g0 231 9).toInt := mf3193.2
                exact ⟨_, rfl, hI3124, hF3128, _, rfl, by decide, ⟨by omega, by omega, by omega, by omega, c3149, by omega, by omega, (fun hbad => ⟨by omega, (PT.mk (fun h => by first | exact absurd h (by decide) | (exfalso; omega)) (fun h => by first | exact absurd h (by decide) | (exfalso; omega)) (fun h h9 => by first | exact absurd h (by decide) | (exfalso; omega)) (fun h => by first | exact absurd h (by decide) | (exfalso; omega)))⟩), (fun hbad => by omega), hK3158, (fun c0 b hC h => M.leafF h (TKM.some hK).choose_spec (by omega) (fun z => by have z1 := z.1; have z2 : (gI g0 231 20).toInt < 50 := z.2; omega) (fun _ => ⟨show (gI _ 231 14).toInt ≠ 0 from by omega, show (gI _ 231 13).toInt = (gI g0 231 9).toInt from by omega⟩) (fun z => absurd (show (gI g0 231 14).toInt = 0 from (by first | exact h2 | omega)) z) _), (fun h14 c0 b K hC h => absurd (show (gI _ 231 14).toInt = 0 from h14) (by omega))⟩⟩
              · have c3159_ : v3142.toInt = 0 := en_k_ne_f c3159
                obtain ⟨i3196, i3197, i3198⟩ := c3150 (by omega)
                obtain ⟨i3199, i3200⟩ := MUSTP.z mu3157 (by omega) (by omega)
                refine At.enter rfl ?_
                refine r_aload_n rfl ?_
                refine r_iload_n rfl ?_
                refine r_iload_n rfl ?_
                have x3201 := HI.eqI hI3124 (p := 231) (b := 17) ((((hF3125.1 231 17 mf_X11_must_231_231_17).trans ((hF1804.1 231 17 mf_X11_partAt_231_231_17).trans (hF1791.1 231 17 mf_X11_isSign_231_231_17))).trans hv7))
                have zv3202 : (0 : Int32).toInt = 0 := rfl
                refine r_callV 35 rfl [.ref 231, .int 0, .int v2972] [] (Nat.le_of_ble_eq_true rfl) rfl (T_X11_emit_231 _ hI3124 0 v2972 (by omega)) ?_
                rintro _ _ ⟨g3203, rfl, hI3204, hF3205, rfl, hr3207⟩
                refine At.stn ?_
                have hF3208 := Fr.tr hF3128 hF3205 rfl rfl
                have x3211 := HI.eqI hI3124 (p := 231) (b := 23) ((((hF3125.1 231 23 mf_X11_must_231_231_23).trans ((hF1804.1 231 23 mf_X11_partAt_231_231_23).trans (hF1791.1 231 23 mf_X11_isSign_231_231_23))).trans hv8))
                obtain ⟨v3212, hv3212⟩ : ∃ v, gI g3203 231 17 = v := ⟨_, rfl⟩
                have rv3212 := RgF.at hI3204.2.1 (p := 231) (b := 17) rfl
                rw [hv3212] at rv3212
                dsimp only at rv3212
                have tv3212 := congrArg Int32.toInt hv3212
                have y3214 : (gI _ 231 17).toInt = (gI _ 231 17).toInt + 1 := hr3207.1.1
                have pg3216 := PG.cong (hP.1 (by decide)) hI3124 (((hF3125.2.1 238 ma_X11_must_231_238).trans ((hF1804.2.1 238 ma_X11_partAt_231_238).trans (hF1791.2.1 238 ma_X11_isSign_231_238)))) (((hF3125.2.1 239 ma_X11_must_231_239).trans ((hF1804.2.1 239 ma_X11_partAt_231_239).trans (hF1791.2.1 239 ma_X11_isSign_231_239)))) (((hF3125.2.1 240 ma_X11_must_231_240).trans ((hF1804.2.1 240 ma_X11_partAt_231_240).trans (hF1791.2.1 240 ma_X11_isSign_231_240)))) (((hF3125.2.1 241 ma_X11_must_231_241).trans ((hF1804.2.1 241 ma_X11_partAt_231_241).trans (hF1791.2.1 241 ma_X11_isSign_231_241)))) (((hF3125.1 231 17 mf_X11_must_231_231_17).trans ((hF1804.1 231 17 mf_X11_partAt_231_231_17).trans (hF1791.1 231 17 mf_X11_isSign_231_231_17)))) (((hF3125.1 231 23 mf_X11_must_231_231_23).trans ((hF1804.1 231 23 mf_X11_partAt_231_231_23).trans (hF1791.1 231 23 mf_X11_isSign_231_231_23))))
                have pg3215 := PG.emit (e' := 1) pg3216 hr3207.1 (hF3205.2.1 240 ma_X11_emit_231_240) (hF3205.2.1 241 ma_X11_emit_231_241) (hF3205.1 231 23 mf_X11_emit_231_231_23) (Or.inl ⟨by omega, by omega, by decide, by decide⟩)
                refine At.enter rfl ?_
                refine r_aload_n rfl ?_
                refine r_dup rfl ?_
                refine q_getI (Sh.int hI3204.1 kx_231 rfl) v2973 (((hF3205.1 231 20 mf_X11_emit_231_231_20).trans ((hF3125.1 231 20 mf_X11_must_231_231_20).trans ((hF1804.1 231 20 mf_X11_partAt_231_231_20).trans (hF1791.1 231 20 mf_X11_isSign_231_231_20)))).trans hv2973) ?_
                refine r_iconst 1 rfl ?_
                have bv3217 := q_bnd v2973
                refine q_iadd (v2973.toInt + 1) rfl (by omega) (fun v3218 hv3218 => ?_)
                refine q_putI (Sh.int hI3204.1 kx_231 rfl) rfl ?_
                have hI3219 := HI.wI0 hI3204 kx_231 rfl (p := 231) (b := 20) (v := v3218) rfl
                have hF3220 := Fr.wI (p := 231) (b := 20) (v := v3218) hF3208 rfl
                refine Ar.fall 45 rfl ?_
                refine At.enter rfl ?_
                refine q_vret ?_
                refine At.enter rfl ?_
                refine r_iconst 3 rfl ?_
                refine r_ireti ?_
                have x3221 := HI.eqI hI3219 (p := 231) (b := 8) ((((gI_sI_ne (by decide)).trans ((hF3205.1 231 8 mf_X11_emit_231_231_8).trans ((hF3125.1 231 8 mf_X11_must_231_231_8).trans ((hF1804.1 231 8 mf_X11_partAt_231_231_8).trans (hF1791.1 231 8 mf_X11_isSign_231_231_8))))).trans hv1))
                have x3222 := HI.eqI hI3219 (p := 231) (b := 9) ((((gI_sI_ne (by decide)).trans (hF3205.1 231 9 mf_X11_emit_231_231_9)).trans hv3136))
                have x3223 := HI.eqI hI3219 (p := 231) (b := 10) ((((gI_sI_ne (by decide)).trans (hF3205.1 231 10 mf_X11_emit_231_231_10)).trans hv3138))
                have x3224 := HI.eqI hI3219 (p := 231) (b := 11) ((((gI_sI_ne (by decide)).trans (hF3205.1 231 11 mf_X11_emit_231_231_11)).trans hv3140))
                obtain ⟨v3225, hv3225⟩ : ∃ v, gJ g3123 231 12 = v := ⟨_, rfl⟩
                have x3226 := HI.eqJ hI3219 (b := 12) ((((gJ_sI_ne (by decide)).trans (hF3205.2.2 231 12 mf_X11_emit_231_231_12)).trans hv3225))
                have x3227 := HI.eqI hI3219 (p := 231) (b := 14) ((((gI_sI_ne (by decide)).trans (hF3205.1 231 14 mf_X11_emit_231_231_14)).trans hv3142))
                have x3228 := HI.eqI hI3219 (p := 231) (b := 17) (((gI_sI_ne (by decide)).trans hv3212))
                have x3229 := HI.eqI hI3219 (p := 231) (b := 23) ((((gI_sI_ne (by decide)).trans ((hF3205.1 231 23 mf_X11_emit_231_231_23).trans ((hF3125.1 231 23 mf_X11_must_231_231_23).trans ((hF1804.1 231 23 mf_X11_partAt_231_231_23).trans (hF1791.1 231 23 mf_X11_isSign_231_231_23))))).trans hv8))
                have zv3231 : (3 : Int32).toInt = 3 := rfl
                have pg3232 := PG.cong pg3215 hI3219 ((gA_sI)) ((gA_sI)) ((gA_sI)) ((gA_sI)) ((gI_sI_ne (by decide))) ((gI_sI_ne (by decide)))
                have w263233 := W26.cong c3149 hI3219 (((gI_sI_ne (by decide)).trans (hF3205.1 231 9 mf_X11_emit_231_231_9))) (((gI_sI_ne (by decide)).trans (hF3205.1 231 10 mf_X11_emit_231_231_10))) (((gI_sI_ne (by decide)).trans (hF3205.1 231 11 mf_X11_emit_231_231_11))) (((gJ_sI_ne (by decide)).trans (hF3205.2.2 231 12 mf_X11_emit_231_231_12)))
                have x3235 := HI.eqI hI3219 (p := 231) (b := 13) ((((gI_sI_ne (by decide)).trans (hF3205.1 231 13 mf_X11_emit_231_231_13)).trans hv3155))
                obtain ⟨v3237, hv3237⟩ : ∃ v, gI g0 231 15 = v := ⟨_, rfl⟩
                have rv3237 := RgF.at hI0.2.1 (p := 231) (b := 15) rfl
                rw [hv3237] at rv3237
                dsimp only at rv3237
                have tv3237 := congrArg Int32.toInt hv3237
                have x3238 := HI.eqI hI3219 (p := 231) (b := 15) ((((gI_sI_ne (by decide)).trans ((hF3205.1 231 15 mf_X11_emit_231_231_15).trans ((hF3125.1 231 15 mf_X11_must_231_231_15).trans ((hF1804.1 231 15 mf_X11_partAt_231_231_15).trans (hF1791.1 231 15 mf_X11_isSign_231_231_15))))).trans hv3237))
                have x3239 := HI.eqI hI3219 (p := 231) (b := 20) ((gI_sI_eq hI3204.1 kx_231 rfl _))
                obtain ⟨v3241, hv3241⟩ : ∃ v, gI g0 231 24 = v := ⟨_, rfl⟩
                have tv3241 := congrArg Int32.toInt hv3241
                have x3242 := HI.eqI hI3219 (p := 231) (b := 24) ((((gI_sI_ne (by decide)).trans ((hF3205.1 231 24 mf_X11_emit_231_231_24).trans ((hF3125.1 231 24 mf_X11_must_231_231_24).trans ((hF1804.1 231 24 mf_X11_partAt_231_231_24).trans (hF1791.1 231 24 mf_X11_isSign_231_231_24))))).trans hv3241))
                have x3247 := HI.eqI hI0 (p := 231) (b := 20) (hv2973)
                have lp := pa1810
                unfold PAI at lp
                have ld := CDM.dig hK
                have y3250 : pI g0 11 = (gI g0 231 11).toInt := rfl
                have y3251 : wth g0 = (gJ g0 231 12).toInt := rfl
                have x3253 := HI.eqJ hI0 (b := 12) (hv5)
                have y3258 : (gI g3123 231 13).toInt = (gI g0 231 13).toInt := (mu3157.2.1 (show (gI g0 231 14).toInt = 0 from by omega) (by omega)).2.1
                have dg3259 := fun a b => CDM_dg hK a b
                have l2e : 0 ≤ v5.toInt → v5.toInt ≤ 1000 → v2972.toInt = v5.toInt := fun a b => l2i_e hv2972 (by omega) (by omega)
                exact ⟨_, rfl, hI3219, hF3220, _, rfl, by decide, ⟨by omega, by omega, by omega, by omega, w263233, by omega, by omega, (fun hbad => ⟨by omega, (PT.mk (fun h => by first | exact absurd h (by decide) | (exfalso; omega)) (fun _ => pg3232) (fun h h9 => by first | exact absurd h (by decide) | (exfalso; omega)) (fun h => by first | exact absurd h (by decide) | (exfalso; omega)))⟩), (fun hbad => by omega), (TKM.c hK3158 (((gA_sI).trans (hF3205.2.1 236 ma_X11_emit_231_236))) (((gI_sI_ne (by decide)).trans (hF3205.1 231 8 mf_X11_emit_231_231_8))) (((gI_sI_ne (by decide)).trans (hF3205.1 231 9 mf_X11_emit_231_231_9))) (((gI_sI_ne (by decide)).trans (hF3205.1 231 10 mf_X11_emit_231_231_10))) (((gI_sI_ne (by decide)).trans (hF3205.1 231 11 mf_X11_emit_231_231_11))) (((gJ_sI_ne (by decide)).trans (hF3205.2.2 231 12 mf_X11_emit_231_231_12)))), (fun c0 b hC h => M.leaf h (by rw [pI.c (((gI_sI_ne (by decide)).trans (hF3205.1 231 9 mf_X11_emit_231_231_9)))]; exact (MUSTP.tok hK mu3157 (by omega) (by omega))) (by omega) (show (gI g0 231 20).toInt < 50 from by omega) (((gA_sI).trans ((hF3205.2.1 240 ma_X11_emit_231_240).trans ((hF3125.2.1 240 ma_X11_must_231_240).trans ((hF1804.2.1 240 ma_X11_partAt_231_240).trans (hF1791.2.1 240 ma_X11_isSign_231_240)))))) (show (gI _ 231 23).toInt = (gI g0 231 23).toInt from (by first | exact x3229.trans tv8.symm | omega)) (show (gI _ 231 24).toInt = (gI g0 231 24).toInt from (by first | exact x3242.trans tv3241.symm | omega)) (show (gI _ 231 20).toInt = (gI g0 231 20).toInt + 1 from by omega) (show (gI _ 231 15).toInt = (gI g0 231 15).toInt from (by first | exact x3238.trans tv3237.symm | omega)) (fun _ => ⟨show (gI _ 231 14).toInt = 0 from by omega, show (gI _ 231 13).toInt = (gI g0 231 13).toInt from by omega⟩) (fun z => absurd (show (gI g0 231 14).toInt = 0 from (by first | exact h2 | omega)) z)), (fun h14 c0 b K hC h => MG_leaf h (by rw [pI.c (((gI_sI_ne (by decide)).trans (hF3205.1 231 9 mf_X11_emit_231_231_9)))]; exact (MUSTP.tok hK mu3157 (by omega) (by omega))) (by first | omega | (have d1 := dg3259 (by show (gI g0 231 11).toInt = 2; omega) (by show (gJ g0 231 12).toInt ≤ 1000; omega); omega)) (((gA_sI).trans ((hF3205.2.1 240 ma_X11_emit_231_240).trans ((hF3125.2.1 240 ma_X11_must_231_240).trans ((hF1804.2.1 240 ma_X11_partAt_231_240).trans (hF1791.2.1 240 ma_X11_isSign_231_240)))))) (((gA_sI).trans ((hF3205.2.1 241 ma_X11_emit_231_241).trans ((hF3125.2.1 241 ma_X11_must_231_241).trans ((hF1804.2.1 241 ma_X11_partAt_231_241).trans (hF1791.2.1 241 ma_X11_isSign_231_241)))))) (pI.c (((gI_sI_ne (by decide)).trans ((hF3205.1 231 23 mf_X11_emit_231_231_23).trans ((hF3125.1 231 23 mf_X11_must_231_231_23).trans ((hF1804.1 231 23 mf_X11_partAt_231_231_23).trans (hF1791.1 231 23 mf_X11_isSign_231_231_23))))))) (EMG_fr hr3207.2 (SMG_mk (((hF3125.2.1 238 ma_X11_must_231_238).trans ((hF1804.2.1 238 ma_X11_partAt_231_238).trans (hF1791.2.1 238 ma_X11_isSign_231_238)))) (((hF3125.2.1 239 ma_X11_must_231_239).trans ((hF1804.2.1 239 ma_X11_partAt_231_239).trans (hF1791.2.1 239 ma_X11_isSign_231_239)))) (((hF3125.1 231 17 mf_X11_must_231_231_17).trans ((hF1804.1 231 17 mf_X11_partAt_231_231_17).trans (hF1791.1 231 17 mf_X11_isSign_231_231_17))))) (SMG_mk ((gA_sI)) ((gA_sI)) ((gI_sI_ne (by decide))))))⟩⟩
  · have c1799_ : v1792.toInt ≠ 0 := en_k_eq_f c1799
    have i3260 := BL.yes hb1798 (by omega)
    refine At.enter rfl ?_
    refine r_aload_n rfl ?_
    refine r_bipush 31 rfl ?_
    refine q_inlV 15 rfl [.ref 231, .int 31] [] (Nat.le_of_ble_eq_true rfl) rfl ?_
    refine Ev.mk rfl rfl ⟨Nat.le_of_ble_eq_true rfl, Or.inr (q_rc hI1790.1 kx_231 rfl)⟩ ?_
    show At _ none _ _ (0, [(0, .ref 231), (1, .int 31)], [], (_, _)) _
    refine At.enter rfl ?_
    refine r_aload_n rfl ?_
    refine r_aload_n rfl ?_
    obtain ⟨v3261, hv3261⟩ : ∃ v, gI g0 231 24 = v := ⟨_, rfl⟩
    refine q_getI (Sh.int hI1790.1 kx_231 rfl) v3261 ((hF1791.1 231 24 mf_X11_isSign_231_231_24).trans hv3261) ?_
    refine r_bipush 8 rfl ?_
    refine r_ics 10 rfl (fun c3262 => ?_) (fun c3262 => ?_)
    · have c3262_ : v3261.toInt ≥ 8 := en_i_ge_t c3262
      refine At.enter rfl ?_
      refine r_iconst 0 rfl ?_
      refine Ar.fall 15 rfl ?_
      refine At.enter rfl ?_
      have x3263 := HI.eqI hI1790 (p := 231) (b := 8) (((hF1791.1 231 8 mf_X11_isSign_231_231_8).trans hv1))
      have x3264 := HI.eqI hI1790 (p := 231) (b := 9) (((hF1791.1 231 9 mf_X11_isSign_231_231_9).trans hv2))
      have x3265 := HI.eqI hI1790 (p := 231) (b := 10) (((hF1791.1 231 10 mf_X11_isSign_231_231_10).trans hv3))
      have w263267 := W26.cong hW hI1790 ((hF1791.1 231 9 mf_X11_isSign_231_231_9)) ((hF1791.1 231 10 mf_X11_isSign_231_231_10)) ((hF1791.1 231 11 mf_X11_isSign_231_231_11)) ((hF1791.2.2 231 12 mf_X11_isSign_231_231_12))
      have zv3268 : (0 : Int32).toInt = 0 := rfl
      refine r_callV 18 rfl [.ref 231, .int 0] [] (Nat.le_of_ble_eq_true rfl) rfl (T_X11_must_231 _ hI1790 0 (by decide) (by refine ⟨?_, ?_, ?_, ?_⟩ <;> omega) w263267 (TKM.c hK ((hF1791.2.1 236 ma_X11_isSign_231_236)) ((hF1791.1 231 8 mf_X11_isSign_231_231_8)) ((hF1791.1 231 9 mf_X11_isSign_231_231_9)) ((hF1791.1 231 10 mf_X11_isSign_231_231_10)) ((hF1791.1 231 11 mf_X11_isSign_231_231_11)) ((hF1791.2.2 231 12 mf_X11_isSign_231_231_12)))) ?_
      rintro _ _ ⟨g3269, rfl, hI3270, hF3271, rfl, hr3273⟩
      refine At.stn ?_
      have hF3274 := Fr.tr hF1794 hF3271 rfl rfl
      have x3280 := HI.eqI hI1790 (p := 231) (b := 14) (((hF1791.1 231 14 mf_X11_isSign_231_231_14).trans hv6))
      have x3281 := HI.eqI hI3270 (p := 231) (b := 8) ((((hF3271.1 231 8 mf_X11_must_231_231_8).trans (hF1791.1 231 8 mf_X11_isSign_231_231_8)).trans hv1))
      obtain ⟨v3282, hv3282⟩ : ∃ v, gI g3269 231 9 = v := ⟨_, rfl⟩
      have rv3282 := RgF.at hI3270.2.1 (p := 231) (b := 9) rfl
      rw [hv3282] at rv3282
      dsimp only at rv3282
      have tv3282 := congrArg Int32.toInt hv3282
      obtain ⟨v3284, hv3284⟩ : ∃ v, gI g3269 231 10 = v := ⟨_, rfl⟩
      have rv3284 := RgF.at hI3270.2.1 (p := 231) (b := 10) rfl
      rw [hv3284] at rv3284
      dsimp only at rv3284
      have tv3284 := congrArg Int32.toInt hv3284
      obtain ⟨v3286, hv3286⟩ : ∃ v, gI g3269 231 11 = v := ⟨_, rfl⟩
      have tv3286 := congrArg Int32.toInt hv3286
      obtain ⟨v3288, hv3288⟩ : ∃ v, gI g3269 231 14 = v := ⟨_, rfl⟩
      have tv3288 := congrArg Int32.toInt hv3288
      obtain ⟨c3290, c3291, c3292, c3293, c3294, c3295, c3296, c3297⟩ := hr3273
      obtain ⟨v3298, hv3298⟩ : ∃ v, gI g0 231 13 = v := ⟨_, rfl⟩
      have tv3298 := congrArg Int32.toInt hv3298
      have x3299 := HI.eqI hI1790 (p := 231) (b := 13) (((hF1791.1 231 13 mf_X11_isSign_231_231_13).trans hv3298))
      obtain ⟨v3301, hv3301⟩ : ∃ v, gI g3269 231 13 = v := ⟨_, rfl⟩
      have tv3301 := congrArg Int32.toInt hv3301
      unfold MUSTP at c3297
      rw [TM.c ((hF1791.2.1 236 ma_X11_isSign_231_236)), nM.c ((hF1791.1 231 8 mf_X11_isSign_231_231_8)), pI.c (b := 14) ((hF1791.1 231 14 mf_X11_isSign_231_231_14)), pI.c (b := 13) ((hF1791.1 231 13 mf_X11_isSign_231_231_13)), pI.c (b := 10) ((hF1791.1 231 10 mf_X11_isSign_231_231_10)), pI.c (b := 9) ((hF1791.1 231 9 mf_X11_isSign_231_231_9))] at c3297
      have mu3303 : MUSTP g0 g3269 0 := c3297
      clear c3297
      have hK3304 := mu3303.1
      refine At.enter rfl ?_
      refine r_aload_n rfl ?_
      refine q_getI (Sh.int hI3270.1 kx_231 rfl) v3288 hv3288 ?_
      refine r_ifs 25 rfl (fun c3305 => ?_) (fun c3305 => ?_)
      · have c3305_ : v3288.toInt ≠ 0 := en_k_ne_t c3305
        clear c3296
        obtain ⟨i3306, i3307⟩ := MUSTP.y mu3303 (by omega) (by omega)
        refine At.enter rfl ?_
        refine q_vret ?_
        refine At.enter rfl ?_
        refine r_iconst 1 rfl ?_
        refine r_ireti ?_
        obtain ⟨v3312, hv3312⟩ : ∃ v, gJ g3269 231 12 = v := ⟨_, rfl⟩
        have x3313 := HI.eqJ hI3270 (b := 12) (hv3312)
        have x3315 := HI.eqI hI3270 (p := 231) (b := 17) ((((hF3271.1 231 17 mf_X11_must_231_231_17).trans (hF1791.1 231 17 mf_X11_isSign_231_231_17)).trans hv7))
        have x3316 := HI.eqI hI3270 (p := 231) (b := 23) ((((hF3271.1 231 23 mf_X11_must_231_231_23).trans (hF1791.1 231 23 mf_X11_isSign_231_231_23)).trans hv8))
        have zv3318 : (1 : Int32).toInt = 1 := rfl
        have pg3319 := PG.cong (hP.1 (by decide)) hI3270 (((hF3271.2.1 238 ma_X11_must_231_238).trans (hF1791.2.1 238 ma_X11_isSign_231_238))) (((hF3271.2.1 239 ma_X11_must_231_239).trans (hF1791.2.1 239 ma_X11_isSign_231_239))) (((hF3271.2.1 240 ma_X11_must_231_240).trans (hF1791.2.1 240 ma_X11_isSign_231_240))) (((hF3271.2.1 241 ma_X11_must_231_241).trans (hF1791.2.1 241 ma_X11_isSign_231_241))) (((hF3271.1 231 17 mf_X11_must_231_231_17).trans (hF1791.1 231 17 mf_X11_isSign_231_231_17))) (((hF3271.1 231 23 mf_X11_must_231_231_23).trans (hF1791.1 231 23 mf_X11_isSign_231_231_23)))
        obtain ⟨v3323, hv3323⟩ : ∃ v, gI g0 231 15 = v := ⟨_, rfl⟩
        have rv3323 := RgF.at hI0.2.1 (p := 231) (b := 15) rfl
        rw [hv3323] at rv3323
        dsimp only at rv3323
        have tv3323 := congrArg Int32.toInt hv3323
        have x3324 := HI.eqI hI3270 (p := 231) (b := 15) ((((hF3271.1 231 15 mf_X11_must_231_231_15).trans (hF1791.1 231 15 mf_X11_isSign_231_231_15)).trans hv3323))
        obtain ⟨v3325, hv3325⟩ : ∃ v, gI g0 231 20 = v := ⟨_, rfl⟩
        have tv3325 := congrArg Int32.toInt hv3325
        have x3326 := HI.eqI hI3270 (p := 231) (b := 20) ((((hF3271.1 231 20 mf_X11_must_231_231_20).trans (hF1791.1 231 20 mf_X11_isSign_231_231_20)).trans hv3325))
        have x3328 := HI.eqI hI3270 (p := 231) (b := 24) ((((hF3271.1 231 24 mf_X11_must_231_231_24).trans (hF1791.1 231 24 mf_X11_isSign_231_231_24)).trans hv3261))
        have x3335 := HI.eqI hI0 (p := 231) (b := 24) (hv3261)
        have mf3336 := mu3303.2.2.1 (show (gI g0 231 14).toInt = 0 from by omega) (by omega)
        have y3337 : (gI _ 231 14).toInt ≠ 0 := mf3336.1
        have y3338 : (gI _ 231 13).toInt = (gI g0 231 9).toInt := mf3336.2
        exact ⟨_, rfl, hI3270, hF3274, _, rfl, by decide, ⟨by omega, by omega, by omega, by omega, c3295, by omega, by omega, (fun hbad => ⟨by omega, (PT.mk (fun _ => pg3319) (fun h => by first | exact absurd h (by decide) | (exfalso; omega)) (fun h h9 => by first | exact absurd h (by decide) | (exfalso; omega)) (fun h => by first | exact absurd h (by decide) | (exfalso; omega)))⟩), (fun hbad => by omega), hK3304, (fun c0 b hC h => M.sqF h (TKM.some hK).choose_spec (by omega) (show 8 ≤ (gI g0 231 24).toInt from by omega) (fun _ => ⟨show (gI _ 231 14).toInt ≠ 0 from by omega, show (gI _ 231 13).toInt = (gI g0 231 9).toInt from by omega⟩) (fun z => absurd (show (gI g0 231 14).toInt = 0 from (by first | exact h2 | omega)) z) _), (fun h14 c0 b K hC h => absurd (show (gI _ 231 14).toInt = 0 from h14) (by omega))⟩⟩
      · have c3305_ : v3288.toInt = 0 := en_k_ne_f c3305
        obtain ⟨i3339, i3340, i3341⟩ := c3296 (by omega)
        obtain ⟨i3342, i3343⟩ := MUSTP.z mu3303 (by omega) (by omega)
        refine At.enter rfl ?_
        refine r_aload_n rfl ?_
        refine r_dup rfl ?_
        refine q_getI (Sh.int hI3270.1 kx_231 rfl) v3261 (((hF3271.1 231 24 mf_X11_must_231_231_24).trans (hF1791.1 231 24 mf_X11_isSign_231_231_24)).trans hv3261) ?_
        refine r_iconst 1 rfl ?_
        refine q_iaddO (fun v3344 _ => ?_)
        refine q_putI (Sh.int hI3270.1 kx_231 rfl) rfl ?_
        have hI3345 := HI.wI0 hI3270 kx_231 rfl (p := 231) (b := 24) (v := v3344) rfl
        have hF3346 := Fr.wI (p := 231) (b := 24) (v := v3344) hF3274 rfl
        refine r_aload_n rfl ?_
        refine r_iload_n rfl ?_
        refine r_iconst 0 rfl ?_
        have x3347 := HI.eqI hI3345 (p := 231) (b := 23) ((((gI_sI_ne (by decide)).trans ((hF3271.1 231 23 mf_X11_must_231_231_23).trans (hF1791.1 231 23 mf_X11_isSign_231_231_23))).trans hv8))
        have zv3348 : (31 : Int32).toInt = 31 := rfl
        refine r_callV 41 rfl [.ref 231, .int 31, .int 0] [] (Nat.le_of_ble_eq_true rfl) rfl (T_X11_push_231 _ hI3345 31 (by decide) 0 (by decide) (by omega)) ?_
        rintro _ _ ⟨g3350, rfl, hI3351, hF3352, rfl, hr3354⟩
        refine At.stn ?_
        have hF3355 := Fr.tr hF3346 hF3352 rfl rfl
        have x3358 := HI.eqI hI3345 (p := 231) (b := 17) ((((gI_sI_ne (by decide)).trans ((hF3271.1 231 17 mf_X11_must_231_231_17).trans (hF1791.1 231 17 mf_X11_isSign_231_231_17))).trans hv7))
        have x3360 := HI.eqI hI3351 (p := 231) (b := 17) ((((hF3352.1 231 17 mf_X11_push_231_231_17).trans ((gI_sI_ne (by decide)).trans ((hF3271.1 231 17 mf_X11_must_231_231_17).trans (hF1791.1 231 17 mf_X11_isSign_231_231_17)))).trans hv7))
        obtain ⟨v3361, hv3361⟩ : ∃ v, gI g3350 231 23 = v := ⟨_, rfl⟩
        have rv3361 := RgF.at hI3351.2.1 (p := 231) (b := 23) rfl
        rw [hv3361] at rv3361
        dsimp only at rv3361
        have tv3361 := congrArg Int32.toInt hv3361
        have y3363 : (gI _ 231 23).toInt = (gI _ 231 23).toInt + 1 := hr3354.1
        have pg3364 := PG.cong (hP.1 (by decide)) hI3345 (((gA_sI).trans ((hF3271.2.1 238 ma_X11_must_231_238).trans (hF1791.2.1 238 ma_X11_isSign_231_238)))) (((gA_sI).trans ((hF3271.2.1 239 ma_X11_must_231_239).trans (hF1791.2.1 239 ma_X11_isSign_231_239)))) (((gA_sI).trans ((hF3271.2.1 240 ma_X11_must_231_240).trans (hF1791.2.1 240 ma_X11_isSign_231_240)))) (((gA_sI).trans ((hF3271.2.1 241 ma_X11_must_231_241).trans (hF1791.2.1 241 ma_X11_isSign_231_241)))) (((gI_sI_ne (by decide)).trans ((hF3271.1 231 17 mf_X11_must_231_231_17).trans (hF1791.1 231 17 mf_X11_isSign_231_231_17)))) (((gI_sI_ne (by decide)).trans ((hF3271.1 231 23 mf_X11_must_231_231_23).trans (hF1791.1 231 23 mf_X11_isSign_231_231_23))))
        have pg3365 := PG.push (e' := 0) pg3364 hr3354 (hF3352.2.1 238 ma_X11_push_231_238) (hF3352.2.1 239 ma_X11_push_231_239) (hF3352.1 231 17 mf_X11_push_231_231_17) ⟨by omega, by omega⟩ (Or.inl (by omega)) (by omega) (by omega)
        refine At.enter rfl ?_
        refine q_vret ?_
        refine At.enter rfl ?_
        refine r_iconst 1 rfl ?_
        refine r_ireti ?_
        have x3366 := HI.eqI hI3351 (p := 231) (b := 8) ((((hF3352.1 231 8 mf_X11_push_231_231_8).trans ((gI_sI_ne (by decide)).trans ((hF3271.1 231 8 mf_X11_must_231_231_8).trans (hF1791.1 231 8 mf_X11_isSign_231_231_8)))).trans hv1))
        have x3367 := HI.eqI hI3351 (p := 231) (b := 9) ((((hF3352.1 231 9 mf_X11_push_231_231_9).trans (gI_sI_ne (by decide))).trans hv3282))
        have x3368 := HI.eqI hI3351 (p := 231) (b := 10) ((((hF3352.1 231 10 mf_X11_push_231_231_10).trans (gI_sI_ne (by decide))).trans hv3284))
        have x3369 := HI.eqI hI3351 (p := 231) (b := 11) ((((hF3352.1 231 11 mf_X11_push_231_231_11).trans (gI_sI_ne (by decide))).trans hv3286))
        obtain ⟨v3370, hv3370⟩ : ∃ v, gJ g3269 231 12 = v := ⟨_, rfl⟩
        have x3371 := HI.eqJ hI3351 (b := 12) ((((hF3352.2.2 231 12 mf_X11_push_231_231_12).trans (gJ_sI_ne (by decide))).trans hv3370))
        have x3372 := HI.eqI hI3351 (p := 231) (b := 14) ((((hF3352.1 231 14 mf_X11_push_231_231_14).trans (gI_sI_ne (by decide))).trans hv3288))
        have zv3376 : (1 : Int32).toInt = 1 := rfl
        have w263377 := W26.cong c3295 hI3351 (((hF3352.1 231 9 mf_X11_push_231_231_9).trans (gI_sI_ne (by decide)))) (((hF3352.1 231 10 mf_X11_push_231_231_10).trans (gI_sI_ne (by decide)))) (((hF3352.1 231 11 mf_X11_push_231_231_11).trans (gI_sI_ne (by decide)))) (((hF3352.2.2 231 12 mf_X11_push_231_231_12).trans (gJ_sI_ne (by decide))))
        have x3379 := HI.eqI hI3351 (p := 231) (b := 13) ((((hF3352.1 231 13 mf_X11_push_231_231_13).trans (gI_sI_ne (by decide))).trans hv3301))
        obtain ⟨v3381, hv3381⟩ : ∃ v, gI g0 231 15 = v := ⟨_, rfl⟩
        have rv3381 := RgF.at hI0.2.1 (p := 231) (b := 15) rfl
        rw [hv3381] at rv3381
        dsimp only at rv3381
        have tv3381 := congrArg Int32.toInt hv3381
        have x3382 := HI.eqI hI3351 (p := 231) (b := 15) ((((hF3352.1 231 15 mf_X11_push_231_231_15).trans ((gI_sI_ne (by decide)).trans ((hF3271.1 231 15 mf_X11_must_231_231_15).trans (hF1791.1 231 15 mf_X11_isSign_231_231_15)))).trans hv3381))
        obtain ⟨v3383, hv3383⟩ : ∃ v, gI g0 231 20 = v := ⟨_, rfl⟩
        have tv3383 := congrArg Int32.toInt hv3383
        have x3384 := HI.eqI hI3351 (p := 231) (b := 20) ((((hF3352.1 231 20 mf_X11_push_231_231_20).trans ((gI_sI_ne (by decide)).trans ((hF3271.1 231 20 mf_X11_must_231_231_20).trans (hF1791.1 231 20 mf_X11_isSign_231_231_20)))).trans hv3383))
        have x3386 := HI.eqI hI3351 (p := 231) (b := 24) (((hF3352.1 231 24 mf_X11_push_231_231_24).trans (gI_sI_eq hI3270.1 kx_231 rfl _)))
        have x3393 := HI.eqI hI0 (p := 231) (b := 24) (hv3261)
        have y3398 : (gI g3269 231 13).toInt = (gI g0 231 13).toInt := (mu3303.2.1 (show (gI g0 231 14).toInt = 0 from by omega) (by omega)).2.1
        exact ⟨_, rfl, hI3351, hF3355, _, rfl, by decide, ⟨by omega, by omega, by omega, by omega, w263377, by omega, by omega, (fun hbad => ⟨by omega, (PT.mk (fun _ => pg3365) (fun h => by first | exact absurd h (by decide) | (exfalso; omega)) (fun h h9 => by first | exact absurd h (by decide) | (exfalso; omega)) (fun h => by first | exact absurd h (by decide) | (exfalso; omega)))⟩), (fun hbad => by omega), (TKM.c hK3304 (((hF3352.2.1 236 ma_X11_push_231_236).trans (gA_sI))) (((hF3352.1 231 8 mf_X11_push_231_231_8).trans (gI_sI_ne (by decide)))) (((hF3352.1 231 9 mf_X11_push_231_231_9).trans (gI_sI_ne (by decide)))) (((hF3352.1 231 10 mf_X11_push_231_231_10).trans (gI_sI_ne (by decide)))) (((hF3352.1 231 11 mf_X11_push_231_231_11).trans (gI_sI_ne (by decide)))) (((hF3352.2.2 231 12 mf_X11_push_231_231_12).trans (gJ_sI_ne (by decide))))), (fun c0 b hC h => M.sq h (by rw [pI.c (((hF3352.1 231 9 mf_X11_push_231_231_9).trans (gI_sI_ne (by decide))))]; exact (MUSTP.tok hK mu3303 (by omega) (by omega))) (by omega) (show (gI g0 231 24).toInt < 8 from by omega) (PUSH.fr2 hr3354 (((gA_sI).trans ((hF3271.2.1 240 ma_X11_must_231_240).trans (hF1791.2.1 240 ma_X11_isSign_231_240)))) (((gA_sI).trans ((hF3271.2.1 241 ma_X11_must_231_241).trans (hF1791.2.1 241 ma_X11_isSign_231_241)))) (((gI_sI_ne (by decide)).trans ((hF3271.1 231 23 mf_X11_must_231_231_23).trans (hF1791.1 231 23 mf_X11_isSign_231_231_23)))) rfl rfl rfl) rfl (show (gI _ 231 24).toInt = (gI g0 231 24).toInt + 1 from by omega) (show (gI _ 231 20).toInt = (gI g0 231 20).toInt from (by first | exact x3384.trans tv3383.symm | omega)) (show (gI _ 231 15).toInt = (gI g0 231 15).toInt from (by first | exact x3382.trans tv3381.symm | omega)) (fun _ => ⟨show (gI _ 231 14).toInt = 0 from by omega, show (gI _ 231 13).toInt = (gI g0 231 13).toInt from by omega⟩) (fun z => absurd (show (gI g0 231 14).toInt = 0 from (by first | exact h2 | omega)) z)), (fun h14 c0 b K hC h => MG_sq h (by rw [pI.c (((hF3352.1 231 9 mf_X11_push_231_231_9).trans (gI_sI_ne (by decide))))]; exact (MUSTP.tok hK mu3303 (by omega) (by omega))) (by omega) (PUSH.fr2 hr3354 (((gA_sI).trans ((hF3271.2.1 240 ma_X11_must_231_240).trans (hF1791.2.1 240 ma_X11_isSign_231_240)))) (((gA_sI).trans ((hF3271.2.1 241 ma_X11_must_231_241).trans (hF1791.2.1 241 ma_X11_isSign_231_241)))) (((gI_sI_ne (by decide)).trans ((hF3271.1 231 23 mf_X11_must_231_231_23).trans (hF1791.1 231 23 mf_X11_isSign_231_231_23)))) rfl rfl rfl) rfl rfl (SMG_mk (((hF3352.2.1 238 ma_X11_push_231_238).trans ((gA_sI).trans ((hF3271.2.1 238 ma_X11_must_231_238).trans (hF1791.2.1 238 ma_X11_isSign_231_238))))) (((hF3352.2.1 239 ma_X11_push_231_239).trans ((gA_sI).trans ((hF3271.2.1 239 ma_X11_must_231_239).trans (hF1791.2.1 239 ma_X11_isSign_231_239))))) (((hF3352.1 231 17 mf_X11_push_231_231_17).trans ((gI_sI_ne (by decide)).trans ((hF3271.1 231 17 mf_X11_must_231_231_17).trans (hF1791.1 231 17 mf_X11_isSign_231_231_17)))))))⟩⟩
    · have c3262_ : v3261.toInt < 8 := en_i_ge_f c3262
      refine At.enter rfl ?_
      refine r_iconst 1 rfl ?_
      refine r_goto ?_
      refine At.enter rfl ?_
      have x3399 := HI.eqI hI1790 (p := 231) (b := 8) (((hF1791.1 231 8 mf_X11_isSign_231_231_8).trans hv1))
      have x3400 := HI.eqI hI1790 (p := 231) (b := 9) (((hF1791.1 231 9 mf_X11_isSign_231_231_9).trans hv2))
      have x3401 := HI.eqI hI1790 (p := 231) (b := 10) (((hF1791.1 231 10 mf_X11_isSign_231_231_10).trans hv3))
      have w263403 := W26.cong hW hI1790 ((hF1791.1 231 9 mf_X11_isSign_231_231_9)) ((hF1791.1 231 10 mf_X11_isSign_231_231_10)) ((hF1791.1 231 11 mf_X11_isSign_231_231_11)) ((hF1791.2.2 231 12 mf_X11_isSign_231_231_12))
      have zv3404 : (1 : Int32).toInt = 1 := rfl
      refine r_callV 18 rfl [.ref 231, .int 1] [] (Nat.le_of_ble_eq_true rfl) rfl (T_X11_must_231 _ hI1790 1 (by decide) (by refine ⟨?_, ?_, ?_, ?_⟩ <;> omega) w263403 (TKM.c hK ((hF1791.2.1 236 ma_X11_isSign_231_236)) ((hF1791.1 231 8 mf_X11_isSign_231_231_8)) ((hF1791.1 231 9 mf_X11_isSign_231_231_9)) ((hF1791.1 231 10 mf_X11_isSign_231_231_10)) ((hF1791.1 231 11 mf_X11_isSign_231_231_11)) ((hF1791.2.2 231 12 mf_X11_isSign_231_231_12)))) ?_
      rintro _ _ ⟨g3405, rfl, hI3406, hF3407, rfl, hr3409⟩
      refine At.stn ?_
      have hF3410 := Fr.tr hF1794 hF3407 rfl rfl
      have x3416 := HI.eqI hI1790 (p := 231) (b := 14) (((hF1791.1 231 14 mf_X11_isSign_231_231_14).trans hv6))
      have x3417 := HI.eqI hI3406 (p := 231) (b := 8) ((((hF3407.1 231 8 mf_X11_must_231_231_8).trans (hF1791.1 231 8 mf_X11_isSign_231_231_8)).trans hv1))
      obtain ⟨v3418, hv3418⟩ : ∃ v, gI g3405 231 9 = v := ⟨_, rfl⟩
      have rv3418 := RgF.at hI3406.2.1 (p := 231) (b := 9) rfl
      rw [hv3418] at rv3418
      dsimp only at rv3418
      have tv3418 := congrArg Int32.toInt hv3418
      obtain ⟨v3420, hv3420⟩ : ∃ v, gI g3405 231 10 = v := ⟨_, rfl⟩
      have rv3420 := RgF.at hI3406.2.1 (p := 231) (b := 10) rfl
      rw [hv3420] at rv3420
      dsimp only at rv3420
      have tv3420 := congrArg Int32.toInt hv3420
      obtain ⟨v3422, hv3422⟩ : ∃ v, gI g3405 231 11 = v := ⟨_, rfl⟩
      have tv3422 := congrArg Int32.toInt hv3422
      obtain ⟨v3424, hv3424⟩ : ∃ v, gI g3405 231 14 = v := ⟨_, rfl⟩
      have tv3424 := congrArg Int32.toInt hv3424
      obtain ⟨c3426, c3427, c3428, c3429, c3430, c3431, c3432, c3433⟩ := hr3409
      obtain ⟨v3434, hv3434⟩ : ∃ v, gI g0 231 13 = v := ⟨_, rfl⟩
      have tv3434 := congrArg Int32.toInt hv3434
      have x3435 := HI.eqI hI1790 (p := 231) (b := 13) (((hF1791.1 231 13 mf_X11_isSign_231_231_13).trans hv3434))
      obtain ⟨v3437, hv3437⟩ : ∃ v, gI g3405 231 13 = v := ⟨_, rfl⟩
      have tv3437 := congrArg Int32.toInt hv3437
      unfold MUSTP at c3433
      rw [TM.c ((hF1791.2.1 236 ma_X11_isSign_231_236)), nM.c ((hF1791.1 231 8 mf_X11_isSign_231_231_8)), pI.c (b := 14) ((hF1791.1 231 14 mf_X11_isSign_231_231_14)), pI.c (b := 13) ((hF1791.1 231 13 mf_X11_isSign_231_231_13)), pI.c (b := 10) ((hF1791.1 231 10 mf_X11_isSign_231_231_10)), pI.c (b := 9) ((hF1791.1 231 9 mf_X11_isSign_231_231_9))] at c3433
      have mu3439 : MUSTP g0 g3405 1 := c3433
      clear c3433
      have hK3440 := mu3439.1
      refine At.enter rfl ?_
      refine r_aload_n rfl ?_
      refine q_getI (Sh.int hI3406.1 kx_231 rfl) v3424 hv3424 ?_
      refine r_ifs 25 rfl (fun c3441 => ?_) (fun c3441 => ?_)
      · have c3441_ : v3424.toInt ≠ 0 := en_k_ne_t c3441
        clear c3432
        obtain ⟨i3442, i3443⟩ := MUSTP.y mu3439 (by omega) (by omega)
        refine At.enter rfl ?_
        refine q_vret ?_
        refine At.enter rfl ?_
        refine r_iconst 1 rfl ?_
        refine r_ireti ?_
        obtain ⟨v3448, hv3448⟩ : ∃ v, gJ g3405 231 12 = v := ⟨_, rfl⟩
        have x3449 := HI.eqJ hI3406 (b := 12) (hv3448)
        have x3451 := HI.eqI hI3406 (p := 231) (b := 17) ((((hF3407.1 231 17 mf_X11_must_231_231_17).trans (hF1791.1 231 17 mf_X11_isSign_231_231_17)).trans hv7))
        have x3452 := HI.eqI hI3406 (p := 231) (b := 23) ((((hF3407.1 231 23 mf_X11_must_231_231_23).trans (hF1791.1 231 23 mf_X11_isSign_231_231_23)).trans hv8))
        have pg3455 := PG.cong (hP.1 (by decide)) hI3406 (((hF3407.2.1 238 ma_X11_must_231_238).trans (hF1791.2.1 238 ma_X11_isSign_231_238))) (((hF3407.2.1 239 ma_X11_must_231_239).trans (hF1791.2.1 239 ma_X11_isSign_231_239))) (((hF3407.2.1 240 ma_X11_must_231_240).trans (hF1791.2.1 240 ma_X11_isSign_231_240))) (((hF3407.2.1 241 ma_X11_must_231_241).trans (hF1791.2.1 241 ma_X11_isSign_231_241))) (((hF3407.1 231 17 mf_X11_must_231_231_17).trans (hF1791.1 231 17 mf_X11_isSign_231_231_17))) (((hF3407.1 231 23 mf_X11_must_231_231_23).trans (hF1791.1 231 23 mf_X11_isSign_231_231_23)))
        obtain ⟨v3459, hv3459⟩ : ∃ v, gI g0 231 15 = v := ⟨_, rfl⟩
        have rv3459 := RgF.at hI0.2.1 (p := 231) (b := 15) rfl
        rw [hv3459] at rv3459
        dsimp only at rv3459
        have tv3459 := congrArg Int32.toInt hv3459
        have x3460 := HI.eqI hI3406 (p := 231) (b := 15) ((((hF3407.1 231 15 mf_X11_must_231_231_15).trans (hF1791.1 231 15 mf_X11_isSign_231_231_15)).trans hv3459))
        obtain ⟨v3461, hv3461⟩ : ∃ v, gI g0 231 20 = v := ⟨_, rfl⟩
        have tv3461 := congrArg Int32.toInt hv3461
        have x3462 := HI.eqI hI3406 (p := 231) (b := 20) ((((hF3407.1 231 20 mf_X11_must_231_231_20).trans (hF1791.1 231 20 mf_X11_isSign_231_231_20)).trans hv3461))
        have x3464 := HI.eqI hI3406 (p := 231) (b := 24) ((((hF3407.1 231 24 mf_X11_must_231_231_24).trans (hF1791.1 231 24 mf_X11_isSign_231_231_24)).trans hv3261))
        have x3471 := HI.eqI hI0 (p := 231) (b := 24) (hv3261)
        have mf3472 := mu3439.2.2.1 (show (gI g0 231 14).toInt = 0 from by omega) (by omega)
        have y3473 : (gI _ 231 14).toInt ≠ 0 := mf3472.1
        have y3474 : (gI _ 231 13).toInt = (gI g0 231 9).toInt := mf3472.2
        exact ⟨_, rfl, hI3406, hF3410, _, rfl, by decide, ⟨by omega, by omega, by omega, by omega, c3431, by omega, by omega, (fun hbad => ⟨by omega, (PT.mk (fun _ => pg3455) (fun h => by first | exact absurd h (by decide) | (exfalso; omega)) (fun h h9 => by first | exact absurd h (by decide) | (exfalso; omega)) (fun h => by first | exact absurd h (by decide) | (exfalso; omega)))⟩), (fun hbad => by omega), hK3440, (fun c0 b hC h => M.sqF h (TKM.some hK).choose_spec (by omega) (show 8 ≤ (gI g0 231 24).toInt from by omega) (fun _ => ⟨show (gI _ 231 14).toInt ≠ 0 from by omega, show (gI _ 231 13).toInt = (gI g0 231 9).toInt from by omega⟩) (fun z => absurd (show (gI g0 231 14).toInt = 0 from (by first | exact h2 | omega)) z) _), (fun h14 c0 b K hC h => absurd (show (gI _ 231 14).toInt = 0 from h14) (by omega))⟩⟩
      · have c3441_ : v3424.toInt = 0 := en_k_ne_f c3441
        obtain ⟨i3475, i3476, i3477⟩ := c3432 (by omega)
        obtain ⟨i3478, i3479⟩ := MUSTP.z mu3439 (by omega) (by omega)
        refine At.enter rfl ?_
        refine r_aload_n rfl ?_
        refine r_dup rfl ?_
        refine q_getI (Sh.int hI3406.1 kx_231 rfl) v3261 (((hF3407.1 231 24 mf_X11_must_231_231_24).trans (hF1791.1 231 24 mf_X11_isSign_231_231_24)).trans hv3261) ?_
        refine r_iconst 1 rfl ?_
        have bv3480 := q_bnd v3261
        refine q_iadd (v3261.toInt + 1) rfl (by omega) (fun v3481 hv3481 => ?_)
        refine q_putI (Sh.int hI3406.1 kx_231 rfl) rfl ?_
        have hI3482 := HI.wI0 hI3406 kx_231 rfl (p := 231) (b := 24) (v := v3481) rfl
        have hF3483 := Fr.wI (p := 231) (b := 24) (v := v3481) hF3410 rfl
        refine r_aload_n rfl ?_
        refine r_iload_n rfl ?_
        refine r_iconst 0 rfl ?_
        have x3484 := HI.eqI hI3482 (p := 231) (b := 23) ((((gI_sI_ne (by decide)).trans ((hF3407.1 231 23 mf_X11_must_231_231_23).trans (hF1791.1 231 23 mf_X11_isSign_231_231_23))).trans hv8))
        have zv3485 : (31 : Int32).toInt = 31 := rfl
        have zv3486 : (0 : Int32).toInt = 0 := rfl
        refine r_callV 41 rfl [.ref 231, .int 31, .int 0] [] (Nat.le_of_ble_eq_true rfl) rfl (T_X11_push_231 _ hI3482 31 (by decide) 0 (by decide) (by omega)) ?_
        rintro _ _ ⟨g3487, rfl, hI3488, hF3489, rfl, hr3491⟩
        refine At.stn ?_
        have hF3492 := Fr.tr hF3483 hF3489 rfl rfl
        have x3495 := HI.eqI hI3482 (p := 231) (b := 17) ((((gI_sI_ne (by decide)).trans ((hF3407.1 231 17 mf_X11_must_231_231_17).trans (hF1791.1 231 17 mf_X11_isSign_231_231_17))).trans hv7))
        have x3497 := HI.eqI hI3488 (p := 231) (b := 17) ((((hF3489.1 231 17 mf_X11_push_231_231_17).trans ((gI_sI_ne (by decide)).trans ((hF3407.1 231 17 mf_X11_must_231_231_17).trans (hF1791.1 231 17 mf_X11_isSign_231_231_17)))).trans hv7))
        obtain ⟨v3498, hv3498⟩ : ∃ v, gI g3487 231 23 = v := ⟨_, rfl⟩
        have rv3498 := RgF.at hI3488.2.1 (p := 231) (b := 23) rfl
        rw [hv3498] at rv3498
        dsimp only at rv3498
        have tv3498 := congrArg Int32.toInt hv3498
        have y3500 : (gI _ 231 23).toInt = (gI _ 231 23).toInt + 1 := hr3491.1
        have pg3501 := PG.cong (hP.1 (by decide)) hI3482 (((gA_sI).trans ((hF3407.2.1 238 ma_X11_must_231_238).trans (hF1791.2.1 238 ma_X11_isSign_231_238)))) (((gA_sI).trans ((hF3407.2.1 239 ma_X11_must_231_239).trans (hF1791.2.1 239 ma_X11_isSign_231_239)))) (((gA_sI).trans ((hF3407.2.1 240 ma_X11_must_231_240).trans (hF1791.2.1 240 ma_X11_isSign_231_240)))) (((gA_sI).trans ((hF3407.2.1 241 ma_X11_must_231_241).trans (hF1791.2.1 241 ma_X11_isSign_231_241)))) (((gI_sI_ne (by decide)).trans ((hF3407.1 231 17 mf_X11_must_231_231_17).trans (hF1791.1 231 17 mf_X11_isSign_231_231_17)))) (((gI_sI_ne (by decide)).trans ((hF3407.1 231 23 mf_X11_must_231_231_23).trans (hF1791.1 231 23 mf_X11_isSign_231_231_23))))
        have pg3502 := PG.push (e' := 0) pg3501 hr3491 (hF3489.2.1 238 ma_X11_push_231_238) (hF3489.2.1 239 ma_X11_push_231_239) (hF3489.1 231 17 mf_X11_push_231_231_17) ⟨by omega, by omega⟩ (Or.inl (by omega)) (by omega) (by omega)
        refine At.enter rfl ?_
        refine q_vret ?_
        refine At.enter rfl ?_
        refine r_iconst 1 rfl ?_
        refine r_ireti ?_
        have x3503 := HI.eqI hI3488 (p := 231) (b := 8) ((((hF3489.1 231 8 mf_X11_push_231_231_8).trans ((gI_sI_ne (by decide)).trans ((hF3407.1 231 8 mf_X11_must_231_231_8).trans (hF1791.1 231 8 mf_X11_isSign_231_231_8)))).trans hv1))
        have x3504 := HI.eqI hI3488 (p := 231) (b := 9) ((((hF3489.1 231 9 mf_X11_push_231_231_9).trans (gI_sI_ne (by decide))).trans hv3418))
        have x3505 := HI.eqI hI3488 (p := 231) (b := 10) ((((hF3489.1 231 10 mf_X11_push_231_231_10).trans (gI_sI_ne (by decide))).trans hv3420))
        have x3506 := HI.eqI hI3488 (p := 231) (b := 11) ((((hF3489.1 231 11 mf_X11_push_231_231_11).trans (gI_sI_ne (by decide))).trans hv3422))
        obtain ⟨v3507, hv3507⟩ : ∃ v, gJ g3405 231 12 = v := ⟨_, rfl⟩
        have x3508 := HI.eqJ hI3488 (b := 12) ((((hF3489.2.2 231 12 mf_X11_push_231_231_12).trans (gJ_sI_ne (by decide))).trans hv3507))
        have x3509 := HI.eqI hI3488 (p := 231) (b := 14) ((((hF3489.1 231 14 mf_X11_push_231_231_14).trans (gI_sI_ne (by decide))).trans hv3424))
        have w263514 := W26.cong c3431 hI3488 (((hF3489.1 231 9 mf_X11_push_231_231_9).trans (gI_sI_ne (by decide)))) (((hF3489.1 231 10 mf_X11_push_231_231_10).trans (gI_sI_ne (by decide)))) (((hF3489.1 231 11 mf_X11_push_231_231_11).trans (gI_sI_ne (by decide)))) (((hF3489.2.2 231 12 mf_X11_push_231_231_12).trans (gJ_sI_ne (by decide))))
        have x3516 := HI.eqI hI3488 (p := 231) (b := 13) ((((hF3489.1 231 13 mf_X11_push_231_231_13).trans (gI_sI_ne (by decide))).trans hv3437))
        obtain ⟨v3518, hv3518⟩ : ∃ v, gI g0 231 15 = v := ⟨_, rfl⟩
        have rv3518 := RgF.at hI0.2.1 (p := 231) (b := 15) rfl
        rw [hv3518] at rv3518
        dsimp only at rv3518
        have tv3518 := congrArg Int32.toInt hv3518
        have x3519 := HI.eqI hI3488 (p := 231) (b := 15) ((((hF3489.1 231 15 mf_X11_push_231_231_15).trans ((gI_sI_ne (by decide)).trans ((hF3407.1 231 15 mf_X11_must_231_231_15).trans (hF1791.1 231 15 mf_X11_isSign_231_231_15)))).trans hv3518))
        obtain ⟨v3520, hv3520⟩ : ∃ v, gI g0 231 20 = v := ⟨_, rfl⟩
        have tv3520 := congrArg Int32.toInt hv3520
        have x3521 := HI.eqI hI3488 (p := 231) (b := 20) ((((hF3489.1 231 20 mf_X11_push_231_231_20).trans ((gI_sI_ne (by decide)).trans ((hF3407.1 231 20 mf_X11_must_231_231_20).trans (hF1791.1 231 20 mf_X11_isSign_231_231_20)))).trans hv3520))
        have x3523 := HI.eqI hI3488 (p := 231) (b := 24) (((hF3489.1 231 24 mf_X11_push_231_231_24).trans (gI_sI_eq hI3406.1 kx_231 rfl _)))
        have x3530 := HI.eqI hI0 (p := 231) (b := 24) (hv3261)
        have y3535 : (gI g3405 231 13).toInt = (gI g0 231 13).toInt := (mu3439.2.1 (show (gI g0 231 14).toInt = 0 from by omega) (by omega)).2.1
        exact ⟨_, rfl, hI3488, hF3492, _, rfl, by decide, ⟨by omega, by omega, by omega, by omega, w263514, by omega, by omega, (fun hbad => ⟨by omega, (PT.mk (fun _ => pg3502) (fun h => by first | exact absurd h (by decide) | (exfalso; omega)) (fun h h9 => by first | exact absurd h (by decide) | (exfalso; omega)) (fun h => by first | exact absurd h (by decide) | (exfalso; omega)))⟩), (fun hbad => by omega), (TKM.c hK3440 (((hF3489.2.1 236 ma_X11_push_231_236).trans (gA_sI))) (((hF3489.1 231 8 mf_X11_push_231_231_8).trans (gI_sI_ne (by decide)))) (((hF3489.1 231 9 mf_X11_push_231_231_9).trans (gI_sI_ne (by decide)))) (((hF3489.1 231 10 mf_X11_push_231_231_10).trans (gI_sI_ne (by decide)))) (((hF3489.1 231 11 mf_X11_push_231_231_11).trans (gI_sI_ne (by decide)))) (((hF3489.2.2 231 12 mf_X11_push_231_231_12).trans (gJ_sI_ne (by decide))))), (fun c0 b hC h => M.sq h (by rw [pI.c (((hF3489.1 231 9 mf_X11_push_231_231_9).trans (gI_sI_ne (by decide))))]; exact (MUSTP.tok hK mu3439 (by omega) (by omega))) (by omega) (show (gI g0 231 24).toInt < 8 from by omega) (PUSH.fr2 hr3491 (((gA_sI).trans ((hF3407.2.1 240 ma_X11_must_231_240).trans (hF1791.2.1 240 ma_X11_isSign_231_240)))) (((gA_sI).trans ((hF3407.2.1 241 ma_X11_must_231_241).trans (hF1791.2.1 241 ma_X11_isSign_231_241)))) (((gI_sI_ne (by decide)).trans ((hF3407.1 231 23 mf_X11_must_231_231_23).trans (hF1791.1 231 23 mf_X11_isSign_231_231_23)))) rfl rfl rfl) rfl (show (gI _ 231 24).toInt = (gI g0 231 24).toInt + 1 from by omega) (show (gI _ 231 20).toInt = (gI g0 231 20).toInt from (by first | exact x3521.trans tv3520.symm | omega)) (show (gI _ 231 15).toInt = (gI g0 231 15).toInt from (by first | exact x3519.trans tv3518.symm | omega)) (fun _ => ⟨show (gI _ 231 14).toInt = 0 from by omega, show (gI _ 231 13).toInt = (gI g0 231 13).toInt from by omega⟩) (fun z => absurd (show (gI g0 231 14).toInt = 0 from (by first | exact h2 | omega)) z)), (fun h14 c0 b K hC h => MG_sq h (by rw [pI.c (((hF3489.1 231 9 mf_X11_push_231_231_9).trans (gI_sI_ne (by decide))))]; exact (MUSTP.tok hK mu3439 (by omega) (by omega))) (by omega) (PUSH.fr2 hr3491 (((gA_sI).trans ((hF3407.2.1 240 ma_X11_must_231_240).trans (hF1791.2.1 240 ma_X11_isSign_231_240)))) (((gA_sI).trans ((hF3407.2.1 241 ma_X11_must_231_241).trans (hF1791.2.1 241 ma_X11_isSign_231_241)))) (((gI_sI_ne (by decide)).trans ((hF3407.1 231 23 mf_X11_must_231_231_23).trans (hF1791.1 231 23 mf_X11_isSign_231_231_23)))) rfl rfl rfl) rfl rfl (SMG_mk (((hF3489.2.1 238 ma_X11_push_231_238).trans ((gA_sI).trans ((hF3407.2.1 238 ma_X11_must_231_238).trans (hF1791.2.1 238 ma_X11_isSign_231_238))))) (((hF3489.2.1 239 ma_X11_push_231_239).trans ((gA_sI).trans ((hF3407.2.1 239 ma_X11_must_231_239).trans (hF1791.2.1 239 ma_X11_isSign_231_239))))) (((hF3489.1 231 17 mf_X11_push_231_231_17).trans ((gI_sI_ne (by decide)).trans ((hF3407.1 231 17 mf_X11_must_231_231_17).trans (hF1791.1 231 17 mf_X11_isSign_231_231_17)))))))⟩⟩
