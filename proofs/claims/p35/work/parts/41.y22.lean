theorem Q_all : ∀ n, QJ n ∧ QP n ∧ QT n := by
  intro n
  induction n with
  | zero => exact ⟨fun e he N g0 hI a1 h1 a2 h2 hm => absurd hm (by omega), fun e he N g0 hI a1 h1 hm => absurd hm (by omega), fun e he N g0 hI a1 h1 hm => absurd hm (by omega)⟩
  | succ n ih => exact ⟨S_X5_readJoined_176 n ih.1 ih.2.1 ih.2.2, S_X5_readPlain_176 n ih.1 ih.2.1 ih.2.2, S_X5_readPart_176 n ih.1 ih.2.1 ih.2.2⟩
theorem T_X5_readJoined_176 (d : Nat) {N : Nat} {g0 : List en_E} (hI0 : HI g0) (a1 : Int32) (h_a1 : 0 ≤ a1.toInt ∧ a1.toInt ≤ 3) (a2 : Int32) (h_a2 : 0 ≤ a2.toInt ∧ a2.toInt ≤ 8) : Ev (d + 420) 65 [.ref 176, .int a1, .int a2] (g0, N) (fun w h' => ∃ g', h' = (g', N) ∧ HI g' ∧ Fr F_rd A_rd g0 g' ∧ w = none) :=
  (Q_all 100).1 (d + 420) (by omega) hI0 a1 h_a1 a2 h_a2 (by omega)

def F_X5_readClause_176 : List (Nat × Nat) := [(176, 2), (176, 3), (176, 4), (176, 5), (176, 6), (177, 0), (177, 3), (177, 4)]
def A_X5_readClause_176 : List Nat := [178, 179, 180, 181, 182, 183]
set_option maxRecDepth 100000 in
set_option maxHeartbeats 4000000 in
theorem T_X5_readClause_176 (d : Nat) {N : Nat} {g0 : List en_E} (hI0 : HI g0) : Ev (d + 421) 64 [.ref 176] (g0, N) (fun w h' => ∃ g', h' = (g', N) ∧ HI g' ∧ Fr F_X5_readClause_176 A_X5_readClause_176 g0 g' ∧ w = none) := by
  have hF0 : Fr F_X5_readClause_176 A_X5_readClause_176 g0 g0 := Fr.rf
  refine Ev.mk rfl rfl ⟨Nat.le_of_ble_eq_true rfl, Or.inr (q_rc hI0.1 kx_176 rfl)⟩ ?_
  show At _ none _ _ (0, [(0, .ref 176)], [], (_, _)) _
  refine At.enter rfl ?_
  refine r_aload_n rfl ?_
  refine r_ldcS (by decide) 1 rfl ?_
  refine r_callV 6 rfl [.ref 176, .float 1] [] (Nat.le_of_ble_eq_true rfl) rfl (T_X5_isWord_176 _ hI0 1 (by decide)) ?_
  rintro _ _ ⟨g413, rfl, hI414, hF415, v416, rfl, hr417⟩
  refine At.sti ?_
  have hF418 := Fr.tr hF0 hF415 rfl rfl
  refine At.enter rfl ?_
  refine r_ifs 9 rfl (fun c419 => ?_) (fun c419 => ?_)
  · have c419_ : v416.toInt = 0 := en_k_eq_t c419
    refine At.enter rfl ?_
    refine r_aload_n rfl ?_
    refine r_ldcS (by decide) 2 rfl ?_
    refine r_callV 19 rfl [.ref 176, .float 2] [] (Nat.le_of_ble_eq_true rfl) rfl (T_X5_isWord_176 _ hI414 2 (by decide)) ?_
    rintro _ _ ⟨g420, rfl, hI421, hF422, v423, rfl, hr424⟩
    refine At.sti ?_
    have hF425 := Fr.tr hF418 hF422 rfl rfl
    refine At.enter rfl ?_
    refine r_ifs 22 rfl (fun c426 => ?_) (fun c426 => ?_)
    · have c426_ : v423.toInt = 0 := en_k_eq_t c426
      refine At.enter rfl ?_
      refine r_aload_n rfl ?_
      refine r_ldcS (by decide) 3 rfl ?_
      refine r_callV 32 rfl [.ref 176, .float 3] [] (Nat.le_of_ble_eq_true rfl) rfl (T_X5_isWord_176 _ hI421 3 (by decide)) ?_
      rintro _ _ ⟨g427, rfl, hI428, hF429, v430, rfl, hr431⟩
      refine At.sti ?_
      have hF432 := Fr.tr hF425 hF429 rfl rfl
      refine At.enter rfl ?_
      refine r_ifs 35 rfl (fun c433 => ?_) (fun c433 => ?_)
      · have c433_ : v430.toInt = 0 := en_k_eq_t c433
        refine At.enter rfl ?_
        refine r_iconst (-1) rfl ?_
        refine Ar.fall 40 rfl ?_
        refine At.enter rfl ?_
        refine r_istore_n ([(1, .int (-1)), (0, .ref 176)]) rfl ?_
        refine r_aload_n rfl ?_
        refine q_getR (Sh.ref hI428.1 kx_176 rfl) ?_
        obtain ⟨v434, hv434⟩ : ∃ v, gI g0 177 3 = v := ⟨_, rfl⟩
        have rv434 := RgF.at hI0.2.1 (p := 177) (b := 3) rfl
        rw [hv434] at rv434
        dsimp only at rv434
        refine q_getI (Sh.int hI428.1 kx_177 rfl) v434 (((hF429.1 177 3 (by decide)).trans ((hF422.1 177 3 (by decide)).trans (hF415.1 177 3 (by decide)))).trans hv434) ?_
        refine r_istore_n ([(2, .int v434), (1, .int (-1)), (0, .ref 176)]) rfl ?_
        refine r_iload_n rfl ?_
        refine r_iconst (-1) rfl ?_
        refine r_ict (by decide) ?_
        refine At.enter rfl ?_
        refine r_aload_n rfl ?_
        refine q_inlV 64 rfl [.ref 176] [] (Nat.le_of_ble_eq_true rfl) rfl ?_
        refine Ev.mk rfl rfl ⟨Nat.le_of_ble_eq_true rfl, Or.inr (q_rc hI428.1 kx_176 rfl)⟩ ?_
        show At _ none _ _ (0, [(0, .ref 176)], [], (_, _)) _
        refine At.enter rfl ?_
        refine r_aload_n rfl ?_
        obtain ⟨v435, hv435⟩ : ∃ v, gI g0 176 2 = v := ⟨_, rfl⟩
        refine q_getI (Sh.int hI428.1 kx_176 rfl) v435 (((hF429.1 176 2 (by decide)).trans ((hF422.1 176 2 (by decide)).trans (hF415.1 176 2 (by decide)))).trans hv435) ?_
        refine r_iconst (-1) rfl ?_
        refine r_ics 8 rfl (fun c436 => ?_) (fun c436 => ?_)
        · have c436_ : v435.toInt ≠ (-1) := en_i_ne_t c436
          refine At.enter rfl ?_
          refine q_vret ?_
          refine At.enter rfl ?_
          refine r_vret ?_
          exact ⟨_, rfl, hI428, hF432, rfl⟩
        · have c436_ : v435.toInt = (-1) := en_i_ne_f c436
          refine At.enter rfl ?_
          refine r_aload_n rfl ?_
          refine r_aload_n rfl ?_
          obtain ⟨v437, hv437⟩ : ∃ v, gI g0 176 4 = v := ⟨_, rfl⟩
          have rv437 := RgF.at hI0.2.1 (p := 176) (b := 4) rfl
          rw [hv437] at rv437
          dsimp only at rv437
          refine q_getI (Sh.int hI428.1 kx_176 rfl) v437 (((hF429.1 176 4 (by decide)).trans ((hF422.1 176 4 (by decide)).trans (hF415.1 176 4 (by decide)))).trans hv437) ?_
          refine q_putI (Sh.int hI428.1 kx_176 rfl) rfl ?_
          have hI438 := HI.wI0 hI428 kx_176 rfl (p := 176) (b := 2) (v := v437) rfl
          have hF439 := Fr.wI (p := 176) (b := 2) (v := v437) hF432 rfl
          refine Ar.fall 16 rfl ?_
          refine At.enter rfl ?_
          refine q_vret ?_
          refine At.enter rfl ?_
          refine r_vret ?_
          exact ⟨_, rfl, hI438, hF439, rfl⟩
      · have c433_ : v430.toInt ≠ 0 := en_k_eq_f c433
        refine At.enter rfl ?_
        refine r_iconst 2 rfl ?_
        refine r_goto ?_
        refine At.enter rfl ?_
        refine r_istore_n ([(1, .int 2), (0, .ref 176)]) rfl ?_
        refine r_aload_n rfl ?_
        refine q_getR (Sh.ref hI428.1 kx_176 rfl) ?_
        obtain ⟨v440, hv440⟩ : ∃ v, gI g0 177 3 = v := ⟨_, rfl⟩
        have rv440 := RgF.at hI0.2.1 (p := 177) (b := 3) rfl
        rw [hv440] at rv440
        dsimp only at rv440
        refine q_getI (Sh.int hI428.1 kx_177 rfl) v440 (((hF429.1 177 3 (by decide)).trans ((hF422.1 177 3 (by decide)).trans (hF415.1 177 3 (by decide)))).trans hv440) ?_
        refine r_istore_n ([(2, .int v440), (1, .int 2), (0, .ref 176)]) rfl ?_
        refine r_iload_n rfl ?_
        refine r_iconst (-1) rfl ?_
        refine r_icf 54 rfl (by decide) ?_
        refine At.enter rfl ?_
        refine r_iload_n rfl ?_
        refine r_bipush 12 rfl ?_
        refine r_ics 60 rfl (fun c441 => ?_) (fun c441 => ?_)
        · have c441_ : v440.toInt < 12 := en_i_lt_t c441
          refine At.enter rfl ?_
          refine r_aload_n rfl ?_
          refine r_callV 69 rfl [.ref 176] [] (Nat.le_of_ble_eq_true rfl) rfl (T_X5_step_176 _ hI428) ?_
          rintro _ _ ⟨g442, rfl, hI443, hF444, rfl⟩
          refine At.stn ?_
          have hF447 := Fr.tr hF432 hF444 rfl rfl
          refine At.enter rfl ?_
          refine r_aload_n rfl ?_
          refine q_getR (Sh.ref hI443.1 kx_176 rfl) ?_
          refine r_iload_n rfl ?_
          refine r_iconst 1 rfl ?_
          refine q_iadd (v440.toInt + 1) rfl (by omega) (fun v448 hv448 => ?_)
          refine q_putI (Sh.int hI443.1 kx_177 rfl) rfl ?_
          have hI449 := HI.wI1 hI443 kx_177 rfl (p := 177) (b := 3) (v := v448) rfl (by dsimp only; omega)
          have hF450 := Fr.wI (p := 177) (b := 3) (v := v448) hF447 rfl
          refine r_aload_n rfl ?_
          refine q_getR (Sh.ref hI449.1 kx_176 rfl) ?_
          refine q_getR (Sh.ref hI449.1 kx_177 rfl) ?_
          refine r_iload_n rfl ?_
          refine r_iload_n rfl ?_
          refine q_iast (Sh.arr hI449.1 ka_180) (v440.toInt) rfl (by omega) ?_
          have hI451 := HI.wA0 hI449 ka_180 (p := 180) rfl rfl (v440.toInt) (2)
          have hF452 := Fr.wA (p := 180) (j := v440.toInt) (v := 2) hF450 rfl
          refine r_aload_n rfl ?_
          refine q_getR (Sh.ref hI451.1 kx_176 rfl) ?_
          refine r_dup rfl ?_
          obtain ⟨v453, hv453⟩ : ∃ v, gI g0 177 4 = v := ⟨_, rfl⟩
          refine q_getI (Sh.int hI451.1 kx_177 rfl) v453 (((gI_sW).trans ((gI_sI_ne (by decide)).trans ((hF444.1 177 4 (by decide)).trans ((hF429.1 177 4 (by decide)).trans ((hF422.1 177 4 (by decide)).trans (hF415.1 177 4 (by decide))))))).trans hv453) ?_
          refine r_iconst 1 rfl ?_
          refine r_iload_n rfl ?_
          refine r_ishl 4 (by decide) ?_
          refine q_iorO (fun v454 hv454 => ?_)
          refine q_putI (Sh.int hI451.1 kx_177 rfl) rfl ?_
          have hI455 := HI.wI0 hI451 kx_177 rfl (p := 177) (b := 4) (v := v454) rfl
          have hF456 := Fr.wI (p := 177) (b := 4) (v := v454) hF452 rfl
          refine r_aload_n rfl ?_
          refine q_getR (Sh.ref hI455.1 kx_176 rfl) ?_
          refine q_getR (Sh.ref hI455.1 kx_177 rfl) ?_
          refine r_iload_n rfl ?_
          refine r_aload_n rfl ?_
          refine q_getR (Sh.ref hI455.1 kx_176 rfl) ?_
          obtain ⟨v457, hv457⟩ : ∃ v, gI g0 177 0 = v := ⟨_, rfl⟩
          have rv457 := RgF.at hI0.2.1 (p := 177) (b := 0) rfl
          rw [hv457] at rv457
          dsimp only at rv457
          refine q_getI (Sh.int hI455.1 kx_177 rfl) v457 (((gI_sI_ne (by decide)).trans ((gI_sW).trans ((gI_sI_ne (by decide)).trans ((hF444.1 177 0 (by decide)).trans ((hF429.1 177 0 (by decide)).trans ((hF422.1 177 0 (by decide)).trans (hF415.1 177 0 (by decide)))))))).trans hv457) ?_
          refine q_iast (Sh.arr hI455.1 ka_181) (v440.toInt) rfl (by omega) ?_
          have hI458 := HI.wA0 hI455 ka_181 (p := 181) rfl rfl (v440.toInt) (v457)
          have hF459 := Fr.wA (p := 181) (j := v440.toInt) (v := v457) hF456 rfl
          refine r_iload_n rfl ?_
          refine r_iconst 2 rfl ?_
          refine r_ict (by decide) ?_
          refine At.enter rfl ?_
          refine r_aload_n rfl ?_
          refine q_getR (Sh.ref hI458.1 kx_176 rfl) ?_
          refine q_getR (Sh.ref hI458.1 kx_177 rfl) ?_
          refine r_iload_n rfl ?_
          refine r_aload_n rfl ?_
          refine q_getR (Sh.ref hI458.1 kx_176 rfl) ?_
          refine q_getI (Sh.int hI458.1 kx_177 rfl) v457 (((gI_sW).trans ((gI_sI_ne (by decide)).trans ((gI_sW).trans ((gI_sI_ne (by decide)).trans ((hF444.1 177 0 (by decide)).trans ((hF429.1 177 0 (by decide)).trans ((hF422.1 177 0 (by decide)).trans (hF415.1 177 0 (by decide))))))))).trans hv457) ?_
          refine q_iast (Sh.arr hI458.1 ka_182) (v440.toInt) rfl (by omega) ?_
          have hI460 := HI.wA0 hI458 ka_182 (p := 182) rfl rfl (v440.toInt) (v457)
          have hF461 := Fr.wA (p := 182) (j := v440.toInt) (v := v457) hF459 rfl
          refine r_aload_n rfl ?_
          obtain ⟨v462, hv462⟩ : ∃ v, gI g0 176 2 = v := ⟨_, rfl⟩
          refine q_getI (Sh.int hI460.1 kx_176 rfl) v462 (((gI_sW).trans ((gI_sW).trans ((gI_sI_ne (by decide)).trans ((gI_sW).trans ((gI_sI_ne (by decide)).trans ((hF444.1 176 2 (by decide)).trans ((hF429.1 176 2 (by decide)).trans ((hF422.1 176 2 (by decide)).trans (hF415.1 176 2 (by decide)))))))))).trans hv462) ?_
          refine r_iconst (-1) rfl ?_
          refine r_ics 155 rfl (fun c463 => ?_) (fun c463 => ?_)
          · have c463_ : v462.toInt ≠ (-1) := en_i_ne_t c463
            refine At.enter rfl ?_
            refine r_aload_n rfl ?_
            refine q_getR (Sh.ref hI460.1 kx_176 rfl) ?_
            refine q_getR (Sh.ref hI460.1 kx_177 rfl) ?_
            refine r_iload_n rfl ?_
            refine r_aload_n rfl ?_
            refine q_getR (Sh.ref hI460.1 kx_176 rfl) ?_
            refine q_getI (Sh.int hI460.1 kx_177 rfl) v457 (((gI_sW).trans ((gI_sW).trans ((gI_sI_ne (by decide)).trans ((gI_sW).trans ((gI_sI_ne (by decide)).trans ((hF444.1 177 0 (by decide)).trans ((hF429.1 177 0 (by decide)).trans ((hF422.1 177 0 (by decide)).trans (hF415.1 177 0 (by decide)))))))))).trans hv457) ?_
            refine q_iast (Sh.arr hI460.1 ka_183) (v440.toInt) rfl (by omega) ?_
            have hI464 := HI.wA0 hI460 ka_183 (p := 183) rfl rfl (v440.toInt) (v457)
            have hF465 := Fr.wA (p := 183) (j := v440.toInt) (v := v457) hF461 rfl
            refine r_vret ?_
            exact ⟨_, rfl, hI464, hF465, rfl⟩
          · have c463_ : v462.toInt = (-1) := en_i_ne_f c463
            refine At.enter rfl ?_
            refine r_aload_n rfl ?_
            refine r_ldcS (by decide) 17 rfl ?_
            refine r_callV 161 rfl [.ref 176, .float 17] [] (Nat.le_of_ble_eq_true rfl) rfl (T_X5_isWord_176 _ hI460 17 (by decide)) ?_
            rintro _ _ ⟨g466, rfl, hI467, hF468, v469, rfl, hr470⟩
            refine At.sti ?_
            have hF471 := Fr.tr hF461 hF468 rfl rfl
            refine At.enter rfl ?_
            refine r_ifs 164 rfl (fun c472 => ?_) (fun c472 => ?_)
            · have c472_ : v469.toInt = 0 := en_k_eq_t c472
              refine At.enter rfl ?_
              refine r_aload_n rfl ?_
              refine q_getR (Sh.ref hI467.1 kx_176 rfl) ?_
              refine q_getR (Sh.ref hI467.1 kx_177 rfl) ?_
              refine r_iload_n rfl ?_
              refine r_aload_n rfl ?_
              refine q_getR (Sh.ref hI467.1 kx_176 rfl) ?_
              refine q_getI (Sh.int hI467.1 kx_177 rfl) v457 (((hF468.1 177 0 (by decide)).trans ((gI_sW).trans ((gI_sW).trans ((gI_sI_ne (by decide)).trans ((gI_sW).trans ((gI_sI_ne (by decide)).trans ((hF444.1 177 0 (by decide)).trans ((hF429.1 177 0 (by decide)).trans ((hF422.1 177 0 (by decide)).trans (hF415.1 177 0 (by decide))))))))))).trans hv457) ?_
              refine q_iast (Sh.arr hI467.1 ka_183) (v440.toInt) rfl (by omega) ?_
              have hI473 := HI.wA0 hI467 ka_183 (p := 183) rfl rfl (v440.toInt) (v457)
              have hF474 := Fr.wA (p := 183) (j := v440.toInt) (v := v457) hF471 rfl
              refine r_vret ?_
              exact ⟨_, rfl, hI473, hF474, rfl⟩
            · have c472_ : v469.toInt ≠ 0 := en_k_eq_f c472
              refine At.enter rfl ?_
              refine r_aload_n rfl ?_
              refine r_callV 168 rfl [.ref 176] [] (Nat.le_of_ble_eq_true rfl) rfl (T_X5_step_176 _ hI467) ?_
              rintro _ _ ⟨g475, rfl, hI476, hF477, rfl⟩
              refine At.stn ?_
              have hF480 := Fr.tr hF471 hF477 rfl rfl
              refine At.enter rfl ?_
              refine r_aload_n rfl ?_
              refine r_iconst 0 rfl ?_
              refine r_iconst 0 rfl ?_
              refine r_callV 174 rfl [.ref 176, .int 0, .int 0] [] (Nat.le_of_ble_eq_true rfl) rfl (T_X5_readJoined_176 _ hI476 0 (by decide) 0 (by decide)) ?_
              rintro _ _ ⟨g481, rfl, hI482, hF483, rfl⟩
              refine At.stn ?_
              have hF486 := Fr.tr hF480 hF483 rfl rfl
              refine At.enter rfl ?_
              refine r_aload_n rfl ?_
              refine q_getR (Sh.ref hI482.1 kx_176 rfl) ?_
              refine q_getR (Sh.ref hI482.1 kx_177 rfl) ?_
              refine r_iload_n rfl ?_
              refine r_aload_n rfl ?_
              refine q_getR (Sh.ref hI482.1 kx_176 rfl) ?_
              obtain ⟨v487, hv487⟩ : ∃ v, gI g481 177 0 = v := ⟨_, rfl⟩
              have rv487 := RgF.at hI482.2.1 (p := 177) (b := 0) rfl
              rw [hv487] at rv487
              dsimp only at rv487
              refine q_getI (Sh.int hI482.1 kx_177 rfl) v487 hv487 ?_
              refine q_iast (Sh.arr hI482.1 ka_183) (v440.toInt) rfl (by omega) ?_
              have hI488 := HI.wA0 hI482 ka_183 (p := 183) rfl rfl (v440.toInt) (v487)
              have hF489 := Fr.wA (p := 183) (j := v440.toInt) (v := v487) hF486 rfl
              refine r_vret ?_
              exact ⟨_, rfl, hI488, hF489, rfl⟩
        · have c441_ : v440.toInt ≥ 12 := en_i_lt_f c441
          refine At.enter rfl ?_
          refine r_aload_n rfl ?_
          refine q_inlV 64 rfl [.ref 176] [] (Nat.le_of_ble_eq_true rfl) rfl ?_
          refine Ev.mk rfl rfl ⟨Nat.le_of_ble_eq_true rfl, Or.inr (q_rc hI428.1 kx_176 rfl)⟩ ?_
          show At _ none _ _ (0, [(0, .ref 176)], [], (_, _)) _
          refine At.enter rfl ?_
          refine r_aload_n rfl ?_
          obtain ⟨v490, hv490⟩ : ∃ v, gI g0 176 2 = v := ⟨_, rfl⟩
          refine q_getI (Sh.int hI428.1 kx_176 rfl) v490 (((hF429.1 176 2 (by decide)).trans ((hF422.1 176 2 (by decide)).trans (hF415.1 176 2 (by decide)))).trans hv490) ?_
          refine r_iconst (-1) rfl ?_
          refine r_ics 8 rfl (fun c491 => ?_) (fun c491 => ?_)
          · have c491_ : v490.toInt ≠ (-1) := en_i_ne_t c491
            refine At.enter rfl ?_
            refine q_vret ?_
            refine At.enter rfl ?_
            refine r_vret ?_
            exact ⟨_, rfl, hI428, hF432, rfl⟩
          · have c491_ : v490.toInt = (-1) := en_i_ne_f c491
            refine At.enter rfl ?_
            refine r_aload_n rfl ?_
            refine r_aload_n rfl ?_
            obtain ⟨v492, hv492⟩ : ∃ v, gI g0 176 4 = v := ⟨_, rfl⟩
            have rv492 := RgF.at hI0.2.1 (p := 176) (b := 4) rfl
            rw [hv492] at rv492
            dsimp only at rv492
            refine q_getI (Sh.int hI428.1 kx_176 rfl) v492 (((hF429.1 176 4 (by decide)).trans ((hF422.1 176 4 (by decide)).trans (hF415.1 176 4 (by decide)))).trans hv492) ?_
            refine q_putI (Sh.int hI428.1 kx_176 rfl) rfl ?_
            have hI493 := HI.wI0 hI428 kx_176 rfl (p := 176) (b := 2) (v := v492) rfl
            have hF494 := Fr.wI (p := 176) (b := 2) (v := v492) hF432 rfl
            refine Ar.fall 16 rfl ?_
            refine At.enter rfl ?_
            refine q_vret ?_
            refine At.enter rfl ?_
            refine r_vret ?_
            exact ⟨_, rfl, hI493, hF494, rfl⟩
    · have c426_ : v423.toInt ≠ 0 := en_k_eq_f c426
      refine At.enter rfl ?_
      refine r_iconst 1 rfl ?_
      refine r_goto ?_
      refine At.enter rfl ?_
      refine r_istore_n ([(1, .int 1), (0, .ref 176)]) rfl ?_
      refine r_aload_n rfl ?_
      refine q_getR (Sh.ref hI421.1 kx_176 rfl) ?_
      obtain ⟨v495, hv495⟩ : ∃ v, gI g0 177 3 = v := ⟨_, rfl⟩
      have rv495 := RgF.at hI0.2.1 (p := 177) (b := 3) rfl
      rw [hv495] at rv495
      dsimp only at rv495
      refine q_getI (Sh.int hI421.1 kx_177 rfl) v495 (((hF422.1 177 3 (by decide)).trans (hF415.1 177 3 (by decide))).trans hv495) ?_
      refine r_istore_n ([(2, .int v495), (1, .int 1), (0, .ref 176)]) rfl ?_
      refine r_iload_n rfl ?_
      refine r_iconst (-1) rfl ?_
      refine r_icf 54 rfl (by decide) ?_
      refine At.enter rfl ?_
      refine r_iload_n rfl ?_
      refine r_bipush 12 rfl ?_
      refine r_ics 60 rfl (fun c496 => ?_) (fun c496 => ?_)
      · have c496_ : v495.toInt < 12 := en_i_lt_t c496
        refine At.enter rfl ?_
        refine r_aload_n rfl ?_
        refine r_callV 69 rfl [.ref 176] [] (Nat.le_of_ble_eq_true rfl) rfl (T_X5_step_176 _ hI421) ?_
        rintro _ _ ⟨g497, rfl, hI498, hF499, rfl⟩
        refine At.stn ?_
        have hF502 := Fr.tr hF425 hF499 rfl rfl
        refine At.enter rfl ?_
        refine r_aload_n rfl ?_
        refine q_getR (Sh.ref hI498.1 kx_176 rfl) ?_
        refine r_iload_n rfl ?_
        refine r_iconst 1 rfl ?_
        refine q_iadd (v495.toInt + 1) rfl (by omega) (fun v503 hv503 => ?_)
        refine q_putI (Sh.int hI498.1 kx_177 rfl) rfl ?_
        have hI504 := HI.wI1 hI498 kx_177 rfl (p := 177) (b := 3) (v := v503) rfl (by dsimp only; omega)
        have hF505 := Fr.wI (p := 177) (b := 3) (v := v503) hF502 rfl
        refine r_aload_n rfl ?_
        refine q_getR (Sh.ref hI504.1 kx_176 rfl) ?_
        refine q_getR (Sh.ref hI504.1 kx_177 rfl) ?_
        refine r_iload_n rfl ?_
        refine r_iload_n rfl ?_
        refine q_iast (Sh.arr hI504.1 ka_180) (v495.toInt) rfl (by omega) ?_
        have hI506 := HI.wA0 hI504 ka_180 (p := 180) rfl rfl (v495.toInt) (1)
        have hF507 := Fr.wA (p := 180) (j := v495.toInt) (v := 1) hF505 rfl
        refine r_aload_n rfl ?_
        refine q_getR (Sh.ref hI506.1 kx_176 rfl) ?_
        refine r_dup rfl ?_
        obtain ⟨v508, hv508⟩ : ∃ v, gI g0 177 4 = v := ⟨_, rfl⟩
        refine q_getI (Sh.int hI506.1 kx_177 rfl) v508 (((gI_sW).trans ((gI_sI_ne (by decide)).trans ((hF499.1 177 4 (by decide)).trans ((hF422.1 177 4 (by decide)).trans (hF415.1 177 4 (by decide)))))).trans hv508) ?_
        refine r_iconst 1 rfl ?_
        refine r_iload_n rfl ?_
        refine r_ishl 2 (by decide) ?_
        refine q_iorO (fun v509 hv509 => ?_)
        refine q_putI (Sh.int hI506.1 kx_177 rfl) rfl ?_
        have hI510 := HI.wI0 hI506 kx_177 rfl (p := 177) (b := 4) (v := v509) rfl
        have hF511 := Fr.wI (p := 177) (b := 4) (v := v509) hF507 rfl
        refine r_aload_n rfl ?_
        refine q_getR (Sh.ref hI510.1 kx_176 rfl) ?_
        refine q_getR (Sh.ref hI510.1 kx_177 rfl) ?_
        refine r_iload_n rfl ?_
        refine r_aload_n rfl ?_
        refine q_getR (Sh.ref hI510.1 kx_176 rfl) ?_
        obtain ⟨v512, hv512⟩ : ∃ v, gI g0 177 0 = v := ⟨_, rfl⟩
        have rv512 := RgF.at hI0.2.1 (p := 177) (b := 0) rfl
        rw [hv512] at rv512
        dsimp only at rv512
        refine q_getI (Sh.int hI510.1 kx_177 rfl) v512 (((gI_sI_ne (by decide)).trans ((gI_sW).trans ((gI_sI_ne (by decide)).trans ((hF499.1 177 0 (by decide)).trans ((hF422.1 177 0 (by decide)).trans (hF415.1 177 0 (by decide))))))).trans hv512) ?_
        refine q_iast (Sh.arr hI510.1 ka_181) (v495.toInt) rfl (by omega) ?_
        have hI513 := HI.wA0 hI510 ka_181 (p := 181) rfl rfl (v495.toInt) (v512)
        have hF514 := Fr.wA (p := 181) (j := v495.toInt) (v := v512) hF511 rfl
        refine r_iload_n rfl ?_
        refine r_iconst 2 rfl ?_
        refine r_icf 125 rfl (by decide) ?_
        refine At.enter rfl ?_
        refine r_aload_n rfl ?_
        refine r_iconst 2 rfl ?_
        refine r_iconst 0 rfl ?_
        refine r_callV 131 rfl [.ref 176, .int 2, .int 0] [] (Nat.le_of_ble_eq_true rfl) rfl (T_X5_readJoined_176 _ hI513 2 (by decide) 0 (by decide)) ?_
        rintro _ _ ⟨g515, rfl, hI516, hF517, rfl⟩
        refine At.stn ?_
        have hF520 := Fr.tr hF514 hF517 rfl rfl
        refine At.enter rfl ?_
        refine r_aload_n rfl ?_
        refine q_getR (Sh.ref hI516.1 kx_176 rfl) ?_
        refine q_getR (Sh.ref hI516.1 kx_177 rfl) ?_
        refine r_iload_n rfl ?_
        refine r_aload_n rfl ?_
        refine q_getR (Sh.ref hI516.1 kx_176 rfl) ?_
        obtain ⟨v521, hv521⟩ : ∃ v, gI g515 177 0 = v := ⟨_, rfl⟩
        have rv521 := RgF.at hI516.2.1 (p := 177) (b := 0) rfl
        rw [hv521] at rv521
        dsimp only at rv521
        refine q_getI (Sh.int hI516.1 kx_177 rfl) v521 hv521 ?_
        refine q_iast (Sh.arr hI516.1 ka_182) (v495.toInt) rfl (by omega) ?_
        have hI522 := HI.wA0 hI516 ka_182 (p := 182) rfl rfl (v495.toInt) (v521)
        have hF523 := Fr.wA (p := 182) (j := v495.toInt) (v := v521) hF520 rfl
        refine r_aload_n rfl ?_
        obtain ⟨v524, hv524⟩ : ∃ v, gI g515 176 2 = v := ⟨_, rfl⟩
        refine q_getI (Sh.int hI522.1 kx_176 rfl) v524 ((gI_sW).trans hv524) ?_
        refine r_iconst (-1) rfl ?_
        refine r_ics 155 rfl (fun c525 => ?_) (fun c525 => ?_)
        · have c525_ : v524.toInt ≠ (-1) := en_i_ne_t c525
          refine At.enter rfl ?_
          refine r_aload_n rfl ?_
          refine q_getR (Sh.ref hI522.1 kx_176 rfl) ?_
          refine q_getR (Sh.ref hI522.1 kx_177 rfl) ?_
          refine r_iload_n rfl ?_
          refine r_aload_n rfl ?_
          refine q_getR (Sh.ref hI522.1 kx_176 rfl) ?_
          refine q_getI (Sh.int hI522.1 kx_177 rfl) v521 ((gI_sW).trans hv521) ?_
          refine q_iast (Sh.arr hI522.1 ka_183) (v495.toInt) rfl (by omega) ?_
          have hI526 := HI.wA0 hI522 ka_183 (p := 183) rfl rfl (v495.toInt) (v521)
          have hF527 := Fr.wA (p := 183) (j := v495.toInt) (v := v521) hF523 rfl
          refine r_vret ?_
          exact ⟨_, rfl, hI526, hF527, rfl⟩
        · have c525_ : v524.toInt = (-1) := en_i_ne_f c525
          refine At.enter rfl ?_
          refine r_aload_n rfl ?_
          refine r_ldcS (by decide) 17 rfl ?_
          refine r_callV 161 rfl [.ref 176, .float 17] [] (Nat.le_of_ble_eq_true rfl) rfl (T_X5_isWord_176 _ hI522 17 (by decide)) ?_
          rintro _ _ ⟨g528, rfl, hI529, hF530, v531, rfl, hr532⟩
          refine At.sti ?_
          have hF533 := Fr.tr hF523 hF530 rfl rfl
          refine At.enter rfl ?_
          refine r_ifs 164 rfl (fun c534 => ?_) (fun c534 => ?_)
          · have c534_ : v531.toInt = 0 := en_k_eq_t c534
            refine At.enter rfl ?_
            refine r_aload_n rfl ?_
            refine q_getR (Sh.ref hI529.1 kx_176 rfl) ?_
            refine q_getR (Sh.ref hI529.1 kx_177 rfl) ?_
            refine r_iload_n rfl ?_
            refine r_aload_n rfl ?_
            refine q_getR (Sh.ref hI529.1 kx_176 rfl) ?_
            refine q_getI (Sh.int hI529.1 kx_177 rfl) v521 (((hF530.1 177 0 (by decide)).trans (gI_sW)).trans hv521) ?_
            refine q_iast (Sh.arr hI529.1 ka_183) (v495.toInt) rfl (by omega) ?_
            have hI535 := HI.wA0 hI529 ka_183 (p := 183) rfl rfl (v495.toInt) (v521)
            have hF536 := Fr.wA (p := 183) (j := v495.toInt) (v := v521) hF533 rfl
            refine r_vret ?_
            exact ⟨_, rfl, hI535, hF536, rfl⟩
          · have c534_ : v531.toInt ≠ 0 := en_k_eq_f c534
            refine At.enter rfl ?_
            refine r_aload_n rfl ?_
            refine r_callV 168 rfl [.ref 176] [] (Nat.le_of_ble_eq_true rfl) rfl (T_X5_step_176 _ hI529) ?_
            rintro _ _ ⟨g537, rfl, hI538, hF539, rfl⟩
            refine At.stn ?_
            have hF542 := Fr.tr hF533 hF539 rfl rfl
            refine At.enter rfl ?_
            refine r_aload_n rfl ?_
            refine r_iconst 0 rfl ?_
            refine r_iconst 0 rfl ?_
            refine r_callV 174 rfl [.ref 176, .int 0, .int 0] [] (Nat.le_of_ble_eq_true rfl) rfl (T_X5_readJoined_176 _ hI538 0 (by decide) 0 (by decide)) ?_
            rintro _ _ ⟨g543, rfl, hI544, hF545, rfl⟩
            refine At.stn ?_
            have hF548 := Fr.tr hF542 hF545 rfl rfl
            refine At.enter rfl ?_
            refine r_aload_n rfl ?_
            refine q_getR (Sh.ref hI544.1 kx_176 rfl) ?_
            refine q_getR (Sh.ref hI544.1 kx_177 rfl) ?_
            refine r_iload_n rfl ?_
            refine r_aload_n rfl ?_
            refine q_getR (Sh.ref hI544.1 kx_176 rfl) ?_
            obtain ⟨v549, hv549⟩ : ∃ v, gI g543 177 0 = v := ⟨_, rfl⟩
            have rv549 := RgF.at hI544.2.1 (p := 177) (b := 0) rfl
            rw [hv549] at rv549
            dsimp only at rv549
            refine q_getI (Sh.int hI544.1 kx_177 rfl) v549 hv549 ?_
            refine q_iast (Sh.arr hI544.1 ka_183) (v495.toInt) rfl (by omega) ?_
            have hI550 := HI.wA0 hI544 ka_183 (p := 183) rfl rfl (v495.toInt) (v549)
            have hF551 := Fr.wA (p := 183) (j := v495.toInt) (v := v549) hF548 rfl
            refine r_vret ?_
            exact ⟨_, rfl, hI550, hF551, rfl⟩
      · have c496_ : v495.toInt ≥ 12 := en_i_lt_f c496
        refine At.enter rfl ?_
        refine r_aload_n rfl ?_
        refine q_inlV 64 rfl [.ref 176] [] (Nat.le_of_ble_eq_true rfl) rfl ?_
        refine Ev.mk rfl rfl ⟨Nat.le_of_ble_eq_true rfl, Or.inr (q_rc hI421.1 kx_176 rfl)⟩ ?_
        show At _ none _ _ (0, [(0, .ref 176)], [], (_, _)) _
        refine At.enter rfl ?_
        refine r_aload_n rfl ?_
        obtain ⟨v552, hv552⟩ : ∃ v, gI g0 176 2 = v := ⟨_, rfl⟩
        refine q_getI (Sh.int hI421.1 kx_176 rfl) v552 (((hF422.1 176 2 (by decide)).trans (hF415.1 176 2 (by decide))).trans hv552) ?_
        refine r_iconst (-1) rfl ?_
        refine r_ics 8 rfl (fun c553 => ?_) (fun c553 => ?_)
        · have c553_ : v552.toInt ≠ (-1) := en_i_ne_t c553
          refine At.enter rfl ?_
          refine q_vret ?_
          refine At.enter rfl ?_
          refine r_vret ?_
          exact ⟨_, rfl, hI421, hF425, rfl⟩
        · have c553_ : v552.toInt = (-1) := en_i_ne_f c553
          refine At.enter rfl ?_
          refine r_aload_n rfl ?_
          refine r_aload_n rfl ?_
          obtain ⟨v554, hv554⟩ : ∃ v, gI g0 176 4 = v := ⟨_, rfl⟩
          have rv554 := RgF.at hI0.2.1 (p := 176) (b := 4) rfl
          rw [hv554] at rv554
          dsimp only at rv554
          refine q_getI (Sh.int hI421.1 kx_176 rfl) v554 (((hF422.1 176 4 (by decide)).trans (hF415.1 176 4 (by decide))).trans hv554) ?_
          refine q_putI (Sh.int hI421.1 kx_176 rfl) rfl ?_
          have hI555 := HI.wI0 hI421 kx_176 rfl (p := 176) (b := 2) (v := v554) rfl
          have hF556 := Fr.wI (p := 176) (b := 2) (v := v554) hF425 rfl
          refine Ar.fall 16 rfl ?_
          refine At.enter rfl ?_
          refine q_vret ?_
          refine At.enter rfl ?_
          refine r_vret ?_
          exact ⟨_, rfl, hI555, hF556, rfl⟩
  · have c419_ : v416.toInt ≠ 0 := en_k_eq_f c419
    refine At.enter rfl ?_
    refine r_iconst 0 rfl ?_
    refine r_goto ?_
    refine At.enter rfl ?_
    refine r_istore_n ([(1, .int 0), (0, .ref 176)]) rfl ?_
    refine r_aload_n rfl ?_
    refine q_getR (Sh.ref hI414.1 kx_176 rfl) ?_
    obtain ⟨v557, hv557⟩ : ∃ v, gI g0 177 3 = v := ⟨_, rfl⟩
    have rv557 := RgF.at hI0.2.1 (p := 177) (b := 3) rfl
    rw [hv557] at rv557
    dsimp only at rv557
    refine q_getI (Sh.int hI414.1 kx_177 rfl) v557 ((hF415.1 177 3 (by decide)).trans hv557) ?_
    refine r_istore_n ([(2, .int v557), (1, .int 0), (0, .ref 176)]) rfl ?_
    refine r_iload_n rfl ?_
    refine r_iconst (-1) rfl ?_
    refine r_icf 54 rfl (by decide) ?_
    refine At.enter rfl ?_
    refine r_iload_n rfl ?_
    refine r_bipush 12 rfl ?_
    refine r_ics 60 rfl (fun c558 => ?_) (fun c558 => ?_)
    · have c558_ : v557.toInt < 12 := en_i_lt_t c558
      refine At.enter rfl ?_
      refine r_aload_n rfl ?_
      refine r_callV 69 rfl [.ref 176] [] (Nat.le_of_ble_eq_true rfl) rfl (T_X5_step_176 _ hI414) ?_
      rintro _ _ ⟨g559, rfl, hI560, hF561, rfl⟩
      refine At.stn ?_
      have hF564 := Fr.tr hF418 hF561 rfl rfl
      refine At.enter rfl ?_
      refine r_aload_n rfl ?_
      refine q_getR (Sh.ref hI560.1 kx_176 rfl) ?_
      refine r_iload_n rfl ?_
      refine r_iconst 1 rfl ?_
      refine q_iadd (v557.toInt + 1) rfl (by omega) (fun v565 hv565 => ?_)
      refine q_putI (Sh.int hI560.1 kx_177 rfl) rfl ?_
      have hI566 := HI.wI1 hI560 kx_177 rfl (p := 177) (b := 3) (v := v565) rfl (by dsimp only; omega)
      have hF567 := Fr.wI (p := 177) (b := 3) (v := v565) hF564 rfl
      refine r_aload_n rfl ?_
      refine q_getR (Sh.ref hI566.1 kx_176 rfl) ?_
      refine q_getR (Sh.ref hI566.1 kx_177 rfl) ?_
      refine r_iload_n rfl ?_
      refine r_iload_n rfl ?_
      refine q_iast (Sh.arr hI566.1 ka_180) (v557.toInt) rfl (by omega) ?_
      have hI568 := HI.wA0 hI566 ka_180 (p := 180) rfl rfl (v557.toInt) (0)
      have hF569 := Fr.wA (p := 180) (j := v557.toInt) (v := 0) hF567 rfl
      refine r_aload_n rfl ?_
      refine q_getR (Sh.ref hI568.1 kx_176 rfl) ?_
      refine r_dup rfl ?_
      obtain ⟨v570, hv570⟩ : ∃ v, gI g0 177 4 = v := ⟨_, rfl⟩
      refine q_getI (Sh.int hI568.1 kx_177 rfl) v570 (((gI_sW).trans ((gI_sI_ne (by decide)).trans ((hF561.1 177 4 (by decide)).trans (hF415.1 177 4 (by decide))))).trans hv570) ?_
      refine r_iconst 1 rfl ?_
      refine r_iload_n rfl ?_
      refine r_ishl 1 (by decide) ?_
      refine q_iorO (fun v571 hv571 => ?_)
      refine q_putI (Sh.int hI568.1 kx_177 rfl) rfl ?_
      have hI572 := HI.wI0 hI568 kx_177 rfl (p := 177) (b := 4) (v := v571) rfl
      have hF573 := Fr.wI (p := 177) (b := 4) (v := v571) hF569 rfl
      refine r_aload_n rfl ?_
      refine q_getR (Sh.ref hI572.1 kx_176 rfl) ?_
      refine q_getR (Sh.ref hI572.1 kx_177 rfl) ?_
      refine r_iload_n rfl ?_
      refine r_aload_n rfl ?_
      refine q_getR (Sh.ref hI572.1 kx_176 rfl) ?_
      obtain ⟨v574, hv574⟩ : ∃ v, gI g0 177 0 = v := ⟨_, rfl⟩
      have rv574 := RgF.at hI0.2.1 (p := 177) (b := 0) rfl
      rw [hv574] at rv574
      dsimp only at rv574
      refine q_getI (Sh.int hI572.1 kx_177 rfl) v574 (((gI_sI_ne (by decide)).trans ((gI_sW).trans ((gI_sI_ne (by decide)).trans ((hF561.1 177 0 (by decide)).trans (hF415.1 177 0 (by decide)))))).trans hv574) ?_
      refine q_iast (Sh.arr hI572.1 ka_181) (v557.toInt) rfl (by omega) ?_
      have hI575 := HI.wA0 hI572 ka_181 (p := 181) rfl rfl (v557.toInt) (v574)
      have hF576 := Fr.wA (p := 181) (j := v557.toInt) (v := v574) hF573 rfl
      refine r_iload_n rfl ?_
      refine r_iconst 2 rfl ?_
      refine r_icf 125 rfl (by decide) ?_
      refine At.enter rfl ?_
      refine r_aload_n rfl ?_
      refine r_iconst 2 rfl ?_
      refine r_iconst 0 rfl ?_
      refine r_callV 131 rfl [.ref 176, .int 2, .int 0] [] (Nat.le_of_ble_eq_true rfl) rfl (T_X5_readJoined_176 _ hI575 2 (by decide) 0 (by decide)) ?_
      rintro _ _ ⟨g577, rfl, hI578, hF579, rfl⟩
      refine At.stn ?_
      have hF582 := Fr.tr hF576 hF579 rfl rfl
      refine At.enter rfl ?_
      refine r_aload_n rfl ?_
      refine q_getR (Sh.ref hI578.1 kx_176 rfl) ?_
      refine q_getR (Sh.ref hI578.1 kx_177 rfl) ?_
      refine r_iload_n rfl ?_
      refine r_aload_n rfl ?_
      refine q_getR (Sh.ref hI578.1 kx_176 rfl) ?_
      obtain ⟨v583, hv583⟩ : ∃ v, gI g577 177 0 = v := ⟨_, rfl⟩
      have rv583 := RgF.at hI578.2.1 (p := 177) (b := 0) rfl
      rw [hv583] at rv583
      dsimp only at rv583
      refine q_getI (Sh.int hI578.1 kx_177 rfl) v583 hv583 ?_
      refine q_iast (Sh.arr hI578.1 ka_182) (v557.toInt) rfl (by omega) ?_
      have hI584 := HI.wA0 hI578 ka_182 (p := 182) rfl rfl (v557.toInt) (v583)
      have hF585 := Fr.wA (p := 182) (j := v557.toInt) (v := v583) hF582 rfl
      refine r_aload_n rfl ?_
      obtain ⟨v586, hv586⟩ : ∃ v, gI g577 176 2 = v := ⟨_, rfl⟩
      refine q_getI (Sh.int hI584.1 kx_176 rfl) v586 ((gI_sW).trans hv586) ?_
      refine r_iconst (-1) rfl ?_
      refine r_ics 155 rfl (fun c587 => ?_) (fun c587 => ?_)
      · have c587_ : v586.toInt ≠ (-1) := en_i_ne_t c587
        refine At.enter rfl ?_
        refine r_aload_n rfl ?_
        refine q_getR (Sh.ref hI584.1 kx_176 rfl) ?_
        refine q_getR (Sh.ref hI584.1 kx_177 rfl) ?_
        refine r_iload_n rfl ?_
        refine r_aload_n rfl ?_
        refine q_getR (Sh.ref hI584.1 kx_176 rfl) ?_
        refine q_getI (Sh.int hI584.1 kx_177 rfl) v583 ((gI_sW).trans hv583) ?_
        refine q_iast (Sh.arr hI584.1 ka_183) (v557.toInt) rfl (by omega) ?_
        have hI588 := HI.wA0 hI584 ka_183 (p := 183) rfl rfl (v557.toInt) (v583)
        have hF589 := Fr.wA (p := 183) (j := v557.toInt) (v := v583) hF585 rfl
        refine r_vret ?_
        exact ⟨_, rfl, hI588, hF589, rfl⟩
      · have c587_ : v586.toInt = (-1) := en_i_ne_f c587
        refine At.enter rfl ?_
        refine r_aload_n rfl ?_
        refine r_ldcS (by decide) 17 rfl ?_
        refine r_callV 161 rfl [.ref 176, .float 17] [] (Nat.le_of_ble_eq_true rfl) rfl (T_X5_isWord_176 _ hI584 17 (by decide)) ?_
        rintro _ _ ⟨g590, rfl, hI591, hF592, v593, rfl, hr594⟩
        refine At.sti ?_
        have hF595 := Fr.tr hF585 hF592 rfl rfl
        refine At.enter rfl ?_
        refine r_ifs 164 rfl (fun c596 => ?_) (fun c596 => ?_)
        · have c596_ : v593.toInt = 0 := en_k_eq_t c596
          refine At.enter rfl ?_
          refine r_aload_n rfl ?_
          refine q_getR (Sh.ref hI591.1 kx_176 rfl) ?_
          refine q_getR (Sh.ref hI591.1 kx_177 rfl) ?_
          refine r_iload_n rfl ?_
          refine r_aload_n rfl ?_
          refine q_getR (Sh.ref hI591.1 kx_176 rfl) ?_
          refine q_getI (Sh.int hI591.1 kx_177 rfl) v583 (((hF592.1 177 0 (by decide)).trans (gI_sW)).trans hv583) ?_
          refine q_iast (Sh.arr hI591.1 ka_183) (v557.toInt) rfl (by omega) ?_
          have hI597 := HI.wA0 hI591 ka_183 (p := 183) rfl rfl (v557.toInt) (v583)
          have hF598 := Fr.wA (p := 183) (j := v557.toInt) (v := v583) hF595 rfl
          refine r_vret ?_
          exact ⟨_, rfl, hI597, hF598, rfl⟩
        · have c596_ : v593.toInt ≠ 0 := en_k_eq_f c596
          refine At.enter rfl ?_
          refine r_aload_n rfl ?_
          refine r_callV 168 rfl [.ref 176] [] (Nat.le_of_ble_eq_true rfl) rfl (T_X5_step_176 _ hI591) ?_
          rintro _ _ ⟨g599, rfl, hI600, hF601, rfl⟩
          refine At.stn ?_
          have hF604 := Fr.tr hF595 hF601 rfl rfl
          refine At.enter rfl ?_
          refine r_aload_n rfl ?_
          refine r_iconst 0 rfl ?_
          refine r_iconst 0 rfl ?_
          refine r_callV 174 rfl [.ref 176, .int 0, .int 0] [] (Nat.le_of_ble_eq_true rfl) rfl (T_X5_readJoined_176 _ hI600 0 (by decide) 0 (by decide)) ?_
          rintro _ _ ⟨g605, rfl, hI606, hF607, rfl⟩
          refine At.stn ?_
          have hF610 := Fr.tr hF604 hF607 rfl rfl
          refine At.enter rfl ?_
          refine r_aload_n rfl ?_
          refine q_getR (Sh.ref hI606.1 kx_176 rfl) ?_
          refine q_getR (Sh.ref hI606.1 kx_177 rfl) ?_
          refine r_iload_n rfl ?_
          refine r_aload_n rfl ?_
          refine q_getR (Sh.ref hI606.1 kx_176 rfl) ?_
          obtain ⟨v611, hv611⟩ : ∃ v, gI g605 177 0 = v := ⟨_, rfl⟩
          have rv611 := RgF.at hI606.2.1 (p := 177) (b := 0) rfl
          rw [hv611] at rv611
          dsimp only at rv611
          refine q_getI (Sh.int hI606.1 kx_177 rfl) v611 hv611 ?_
          refine q_iast (Sh.arr hI606.1 ka_183) (v557.toInt) rfl (by omega) ?_
          have hI612 := HI.wA0 hI606 ka_183 (p := 183) rfl rfl (v557.toInt) (v611)
          have hF613 := Fr.wA (p := 183) (j := v557.toInt) (v := v611) hF610 rfl
          refine r_vret ?_
          exact ⟨_, rfl, hI612, hF613, rfl⟩
    · have c558_ : v557.toInt ≥ 12 := en_i_lt_f c558
      refine At.enter rfl ?_
      refine r_aload_n rfl ?_
      refine q_inlV 64 rfl [.ref 176] [] (Nat.le_of_ble_eq_true rfl) rfl ?_
      refine Ev.mk rfl rfl ⟨Nat.le_of_ble_eq_true rfl, Or.inr (q_rc hI414.1 kx_176 rfl)⟩ ?_
      show At _ none _ _ (0, [(0, .ref 176)], [], (_, _)) _
      refine At.enter rfl ?_
      refine r_aload_n rfl ?_
      obtain ⟨v614, hv614⟩ : ∃ v, gI g0 176 2 = v := ⟨_, rfl⟩
      refine q_getI (Sh.int hI414.1 kx_176 rfl) v614 ((hF415.1 176 2 (by decide)).trans hv614) ?_
      refine r_iconst (-1) rfl ?_
      refine r_ics 8 rfl (fun c615 => ?_) (fun c615 => ?_)
      · have c615_ : v614.toInt ≠ (-1) := en_i_ne_t c615
        refine At.enter rfl ?_
        refine q_vret ?_
        refine At.enter rfl ?_
        refine r_vret ?_
        exact ⟨_, rfl, hI414, hF418, rfl⟩
      · have c615_ : v614.toInt = (-1) := en_i_ne_f c615
        refine At.enter rfl ?_
        refine r_aload_n rfl ?_
        refine r_aload_n rfl ?_
        obtain ⟨v616, hv616⟩ : ∃ v, gI g0 176 4 = v := ⟨_, rfl⟩
        have rv616 := RgF.at hI0.2.1 (p := 176) (b := 4) rfl
        rw [hv616] at rv616
        dsimp only at rv616
        refine q_getI (Sh.int hI414.1 kx_176 rfl) v616 ((hF415.1 176 4 (by decide)).trans hv616) ?_
        refine q_putI (Sh.int hI414.1 kx_176 rfl) rfl ?_
        have hI617 := HI.wI0 hI414 kx_176 rfl (p := 176) (b := 2) (v := v616) rfl
        have hF618 := Fr.wI (p := 176) (b := 2) (v := v616) hF418 rfl
        refine Ar.fall 16 rfl ?_
        refine At.enter rfl ?_
        refine q_vret ?_
        refine At.enter rfl ?_
        refine r_vret ?_
        exact ⟨_, rfl, hI617, hF618, rfl⟩
