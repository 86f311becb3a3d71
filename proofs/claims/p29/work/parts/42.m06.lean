def F_X11_enter_231 : List (Nat × Nat) := [(231, 0)]
def A_X11_enter_231 : List Nat := []
theorem ma_X11_is_hb_233 : memA A_X11_is_hb 233 = false := by decide
set_option maxRecDepth 100000 in
set_option maxHeartbeats 4000000 in
theorem T_X11_enter_231 (d : Nat) {N : Nat} {g0 : List en_E} (hI0 : HI g0) (a1 : Int32) (a2 : Int32) : Ev (d + 4) 222 [.ref 231, .int a1, .int a2] (g0, N) (fun w h' => ∃ g', h' = (g', N) ∧ HI g' ∧ Fr F_X11_enter_231 A_X11_enter_231 g0 g' ∧ ∃ r : Int32, w = some (.int r) ∧ True ∧ ((¬ ((0 ≤ a1.toInt ∧ a1.toInt < (eA g0 233 0).toInt) ∧ BIT a2 (eA g0 233 0).toInt) → r.toInt = -1) ∧ (((0 ≤ a1.toInt ∧ a1.toInt < (eA g0 233 0).toInt) ∧ BIT a2 (eA g0 233 0).toInt) → r.toInt = (ACI (RCI (NMq g0) (hbI a2) a1.toInt 12) (eA g0 233 0).toInt).toInt))) := by
  have hF0 : Fr F_X11_enter_231 A_X11_enter_231 g0 g0 := Fr.rf
  refine Ev.mk rfl rfl ⟨Nat.le_of_ble_eq_true rfl, Or.inr (q_rc hI0.1 kx_231 rfl)⟩ ?_
  show At _ none _ _ (0, [(0, .ref 231), (1, .int a1), (2, .int a2)], [], (_, _)) _
  refine At.enter rfl ?_
  refine r_aload_n rfl ?_
  refine r_iconst 0 rfl ?_
  refine q_putI (Sh.int hI0.1 kx_231 rfl) rfl ?_
  have hI10179 := HI.wI0 hI0 kx_231 rfl (p := 231) (b := 0) (v := 0) rfl
  have hF10180 := Fr.wI (p := 231) (b := 0) (v := 0) hF0 rfl
  refine r_aload_n rfl ?_
  refine r_iload_n rfl ?_
  refine q_inlV 10 rfl [.ref 231, .int a1] [] (Nat.le_of_ble_eq_true rfl) rfl ?_
  refine Ev.mk rfl rfl ⟨Nat.le_of_ble_eq_true rfl, Or.inr (q_rc hI10179.1 kx_231 rfl)⟩ ?_
  show At _ none _ _ (0, [(0, .ref 231), (1, .int a1)], [], (_, _)) _
  refine At.enter rfl ?_
  refine r_iload_n rfl ?_
  refine q_i2l (fun v10181 hv10181 => ?_)
  refine r_lconst 0 rfl ?_
  refine r_aload_n rfl ?_
  refine q_getR (Sh.ref hI10179.1 kx_231 rfl) ?_
  refine r_iconst 0 rfl ?_
  obtain ⟨v10182, hv10182⟩ : ∃ v, eA g0 233 0 = v := ⟨_, rfl⟩
  have tv10182 := congrArg Int32.toInt hv10182
  have wv10182 := HI.t0 hI0
  rw [hv10182] at wv10182
  refine q_iald (Sh.arr hI10179.1 ka_233) 0 rfl (by decide) v10182 ((eA_c (gA_sI)).trans hv10182) ?_
  refine q_i2l (fun v10183 hv10183 => ?_)
  refine r_lconst 1 rfl ?_
  refine q_lsub (v10183.toInt - 1) rfl (by omega) (fun v10184 hv10184 => ?_)
  refine q_inlS 15 rfl [.long v10181, .long 0, .long v10184] [] (Nat.le_of_ble_eq_true rfl) rfl ?_
  refine Ev.mk rfl rfl ⟨Nat.le_of_ble_eq_true rfl, Or.inl rfl⟩ ?_
  show At _ none _ _ (0, [(0, .long v10181), (2, .long 0), (4, .long v10184)], [], (_, _)) _
  refine At.enter rfl ?_
  refine r_lload_n rfl ?_
  refine r_lload_n rfl ?_
  refine r_lcmp _ rfl ?_
  refine r_ifs 6 rfl (fun c10185 => ?_) (fun c10185 => ?_)
  · have c10185_ : v10181.toInt < 0 := en_j_lt_t c10185
    refine At.enter rfl ?_
    refine r_iconst 0 rfl ?_
    refine Ar.fall 18 rfl ?_
    refine At.enter rfl ?_
    refine q_iretz (by decide) ?_
    refine At.enter rfl ?_
    refine q_iretz (by decide) ?_
    refine At.enter rfl ?_
    refine r_ift (by decide) ?_
    refine At.enter rfl ?_
    refine r_iconst (-1) rfl ?_
    refine r_ireti ?_
    have zv10186 : ((-1) : Int32).toInt = (-1) := rfl
    have x10187 := HI.eqA hI0 (p := 233) (j := 0) (hv10182)
    exact ⟨_, rfl, hI10179, hF10180, _, rfl, trivial, ⟨fun _ => by omega, fun h => by first | exact absurd h.1 (by omega) | exact absurd h.2.1 (by omega)⟩⟩
  · have c10185_ : v10181.toInt ≥ 0 := en_j_lt_f c10185
    refine At.enter rfl ?_
    refine r_lload_n rfl ?_
    refine r_lload rfl ?_
    refine r_lcmp _ rfl ?_
    refine r_ifs 13 rfl (fun c10188 => ?_) (fun c10188 => ?_)
    · have c10188_ : v10181.toInt > v10184.toInt := en_j_gt_t c10188
      refine At.enter rfl ?_
      refine r_iconst 0 rfl ?_
      refine Ar.fall 18 rfl ?_
      refine At.enter rfl ?_
      refine q_iretz (by decide) ?_
      refine At.enter rfl ?_
      refine q_iretz (by decide) ?_
      refine At.enter rfl ?_
      refine r_ift (by decide) ?_
      refine At.enter rfl ?_
      refine r_iconst (-1) rfl ?_
      refine r_ireti ?_
      have zv10189 : ((-1) : Int32).toInt = (-1) := rfl
      have x10190 := HI.eqA hI0 (p := 233) (j := 0) (hv10182)
      exact ⟨_, rfl, hI10179, hF10180, _, rfl, trivial, ⟨fun _ => by omega, fun h => by first | exact absurd h.1 (by omega) | exact absurd h.2.1 (by omega)⟩⟩
    · have c10188_ : v10181.toInt ≤ v10184.toInt := en_j_gt_f c10188
      refine At.enter rfl ?_
      refine r_iconst 1 rfl ?_
      refine r_goto ?_
      refine At.enter rfl ?_
      refine q_iretz (by decide) ?_
      refine At.enter rfl ?_
      refine q_iretz (by decide) ?_
      refine At.enter rfl ?_
      refine r_iff 13 rfl (by decide) ?_
      refine At.enter rfl ?_
      refine r_aload_n rfl ?_
      refine r_iload_n rfl ?_
      refine q_inlV 18 rfl [.ref 231, .int a2] [] (Nat.le_of_ble_eq_true rfl) rfl ?_
      refine Ev.mk rfl rfl ⟨Nat.le_of_ble_eq_true rfl, Or.inr (q_rc hI10179.1 kx_231 rfl)⟩ ?_
      show At _ none _ _ (0, [(0, .ref 231), (1, .int a2)], [], (_, _)) _
      refine At.enter rfl ?_
      refine r_iload_n rfl ?_
      refine q_i2l (fun v10191 hv10191 => ?_)
      refine r_lconst 0 rfl ?_
      refine r_iconst 1 rfl ?_
      refine r_aload_n rfl ?_
      refine q_getR (Sh.ref hI10179.1 kx_231 rfl) ?_
      refine r_iconst 0 rfl ?_
      refine q_iald (Sh.arr hI10179.1 ka_233) 0 rfl (by decide) v10182 ((eA_c (gA_sI)).trans hv10182) ?_
      refine q_ishlO (fun v10192 hv10192 => ?_)
      refine q_i2l (fun v10193 hv10193 => ?_)
      refine r_lconst 1 rfl ?_
      have bv10194 := q_bnd v10192
      refine q_lsub (v10193.toInt - 1) rfl (by omega) (fun v10195 hv10195 => ?_)
      refine q_inlS 17 rfl [.long v10191, .long 0, .long v10195] [] (Nat.le_of_ble_eq_true rfl) rfl ?_
      refine Ev.mk rfl rfl ⟨Nat.le_of_ble_eq_true rfl, Or.inl rfl⟩ ?_
      show At _ none _ _ (0, [(0, .long v10191), (2, .long 0), (4, .long v10195)], [], (_, _)) _
      refine At.enter rfl ?_
      refine r_lload_n rfl ?_
      refine r_lload_n rfl ?_
      refine r_lcmp _ rfl ?_
      refine r_ifs 6 rfl (fun c10196 => ?_) (fun c10196 => ?_)
      · have c10196_ : v10191.toInt < 0 := en_j_lt_t c10196
        refine At.enter rfl ?_
        refine r_iconst 0 rfl ?_
        refine Ar.fall 18 rfl ?_
        refine At.enter rfl ?_
        refine q_iretz (by decide) ?_
        refine At.enter rfl ?_
        refine q_iretz (by decide) ?_
        refine At.enter rfl ?_
        refine r_iff 21 rfl (by decide) ?_
        refine At.enter rfl ?_
        refine r_iconst (-1) rfl ?_
        refine r_ireti ?_
        have zv10197 : ((-1) : Int32).toInt = (-1) := rfl
        have x10198 := HI.eqA hI0 (p := 233) (j := 0) (hv10182)
        exact ⟨_, rfl, hI10179, hF10180, _, rfl, trivial, ⟨fun _ => by omega, fun h => by first | exact absurd h.1 (by omega) | exact absurd h.2.1 (by omega) | exact absurd ((BIT.r (b := a2) (v := v10192) (n := (eA g0 233 0).toInt) (by rw [hv10182]; exact BIT.m hv10192 (by omega))).mp h.2).2 (by omega)⟩⟩
      · have c10196_ : v10191.toInt ≥ 0 := en_j_lt_f c10196
        refine At.enter rfl ?_
        refine r_lload_n rfl ?_
        refine r_lload rfl ?_
        refine r_lcmp _ rfl ?_
        refine r_ifs 13 rfl (fun c10199 => ?_) (fun c10199 => ?_)
        · have c10199_ : v10191.toInt > v10195.toInt := en_j_gt_t c10199
          refine At.enter rfl ?_
          refine r_iconst 0 rfl ?_
          refine Ar.fall 18 rfl ?_
          refine At.enter rfl ?_
          refine q_iretz (by decide) ?_
          refine At.enter rfl ?_
          refine q_iretz (by decide) ?_
          refine At.enter rfl ?_
          refine r_iff 21 rfl (by decide) ?_
          refine At.enter rfl ?_
          refine r_iconst (-1) rfl ?_
          refine r_ireti ?_
          have zv10200 : ((-1) : Int32).toInt = (-1) := rfl
          have x10201 := HI.eqA hI0 (p := 233) (j := 0) (hv10182)
          exact ⟨_, rfl, hI10179, hF10180, _, rfl, trivial, ⟨fun _ => by omega, fun h => by first | exact absurd h.1 (by omega) | exact absurd h.2.1 (by omega) | exact absurd ((BIT.r (b := a2) (v := v10192) (n := (eA g0 233 0).toInt) (by rw [hv10182]; exact BIT.m hv10192 (by omega))).mp h.2).2 (by omega)⟩⟩
        · have c10199_ : v10191.toInt ≤ v10195.toInt := en_j_gt_f c10199
          refine At.enter rfl ?_
          refine r_iconst 1 rfl ?_
          refine r_goto ?_
          refine At.enter rfl ?_
          refine q_iretz (by decide) ?_
          refine At.enter rfl ?_
          refine q_iretz (by decide) ?_
          refine At.enter rfl ?_
          refine r_ift (by decide) ?_
          refine At.enter rfl ?_
          refine r_iconst 0 rfl ?_
          refine r_istore_n ([(3, .int 0), (0, .ref 231), (1, .int a1), (2, .int a2)]) rfl ?_
          refine r_iconst 0 rfl ?_
          refine r_istore ([(4, .int 0), (3, .int 0), (0, .ref 231), (1, .int a1), (2, .int a2)]) rfl ?_
          refine Ar.fall 28 rfl ?_
          have z_14764 : (0 : Int32).toInt = 0 := rfl
          have z_14765 : (0 : Int32).toInt = 0 := rfl
          have x14766 := HI.eqA hI10179 (p := 233) (j := 0) (((eA_c gA_sI).trans hv10182))
          refine w_loopI (fun n_ l_ g_ => ∃ x14747 : Int32, ∃ x14748 : Int32, n_ = 12 - x14748.toInt ∧ HI g_ ∧ Fr F_X11_enter_231 A_X11_enter_231 g0 g_ ∧ en_get 0 l_ = some (.ref 231) ∧ en_get 1 l_ = some (.int a1) ∧ en_get 2 l_ = some (.int a2) ∧ en_get 3 l_ = some (.int x14747) ∧ en_get 4 l_ = some (.int x14748) ∧ (0 ≤ x14748.toInt ∧ x14748.toInt ≤ 12) ∧ (x14747.toInt = (ACI (RCI (NMq g0) (hbI a2) a1.toInt 12) x14748.toInt).toInt) ∧ (0 ≤ x14748.toInt) ∧ (x14748.toInt ≤ (eA g0 233 0).toInt)) ?_ (12 - 0) ⟨0, 0, by first | rfl | omega, hI10179, hF10180, rfl, rfl, rfl, rfl, rfl, by decide, ((by first | rfl | omega : _ = (0 : Int)).trans (ACI.z _ (by first | decide | omega))), by omega, by omega⟩
          rintro n14753 l14752 g14749 ⟨x14747, x14748, hm14767, hI14750, hF14751, e14755, e14756, e14757, e14758, e14759, r14760, q14761, q14762, q14763⟩ ih14754
          refine At.enter rfl ?_
          refine r_iload e14759 ?_
          refine r_aload_n e14755 ?_
          refine q_getR (Sh.ref hI14750.1 kx_231 rfl) ?_
          refine r_iconst 0 rfl ?_
          refine q_iald (Sh.arr hI14750.1 ka_233) 0 rfl (by decide) v10182 ((eA_c (hF14751.2.1 233 (by decide))).trans hv10182) ?_
          have bv14769 := q_bnd x14748
          have bv14770 := q_bnd v10182
          refine r_ics 39 rfl (fun c14768 => ?_) (fun c14768 => ?_)
          · have c14768_ : x14748.toInt ≥ v10182.toInt := en_i_ge_t c14768
            refine At.enter rfl ?_
            refine r_iload_n e14758 ?_
            refine r_ireti ?_
            have x14771 := HI.eqA hI0 (p := 233) (j := 0) (hv10182)
            exact ⟨_, rfl, hI14750, hF14751, _, rfl, trivial, ⟨fun h => absurd ⟨⟨by omega, by omega⟩, (BIT.r (b := a2) (v := v10192) (n := (eA g0 233 0).toInt) (by rw [hv10182]; exact BIT.m hv10192 (by omega))).mpr ⟨by omega, by omega⟩⟩ h, fun _ => (by rw [show (eA g0 233 0).toInt = x14748.toInt from by omega]; exact q14761)⟩⟩
          · have c14768_ : x14748.toInt < v10182.toInt := en_i_ge_f c14768
            refine At.enter rfl ?_
            refine r_iload e14759 ?_
            refine r_istore _ rfl ?_
            refine r_iconst 0 rfl ?_
            refine r_istore _ rfl ?_
            refine Ar.fall 46 rfl ?_
            have z_15233 : (0 : Int32).toInt = 0 := rfl
            refine w_loopI (fun n_ l_ g_ => ∃ x15213 : Int32, ∃ x15214 : Int32, ∃ x15215 : Int32, n_ = 13 - x15215.toInt ∧ HI g_ ∧ Fr F_X11_enter_231 A_X11_enter_231 g0 g_ ∧ en_get 0 l_ = some (.ref 231) ∧ en_get 1 l_ = some (.int a1) ∧ en_get 2 l_ = some (.int a2) ∧ en_get 3 l_ = some (.int x15213) ∧ en_get 4 l_ = some (.int x14748) ∧ en_get 5 l_ = some (.int x15214) ∧ en_get 6 l_ = some (.int x15215) ∧ ((-1) ≤ x15214.toInt ∧ x15214.toInt ≤ 11) ∧ (0 ≤ x15215.toInt ∧ x15215.toInt ≤ 13) ∧ ((x15214.toInt = -1 ∧ x15213.toInt = (ACI (RCI (NMq g0) (hbI a2) a1.toInt 12) (x14748.toInt + 1)).toInt) ∨ (x15214.toInt ≠ -1 ∧ x15213.toInt = (ACI (RCI (NMq g0) (hbI a2) a1.toInt 12) x14748.toInt).toInt ∧ q_hd (RCI (NMq g0) (hbI a2) a1.toInt (12 - x15215.toInt) x15214.toInt ↔ RCI (NMq g0) (hbI a2) a1.toInt 12 x14748.toInt))) ∧ (0 ≤ x15215.toInt)) ?_ (13 - 0) ⟨x14747, x14748, 0, by first | rfl | omega, hI14750, hF14751, (w_p1 (by decide) (Or.inr rfl) (w_p1 (by decide) (Or.inr rfl) e14755)), (w_p1 (by decide) (Or.inr rfl) (w_p1 (by decide) (Or.inr rfl) e14756)), (w_p1 (by decide) (Or.inr rfl) (w_p1 (by decide) (Or.inr rfl) e14757)), (w_p1 (by decide) (Or.inr rfl) (w_p1 (by decide) (Or.inr rfl) e14758)), (w_p1 (by decide) (Or.inr rfl) (w_p1 (by decide) (Or.inr rfl) e14759)), (w_p1 (by decide) (Or.inr rfl) (w_e1 _ _ _)), (w_e1 _ _ _), by omega, by decide, (Or.inr ⟨by omega, q14761, Iff.rfl⟩), by omega⟩
            rintro n15220 l15219 g15216 ⟨x15213, x15214, x15215, hm15234, hI15217, hF15218, e15222, e15223, e15224, e15225, e15226, e15227, e15228, r15229, r15230, q15231, q15232⟩ ih15221
            refine At.enter rfl ?_
            refine r_iload e15228 ?_
            refine r_bipush 13 rfl ?_
            refine r_ics 53 rfl (fun c15235 => ?_) (fun c15235 => ?_)
            · have c15235_ : x15215.toInt ≥ 13 := en_i_ge_t c15235
              refine At.enter rfl ?_
              refine q_iinc e15226 (x14748.toInt + 1) rfl (by omega) (fun v15236 hv15236 => ?_)
              refine r_goto ?_
              have bv15237 := q_bnd x15213
              exact ih14754 (12 - v15236.toInt) _ _ ⟨x15213, v15236, by first | rfl | omega, hI15217, hF15218, (w_p1 (by decide) (Or.inr rfl) e15222), (w_p1 (by decide) (Or.inr rfl) e15223), (w_p1 (by decide) (Or.inr rfl) e15224), (w_p1 (by decide) (Or.inr rfl) e15225), (w_e1 _ _ _), by omega, (by rw [show v15236.toInt = x14748.toInt + 1 from by omega]; exact q15231.elim (fun l => l.2) (fun r => ACI.no (by omega) rfl (fun f => by have z := r.2.2.mpr f; (first | (exact RCI.neg (by omega) z) | (exact absurd r.1 (by omega)))) r.2.1)), by omega, by omega⟩ ⟨by omega, by omega⟩
            · have c15235_ : x15215.toInt < 13 := en_i_ge_f c15235
              refine At.enter rfl ?_
              refine r_iload e15227 ?_
              refine r_iconst (-1) rfl ?_
              refine r_ics 59 rfl (fun c15238 => ?_) (fun c15238 => ?_)
              · have c15238_ : x15214.toInt = (-1) := en_i_eq_t c15238
                refine At.enter rfl ?_
                refine q_iinc e15226 (x14748.toInt + 1) rfl (by omega) (fun v15239 hv15239 => ?_)
                refine r_goto ?_
                have bv15240 := q_bnd x15213
                exact ih14754 (12 - v15239.toInt) _ _ ⟨x15213, v15239, by first | rfl | omega, hI15217, hF15218, (w_p1 (by decide) (Or.inr rfl) e15222), (w_p1 (by decide) (Or.inr rfl) e15223), (w_p1 (by decide) (Or.inr rfl) e15224), (w_p1 (by decide) (Or.inr rfl) e15225), (w_e1 _ _ _), by omega, (by rw [show v15239.toInt = x14748.toInt + 1 from by omega]; exact q15231.elim (fun l => l.2) (fun r => ACI.no (by omega) rfl (fun f => by have z := r.2.2.mpr f; (first | (exact RCI.neg (by omega) z) | (exact absurd r.1 (by omega)))) r.2.1)), by omega, by omega⟩ ⟨by omega, by omega⟩
              · have c15238_ : x15214.toInt ≠ (-1) := en_i_eq_f c15238
                refine At.enter rfl ?_
                refine r_iload_n e15224 ?_
                refine r_iload e15227 ?_
                refine r_iconst (-1) rfl ?_
                refine r_ics 66 rfl (fun c15241 => ?_) (fun c15241 => ?_)
                · have c15241_ : x15214.toInt ≠ (-1) := en_i_ne_t c15241
                  refine At.enter rfl ?_
                  refine r_iload e15227 ?_
                  refine Ar.fall 72 rfl ?_
                  refine At.enter rfl ?_
                  refine r_callS 75 rfl [.int a2, .int x15214] [] (Nat.le_of_ble_eq_true rfl) rfl (T_X11_is_hb _ hI15217 a2 x15214) ?_
                  rintro _ _ ⟨g15242, rfl, hI15243, hF15244, v15245, rfl, hr15246⟩
                  refine At.sti ?_
                  have hF15247 := Fr.tr hF15218 hF15244 rfl rfl
                  refine At.enter rfl ?_
                  refine r_ifs 78 rfl (fun c15248 => ?_) (fun c15248 => ?_)
                  · have c15248_ : v15245.toInt ≠ 0 := en_k_ne_t c15248
                    refine At.enter rfl ?_
                    refine q_iinc e15226 (x14748.toInt + 1) rfl (by omega) (fun v15249 hv15249 => ?_)
                    refine r_goto ?_
                    have bv15250 := q_bnd x15213
                    exact ih14754 (12 - v15249.toInt) _ _ ⟨x15213, v15249, by first | rfl | omega, hI15243, hF15247, (w_p1 (by decide) (Or.inr rfl) e15222), (w_p1 (by decide) (Or.inr rfl) e15223), (w_p1 (by decide) (Or.inr rfl) e15224), (w_p1 (by decide) (Or.inr rfl) e15225), (w_e1 _ _ _), by omega, (by rw [show v15249.toInt = x14748.toInt + 1 from by omega]; exact q15231.elim (fun l => l.2) (fun r => ACI.no (by omega) rfl (fun f => by have z := r.2.2.mpr f; (first | (exact RCI.neg (by omega) z) | (exact absurd r.1 (by omega)) | (exact RCI.hb (BL.yes hr15246.2 (by omega)) z))) r.2.1)), by omega, by omega⟩ ⟨by omega, by omega⟩
                  · have c15248_ : v15245.toInt = 0 := en_k_ne_f c15248
                    refine At.enter rfl ?_
                    refine r_iload_n e15225 ?_
                    refine r_iload e15227 ?_
                    refine r_iload_n e15223 ?_
                    refine r_ics 85 rfl (fun c15251 => ?_) (fun c15251 => ?_)
                    · have c15251_ : x15214.toInt ≠ a1.toInt := en_i_ne_t c15251
                      refine At.enter rfl ?_
                      refine r_iconst 0 rfl ?_
                      refine Ar.fall 93 rfl ?_
                      refine At.enter rfl ?_
                      refine q_iorO (fun v15252 hv15252 => ?_)
                      refine r_istore_n _ rfl ?_
                      refine r_iload (w_p1 (by decide) (Or.inr rfl) e15227) ?_
                      refine r_iload_n (w_p1 (by decide) (Or.inr rfl) e15223) ?_
                      refine r_ics 101 rfl (fun c15253 => ?_) (fun c15253 => ?_)
                      · have c15253_ : x15214.toInt ≠ a1.toInt := en_i_ne_t c15253
                        refine At.enter rfl ?_
                        refine r_aload_n (w_p1 (by decide) (Or.inr rfl) e15222) ?_
                        refine r_iload (w_p1 (by decide) (Or.inr rfl) e15227) ?_
                        refine r_iconst 0 rfl ?_
                        refine r_callV 112 rfl [.ref 231, .int x15214, .int 0] [] (Nat.le_of_ble_eq_true rfl) rfl (T_X11_nextOf0_231 _ hI15243 x15214 (by omega)) ?_
                        rintro _ _ ⟨g15254, rfl, hI15255, hF15256, v15257, rfl, hr15258⟩
                        refine At.sti ?_
                        have hF15259 := Fr.tr hF15247 hF15256 rfl rfl
                        have zv15260 : (0 : Int32).toInt = 0 := rfl
                        rw [eA_c (((hF15244.2.1 233 ma_X11_is_hb_233).trans (hF15218.2.1 233 (by decide))))] at hr15258
                        rw [NMo.c (((hF15244.2.1 233 ma_X11_is_hb_233).trans (hF15218.2.1 233 (by decide))))] at hr15258
                        refine At.enter rfl ?_
                        refine r_istore _ rfl ?_
                        refine q_iinc (w_p1 (by decide) (Or.inr rfl) (w_p1 (by decide) (Or.inr rfl) e15228)) (x15215.toInt + 1) rfl (by omega) (fun v15261 hv15261 => ?_)
                        refine r_goto ?_
                        have bv15262 := q_bnd v15252
                        exact ih15221 (13 - v15261.toInt) _ _ ⟨v15252, v15257, v15261, by first | rfl | omega, hI15255, hF15259, (w_p1 (by decide) (Or.inr rfl) (w_p1 (by decide) (Or.inr rfl) (w_p1 (by decide) (Or.inr rfl) e15222))), (w_p1 (by decide) (Or.inr rfl) (w_p1 (by decide) (Or.inr rfl) (w_p1 (by decide) (Or.inr rfl) e15223))), (w_p1 (by decide) (Or.inr rfl) (w_p1 (by decide) (Or.inr rfl) (w_p1 (by decide) (Or.inr rfl) e15224))), (w_p1 (by decide) (Or.inr rfl) (w_p1 (by decide) (Or.inr rfl) (w_e1 _ _ _))), (w_p1 (by decide) (Or.inr rfl) (w_p1 (by decide) (Or.inr rfl) (w_p1 (by decide) (Or.inr rfl) e15226))), (w_p1 (by decide) (Or.inr rfl) (w_e1 _ _ _)), (w_e1 _ _ _), by omega, by omega, (by obtain ⟨r1, r2, r3⟩ := q15231.resolve_left (fun l => absurd l.1 (by omega)); first | (exact Or.inl ⟨by first | rfl | omega, ACI.yes (i := x14748) (by omega) rfl (r3.mp ((RCI.want (by omega) (by omega) (show x15214.toInt = a1.toInt from by omega)).mpr (BL.no hr15246.2 (by omega)))) rfl hv15252 (by assumption) r2⟩) | (have st := RCI.step (N := NMq g0) (hb := hbI a2) (w := a1.toInt) (m := 12 - x15215.toInt) (m' := 12 - v15261.toInt) (t := x15214.toInt) (by omega) (by omega) (BL.no hr15246.2 (by omega)) (by omega) (by omega); rw [← show v15257.toInt = NMq g0 x15214.toInt from (by have z := NMq.ne (g := g0) (s := x15214.toInt) (by omega); omega)] at st; exact (Decidable.em (v15257.toInt = -1)).elim (fun e => Or.inl ⟨e, (q_or0 hv15252 (by first | rfl | omega)).trans (ACI.no (by omega) rfl (fun f => by have z := st.mp (r3.mpr f); rw [e] at z; exact RCI.none (by omega) z) r2)⟩) (fun e => Or.inr ⟨e, (q_or0 hv15252 (by first | rfl | omega)).trans r2, st.symm.trans r3⟩))), by omega⟩ ⟨by omega, by omega⟩
                      · have c15253_ : x15214.toInt = a1.toInt := en_i_ne_f c15253
                        refine At.enter rfl ?_
                        refine r_iconst (-1) rfl ?_
                        refine r_goto ?_
                        refine At.enter rfl ?_
                        refine r_istore _ rfl ?_
                        refine q_iinc (w_p1 (by decide) (Or.inr rfl) (w_p1 (by decide) (Or.inr rfl) e15228)) (x15215.toInt + 1) rfl (by omega) (fun v15263 hv15263 => ?_)
                        refine r_goto ?_
                        have zv15264 : ((-1) : Int32).toInt = (-1) := rfl
                        have bv15265 := q_bnd v15252
                        exact ih15221 (13 - v15263.toInt) _ _ ⟨v15252, (-1), v15263, by first | rfl | omega, hI15243, hF15247, (w_p1 (by decide) (Or.inr rfl) (w_p1 (by decide) (Or.inr rfl) (w_p1 (by decide) (Or.inr rfl) e15222))), (w_p1 (by decide) (Or.inr rfl) (w_p1 (by decide) (Or.inr rfl) (w_p1 (by decide) (Or.inr rfl) e15223))), (w_p1 (by decide) (Or.inr rfl) (w_p1 (by decide) (Or.inr rfl) (w_p1 (by decide) (Or.inr rfl) e15224))), (w_p1 (by decide) (Or.inr rfl) (w_p1 (by decide) (Or.inr rfl) (w_e1 _ _ _))), (w_p1 (by decide) (Or.inr rfl) (w_p1 (by decide) (Or.inr rfl) (w_p1 (by decide) (Or.inr rfl) e15226))), (w_p1 (by decide) (Or.inr rfl) (w_e1 _ _ _)), (w_e1 _ _ _), by decide, by omega, (by obtain ⟨r1, r2, r3⟩ := q15231.resolve_left (fun l => absurd l.1 (by omega)); first | (exact Or.inl ⟨by first | rfl | omega, ACI.yes (i := x14748) (by omega) rfl (r3.mp ((RCI.want (by omega) (by omega) (show x15214.toInt = a1.toInt from by omega)).mpr (BL.no hr15246.2 (by omega)))) rfl hv15252 (by assumption) r2⟩) | (have st := RCI.step (N := NMq g0) (hb := hbI a2) (w := a1.toInt) (m := 12 - x15215.toInt) (m' := 12 - v15263.toInt) (t := x15214.toInt) (by omega) (by omega) (BL.no hr15246.2 (by omega)) (by omega) (by omega); rw [← show (-1) = NMq g0 x15214.toInt from (by have z := NMq.ne (g := g0) (s := x15214.toInt) (by omega); omega)] at st; exact (Decidable.em ((-1) = -1)).elim (fun e => Or.inl ⟨e, (q_or0 hv15252 (by first | rfl | omega)).trans (ACI.no (by omega) rfl (fun f => by have z := st.mp (r3.mpr f); rw [e] at z; exact RCI.none (by omega) z) r2)⟩) (fun e => Or.inr ⟨e, (q_or0 hv15252 (by first | rfl | omega)).trans r2, st.symm.trans r3⟩))), by omega⟩ ⟨by omega, by omega⟩
                    · have c15251_ : x15214.toInt = a1.toInt := en_i_ne_f c15251
                      refine At.enter rfl ?_
                      refine r_iconst 1 rfl ?_
                      refine r_iload e15226 ?_
                      refine q_ishlO (fun v15266 hv15266 => ?_)
                      refine r_goto ?_
                      refine At.enter rfl ?_
                      refine q_iorO (fun v15267 hv15267 => ?_)
                      refine r_istore_n _ rfl ?_
                      refine r_iload (w_p1 (by decide) (Or.inr rfl) e15227) ?_
                      refine r_iload_n (w_p1 (by decide) (Or.inr rfl) e15223) ?_
                      refine r_ics 101 rfl (fun c15268 => ?_) (fun c15268 => ?_)
                      · have c15268_ : x15214.toInt ≠ a1.toInt := en_i_ne_t c15268
                        refine At.enter rfl ?_
                        refine r_aload_n (w_p1 (by decide) (Or.inr rfl) e15222) ?_
                        refine r_iload (w_p1 (by decide) (Or.inr rfl) e15227) ?_
                        refine r_iconst 0 rfl ?_
                        refine r_callV 112 rfl [.ref 231, .int x15214, .int 0] [] (Nat.le_of_ble_eq_true rfl) rfl (T_X11_nextOf0_231 _ hI15243 x15214 (by omega)) ?_
                        rintro _ _ ⟨g15269, rfl, hI15270, hF15271, v15272, rfl, hr15273⟩
                        refine At.sti ?_
                        have hF15274 := Fr.tr hF15247 hF15271 rfl rfl
                        have zv15275 : (0 : Int32).toInt = 0 := rfl
                        rw [eA_c (((hF15244.2.1 233 ma_X11_is_hb_233).trans (hF15218.2.1 233 (by decide))))] at hr15273
                        rw [NMo.c (((hF15244.2.1 233 ma_X11_is_hb_233).trans (hF15218.2.1 233 (by decide))))] at hr15273
                        refine At.enter rfl ?_
                        refine r_istore _ rfl ?_
                        refine q_iinc (w_p1 (by decide) (Or.inr rfl) (w_p1 (by decide) (Or.inr rfl) e15228)) (x15215.toInt + 1) rfl (by omega) (fun v15276 hv15276 => ?_)
                        refine r_goto ?_
                        have bv15277 := q_bnd v15267
                        exact ih15221 (13 - v15276.toInt) _ _ ⟨v15267, v15272, v15276, by first | rfl | omega, hI15270, hF15274, (w_p1 (by decide) (Or.inr rfl) (w_p1 (by decide) (Or.inr rfl) (w_p1 (by decide) (Or.inr rfl) e15222))), (w_p1 (by decide) (Or.inr rfl) (w_p1 (by decide) (Or.inr rfl) (w_p1 (by decide) (Or.inr rfl) e15223))), (w_p1 (by decide) (Or.inr rfl) (w_p1 (by decide) (Or.inr rfl) (w_p1 (by decide) (Or.inr rfl) e15224))), (w_p1 (by decide) (Or.inr rfl) (w_p1 (by decide) (Or.inr rfl) (w_e1 _ _ _))), (w_p1 (by decide) (Or.inr rfl) (w_p1 (by decide) (Or.inr rfl) (w_p1 (by decide) (Or.inr rfl) e15226))), (w_p1 (by decide) (Or.inr rfl) (w_e1 _ _ _)), (w_e1 _ _ _), by omega, by omega, (by obtain ⟨r1, r2, r3⟩ := q15231.resolve_left (fun l => absurd l.1 (by omega)); first | (exact Or.inl ⟨by first | rfl | omega, ACI.yes (i := x14748) (by omega) rfl (r3.mp ((RCI.want (by omega) (by omega) (show x15214.toInt = a1.toInt from by omega)).mpr (BL.no hr15246.2 (by omega)))) rfl hv15267 (by assumption) r2⟩) | (have st := RCI.step (N := NMq g0) (hb := hbI a2) (w := a1.toInt) (m := 12 - x15215.toInt) (m' := 12 - v15276.toInt) (t := x15214.toInt) (by omega) (by omega) (BL.no hr15246.2 (by omega)) (by omega) (by omega); rw [← show v15272.toInt = NMq g0 x15214.toInt from (by have z := NMq.ne (g := g0) (s := x15214.toInt) (by omega); omega)] at st; exact (Decidable.em (v15272.toInt = -1)).elim (fun e => Or.inl ⟨e, (q_or0 hv15267 (by first | rfl | omega)).trans (ACI.no (by omega) rfl (fun f => by have z := st.mp (r3.mpr f); rw [e] at z; exact RCI.none (by omega) z) r2)⟩) (fun e => Or.inr ⟨e, (q_or0 hv15267 (by first | rfl | omega)).trans r2, st.symm.trans r3⟩))), by omega⟩ ⟨by omega, by omega⟩
                      · have c15268_ : x15214.toInt = a1.toInt := en_i_ne_f c15268
                        refine At.enter rfl ?_
                        refine r_iconst (-1) rfl ?_
                        refine r_goto ?_
                        refine At.enter rfl ?_
                        refine r_istore _ rfl ?_
                        refine q_iinc (w_p1 (by decide) (Or.inr rfl) (w_p1 (by decide) (Or.inr rfl) e15228)) (x15215.toInt + 1) rfl (by omega) (fun v15278 hv15278 => ?_)
                        refine r_goto ?_
                        have zv15279 : ((-1) : Int32).toInt = (-1) := rfl
                        have bv15280 := q_bnd v15267
                        exact ih15221 (13 - v15278.toInt) _ _ ⟨v15267, (-1), v15278, by first | rfl | omega, hI15243, hF15247, (w_p1 (by decide) (Or.inr rfl) (w_p1 (by decide) (Or.inr rfl) (w_p1 (by decide) (Or.inr rfl) e15222))), (w_p1 (by decide) (Or.inr rfl) (w_p1 (by decide) (Or.inr rfl) (w_p1 (by decide) (Or.inr rfl) e15223))), (w_p1 (by decide) (Or.inr rfl) (w_p1 (by decide) (Or.inr rfl) (w_p1 (by decide) (Or.inr rfl) e15224))), (w_p1 (by decide) (Or.inr rfl) (w_p1 (by decide) (Or.inr rfl) (w_e1 _ _ _))), (w_p1 (by decide) (Or.inr rfl) (w_p1 (by decide) (Or.inr rfl) (w_p1 (by decide) (Or.inr rfl) e15226))), (w_p1 (by decide) (Or.inr rfl) (w_e1 _ _ _)), (w_e1 _ _ _), by decide, by omega, (by obtain ⟨r1, r2, r3⟩ := q15231.resolve_left (fun l => absurd l.1 (by omega)); first | (exact Or.inl ⟨by first | rfl | omega, ACI.yes (i := x14748) (by omega) rfl (r3.mp ((RCI.want (by omega) (by omega) (show x15214.toInt = a1.toInt from by omega)).mpr (BL.no hr15246.2 (by omega)))) rfl hv15267 (by assumption) r2⟩) | (have st := RCI.step (N := NMq g0) (hb := hbI a2) (w := a1.toInt) (m := 12 - x15215.toInt) (m' := 12 - v15278.toInt) (t := x15214.toInt) (by omega) (by omega) (BL.no hr15246.2 (by omega)) (by omega) (by omega); rw [← show (-1) = NMq g0 x15214.toInt from (by have z := NMq.ne (g := g0) (s := x15214.toInt) (by omega); omega)] at st; exact (Decidable.em ((-1) = -1)).elim (fun e => Or.inl ⟨e, (q_or0 hv15267 (by first | rfl | omega)).trans (ACI.no (by omega) rfl (fun f => by have z := st.mp (r3.mpr f); rw [e] at z; exact RCI.none (by omega) z) r2)⟩) (fun e => Or.inr ⟨e, (q_or0 hv15267 (by first | rfl | omega)).trans r2, st.symm.trans r3⟩))), by omega⟩ ⟨by omega, by omega⟩
                · have c15241_ : x15214.toInt = (-1) := en_i_ne_f c15241
                  exfalso; omega
