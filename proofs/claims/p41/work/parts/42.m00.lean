def F_X11_tell_231 : List (Nat × Nat) := [(231, 1)]
def A_X11_tell_231 : List Nat := [232]
set_option maxRecDepth 100000 in
set_option maxHeartbeats 4000000 in
theorem T_X11_tell_231 (d : Nat) {N : Nat} {g0 : List en_E} (hI0 : HI g0) (a1 : Int32) (h_a1 : (-6) ≤ a1.toInt ∧ a1.toInt ≤ 2147483647) : Ev (d + 1) 162 [.ref 231, .int a1] (g0, N) (fun w h' => ∃ g', h' = (g', N) ∧ HI g' ∧ Fr F_X11_tell_231 A_X11_tell_231 g0 g' ∧ ∃ r : Int32, w = some (.int r) ∧ ((-6) ≤ r.toInt) ∧ (r.toInt = a1.toInt ∧ ((a1.toInt < 0 ∧ (gI g' 231 1).toInt = a1.toInt) ∨ (0 ≤ a1.toInt ∧ (gI g' 231 1).toInt = 0)))) := by
  have hF0 : Fr F_X11_tell_231 A_X11_tell_231 g0 g0 := Fr.rf
  refine Ev.mk rfl rfl ⟨Nat.le_of_ble_eq_true rfl, Or.inr (q_rc hI0.1 kx_231 rfl)⟩ ?_
  show At _ none _ _ (0, [(0, .ref 231), (1, .int a1)], [], (_, _)) _
  refine At.enter rfl ?_
  refine r_aload_n rfl ?_
  refine r_iload_n rfl ?_
  refine r_ifs 5 rfl (fun c25 => ?_) (fun c25 => ?_)
  · have c25_ : a1.toInt ≥ 0 := en_k_ge_t c25
    refine At.enter rfl ?_
    refine r_iconst 0 rfl ?_
    refine Ar.fall 10 rfl ?_
    refine At.enter rfl ?_
    refine q_putI (Sh.int hI0.1 kx_231 rfl) rfl ?_
    have hI26 := HI.wI0 hI0 kx_231 rfl (p := 231) (b := 1) (v := 0) rfl
    have hF27 := Fr.wI (p := 231) (b := 1) (v := 0) hF0 rfl
    refine r_iload_n rfl ?_
    refine r_ifs 17 rfl (fun c28 => ?_) (fun c28 => ?_)
    · have c28_ : a1.toInt ≥ 0 := en_k_ge_t c28
      refine At.enter rfl ?_
      refine r_iload_n rfl ?_
      refine r_ireti ?_
      have x29 := HI.eqI hI26 (p := 231) (b := 1) ((gI_sI_eq hI0.1 kx_231 rfl _))
      have zv30 : (0 : Int32).toInt = 0 := rfl
      exact ⟨_, rfl, hI26, hF27, _, rfl, by omega, ⟨by omega, by omega⟩⟩
    · have c28_ : a1.toInt < 0 := en_k_ge_f c28
      exfalso; omega
  · have c25_ : a1.toInt < 0 := en_k_ge_f c25
    refine At.enter rfl ?_
    refine r_iload_n rfl ?_
    refine r_goto ?_
    refine At.enter rfl ?_
    refine q_putI (Sh.int hI0.1 kx_231 rfl) rfl ?_
    have hI31 := HI.wI0 hI0 kx_231 rfl (p := 231) (b := 1) (v := a1) rfl
    have hF32 := Fr.wI (p := 231) (b := 1) (v := a1) hF0 rfl
    refine r_iload_n rfl ?_
    refine r_ifs 17 rfl (fun c33 => ?_) (fun c33 => ?_)
    · have c33_ : a1.toInt ≥ 0 := en_k_ge_t c33
      exfalso; omega
    · have c33_ : a1.toInt < 0 := en_k_ge_f c33
      refine At.enter rfl ?_
      refine r_aload_n rfl ?_
      refine q_getR (Sh.ref hI31.1 kx_231 rfl) ?_
      refine r_iload_n rfl ?_
      refine q_ineg (-a1.toInt) rfl (by omega) (fun v34 hv34 => ?_)
      refine r_dup2 ⟨rfl, rfl⟩ ?_
      obtain ⟨v35, hv35⟩ : ∃ v, eA g0 232 ((-1) * a1.toInt) = v := ⟨_, rfl⟩
      refine q_iald (Sh.arr hI31.1 ka_232) ((-1) * a1.toInt) (by omega) (by omega) v35 ((eA_c (gA_sI)).trans hv35) ?_
      refine r_iconst 1 rfl ?_
      refine q_iaddO (fun v36 _ => ?_)
      refine q_iast (Sh.arr hI31.1 ka_232) (((-1) * a1.toInt)) (by omega) (by omega) ?_
      have hI37 := HI.wA0 hI31 ka_232 (p := 232) rfl rfl (((-1) * a1.toInt)) (v36)
      have hF38 := Fr.wA (p := 232) (j := ((-1) * a1.toInt)) (v := v36) hF32 rfl
      refine Ar.fall 28 rfl ?_
      refine At.enter rfl ?_
      refine r_iload_n rfl ?_
      refine r_ireti ?_
      have x39 := HI.eqI hI37 (p := 231) (b := 1) (((gI_sW).trans (gI_sI_eq hI0.1 kx_231 rfl _)))
      exact ⟨_, rfl, hI37, hF38, _, rfl, by omega, ⟨by omega, by omega⟩⟩

def F_X11_bits : List (Nat × Nat) := []
def A_X11_bits : List Nat := []
set_option maxRecDepth 100000 in
set_option maxHeartbeats 4000000 in
theorem T_X11_bits (d : Nat) {N : Nat} {g0 : List en_E} (hI0 : HI g0) (a0 : Int32) : Ev (d + 1) 161 [.int a0] (g0, N) (fun w h' => ∃ g', h' = (g', N) ∧ HI g' ∧ Fr F_X11_bits A_X11_bits g0 g' ∧ ∃ r : Int32, w = some (.int r) ∧ True) := by
  have hF0 : Fr F_X11_bits A_X11_bits g0 g0 := Fr.rf
  refine Ev.mk rfl rfl ⟨Nat.le_of_ble_eq_true rfl, Or.inl rfl⟩ ?_
  show At _ none _ _ (0, [(0, .int a0)], [], (_, _)) _
  refine At.enter rfl ?_
  refine r_iconst 0 rfl ?_
  refine r_istore_n ([(1, .int 0), (0, .int a0)]) rfl ?_
  refine r_iconst 0 rfl ?_
  refine r_istore_n ([(2, .int 0), (1, .int 0), (0, .int a0)]) rfl ?_
  refine Ar.fall 4 rfl ?_
  have z_272 : (0 : Int32).toInt = 0 := rfl
  have z_273 : (0 : Int32).toInt = 0 := rfl
  refine w_loopI (fun n_ l_ g_ => ∃ x260 : Int32, ∃ x261 : Int32, n_ = 12 - x261.toInt ∧ HI g_ ∧ Fr F_X11_bits A_X11_bits g0 g_ ∧ en_get 0 l_ = some (.int a0) ∧ en_get 1 l_ = some (.int x260) ∧ en_get 2 l_ = some (.int x261) ∧ (0 ≤ x261.toInt ∧ x261.toInt ≤ 12)) ?_ (12 - 0) ⟨0, 0, by first | rfl | omega, hI0, hF0, rfl, rfl, rfl, by decide⟩
  rintro n266 l265 g262 ⟨x260, x261, hm274, hI263, hF264, e268, e269, e270, r271⟩ ih267
  refine At.enter rfl ?_
  refine r_iload_n e270 ?_
  refine r_bipush 12 rfl ?_
  refine r_ics 10 rfl (fun c275 => ?_) (fun c275 => ?_)
  · have c275_ : x261.toInt ≥ 12 := en_i_ge_t c275
    refine At.enter rfl ?_
    refine r_iload_n e269 ?_
    refine r_ireti ?_
    exact ⟨_, rfl, hI263, hF264, _, rfl, trivial⟩
  · have c275_ : x261.toInt < 12 := en_i_ge_f c275
    refine At.enter rfl ?_
    refine r_iload_n e269 ?_
    refine r_iload_n e268 ?_
    refine r_iload_n e270 ?_
    refine q_ishrO (fun v276 hv276 => ?_)
    refine r_iconst 1 rfl ?_
    refine q_iandO (fun v277 hv277 => ?_)
    refine q_iaddO (fun v278 _ => ?_)
    refine r_istore_n _ rfl ?_
    refine q_iinc (w_p1 (by decide) (Or.inr rfl) e270) (x261.toInt + 1) rfl (by omega) (fun v279 hv279 => ?_)
    refine r_goto ?_
    have bv280 := q_bnd v278
    exact ih267 (12 - v279.toInt) _ _ ⟨v278, v279, by first | rfl | omega, hI263, hF264, (w_p1 (by decide) (Or.inr rfl) (w_p1 (by decide) (Or.inr rfl) e268)), (w_p1 (by decide) (Or.inr rfl) (w_e1 _ _ _)), (w_e1 _ _ _), by omega⟩ ⟨by omega, by omega⟩

def F_X11_nextOf_231 : List (Nat × Nat) := []
def A_X11_nextOf_231 : List Nat := []
set_option maxRecDepth 100000 in
set_option maxHeartbeats 4000000 in
theorem T_X11_nextOf_231 (d : Nat) {N : Nat} {g0 : List en_E} (hI0 : HI g0) (a1 : Int32) (h_a1 : 0 ≤ a1.toInt ∧ a1.toInt ≤ 11) (a2 : Int32) : Ev (d + 3) 174 [.ref 231, .int a1, .int a2] (g0, N) (fun w h' => ∃ g', h' = (g', N) ∧ HI g' ∧ Fr F_X11_nextOf_231 A_X11_nextOf_231 g0 g' ∧ ∃ r : Int32, w = some (.int r) ∧ ((-1) ≤ r.toInt ∧ r.toInt ≤ 11) ∧ (r.toInt = -1 ∨ r.toInt < (eA g0 233 0).toInt)) := by
  have hF0 : Fr F_X11_nextOf_231 A_X11_nextOf_231 g0 g0 := Fr.rf
  refine Ev.mk rfl rfl ⟨Nat.le_of_ble_eq_true rfl, Or.inr (q_rc hI0.1 kx_231 rfl)⟩ ?_
  show At _ none _ _ (0, [(0, .ref 231), (1, .int a1), (2, .int a2)], [], (_, _)) _
  refine At.enter rfl ?_
  refine r_aload_n rfl ?_
  refine r_iload_n rfl ?_
  refine r_iconst 0 rfl ?_
  refine q_inlV 6 rfl [.ref 231, .int a1, .int 0] [] (Nat.le_of_ble_eq_true rfl) rfl ?_
  refine Ev.mk rfl rfl ⟨Nat.le_of_ble_eq_true rfl, Or.inr (q_rc hI0.1 kx_231 rfl)⟩ ?_
  show At _ none _ _ (0, [(0, .ref 231), (1, .int a1), (2, .int 0)], [], (_, _)) _
  refine At.enter rfl ?_
  refine r_aload_n rfl ?_
  refine q_getR (Sh.ref hI0.1 kx_231 rfl) ?_
  refine r_bipush 10 rfl ?_
  refine r_iconst 3 rfl ?_
  refine r_iload_n rfl ?_
  refine q_imul (3 * a1.toInt) rfl (by omega) (fun v433 hv433 => ?_)
  refine q_iadd (10 + v433.toInt) rfl (by omega) (fun v434 hv434 => ?_)
  refine r_iload_n rfl ?_
  refine q_iadd (v434.toInt + 0) rfl (by omega) (fun v435 hv435 => ?_)
  obtain ⟨v436, hv436⟩ : ∃ v, eA g0 233 (3 * a1.toInt + 10) = v := ⟨_, rfl⟩
  have wv436 := HI.s0 hI0 (j := (3 * a1.toInt + 10)) (a1.toInt) (by omega) (by omega)
  rw [hv436] at wv436
  refine q_iald (Sh.arr hI0.1 ka_233) (3 * a1.toInt + 10) (by omega) (by omega) v436 hv436 ?_
  refine q_ireti ?_
  refine At.enter rfl ?_
  refine r_istore_n ([(3, .int v436), (0, .ref 231), (1, .int a1), (2, .int a2)]) rfl ?_
  refine r_iconst 0 rfl ?_
  refine r_istore ([(4, .int 0), (3, .int v436), (0, .ref 231), (1, .int a1), (2, .int a2)]) rfl ?_
  refine Ar.fall 10 rfl ?_
  have z_632 : (0 : Int32).toInt = 0 := rfl
  refine w_loopI (fun n_ l_ g_ => ∃ x617 : Int32, ∃ x618 : Int32, n_ = 13 - x618.toInt ∧ HI g_ ∧ Fr F_X11_nextOf_231 A_X11_nextOf_231 g0 g_ ∧ en_get 0 l_ = some (.ref 231) ∧ en_get 1 l_ = some (.int a1) ∧ en_get 2 l_ = some (.int a2) ∧ en_get 3 l_ = some (.int x617) ∧ en_get 4 l_ = some (.int x618) ∧ ((-1) ≤ x617.toInt ∧ x617.toInt ≤ 11) ∧ (0 ≤ x618.toInt ∧ x618.toInt ≤ 13)) ?_ (13 - 0) ⟨v436, 0, by first | rfl | omega, hI0, hF0, rfl, rfl, rfl, rfl, rfl, by omega, by decide⟩
  rintro n623 l622 g619 ⟨x617, x618, hm633, hI620, hF621, e625, e626, e627, e628, e629, r630, r631⟩ ih624
  refine At.enter rfl ?_
  refine r_iload e629 ?_
  refine r_bipush 13 rfl ?_
  refine r_ics 17 rfl (fun c634 => ?_) (fun c634 => ?_)
  · have c634_ : x618.toInt ≥ 13 := en_i_ge_t c634
    refine At.enter rfl ?_
    refine r_iconst (-1) rfl ?_
    refine r_ireti ?_
    exact ⟨_, rfl, hI620, hF621, _, rfl, by decide, (Or.inl rfl)⟩
  · have c634_ : x618.toInt < 13 := en_i_ge_f c634
    refine At.enter rfl ?_
    refine r_aload_n e625 ?_
    refine r_iload_n e628 ?_
    refine q_inlV 22 rfl [.ref 231, .int x617] [] (Nat.le_of_ble_eq_true rfl) rfl ?_
    refine Ev.mk rfl rfl ⟨Nat.le_of_ble_eq_true rfl, Or.inr (q_rc hI620.1 kx_231 rfl)⟩ ?_
    show At _ none _ _ (0, [(0, .ref 231), (1, .int x617)], [], (_, _)) _
    refine At.enter rfl ?_
    refine r_iload_n rfl ?_
    refine q_i2l (fun v635 hv635 => ?_)
    refine r_lconst 0 rfl ?_
    refine r_aload_n rfl ?_
    refine q_getR (Sh.ref hI620.1 kx_231 rfl) ?_
    refine r_iconst 0 rfl ?_
    obtain ⟨v636, hv636⟩ : ∃ v, eA g0 233 0 = v := ⟨_, rfl⟩
    have tv636 := congrArg Int32.toInt hv636
    have wv636 := HI.t0 hI0
    rw [hv636] at wv636
    refine q_iald (Sh.arr hI620.1 ka_233) 0 rfl (by decide) v636 ((eA_c (hF621.2.1 233 (by decide))).trans hv636) ?_
    refine q_i2l (fun v637 hv637 => ?_)
    refine r_lconst 1 rfl ?_
    refine q_lsub (v637.toInt - 1) rfl (by omega) (fun v638 hv638 => ?_)
    refine q_inlS 15 rfl [.long v635, .long 0, .long v638] [] (Nat.le_of_ble_eq_true rfl) rfl ?_
    refine Ev.mk rfl rfl ⟨Nat.le_of_ble_eq_true rfl, Or.inl rfl⟩ ?_
    show At _ none _ _ (0, [(0, .long v635), (2, .long 0), (4, .long v638)], [], (_, _)) _
    refine At.enter rfl ?_
    refine r_lload_n rfl ?_
    refine r_lload_n rfl ?_
    refine r_lcmp _ rfl ?_
    refine r_ifs 6 rfl (fun c639 => ?_) (fun c639 => ?_)
    · have c639_ : v635.toInt < 0 := en_j_lt_t c639
      refine At.enter rfl ?_
      refine r_iconst 0 rfl ?_
      refine Ar.fall 18 rfl ?_
      refine At.enter rfl ?_
      refine q_iretz (by decide) ?_
      refine At.enter rfl ?_
      refine q_iretz (by decide) ?_
      refine At.enter rfl ?_
      refine r_ift (by decide) ?_
      refine At.enter rfl ?_
      refine r_iconst (-1) rfl ?_
      refine r_ireti ?_
      exact ⟨_, rfl, hI620, hF621, _, rfl, by decide, (Or.inl rfl)⟩
    · have c639_ : v635.toInt ≥ 0 := en_j_lt_f c639
      refine At.enter rfl ?_
      refine r_lload_n rfl ?_
      refine r_lload rfl ?_
      refine r_lcmp _ rfl ?_
      refine r_ifs 13 rfl (fun c640 => ?_) (fun c640 => ?_)
      · have c640_ : v635.toInt > v638.toInt := en_j_gt_t c640
        refine At.enter rfl ?_
        refine r_iconst 0 rfl ?_
        refine Ar.fall 18 rfl ?_
        refine At.enter rfl ?_
        refine q_iretz (by decide) ?_
        refine At.enter rfl ?_
        refine q_iretz (by decide) ?_
        refine At.enter rfl ?_
        refine r_ift (by decide) ?_
        refine At.enter rfl ?_
        refine r_iconst (-1) rfl ?_
        refine r_ireti ?_
        exact ⟨_, rfl, hI620, hF621, _, rfl, by decide, (Or.inl rfl)⟩
      · have c640_ : v635.toInt ≤ v638.toInt := en_j_gt_f c640
        refine At.enter rfl ?_
        refine r_iconst 1 rfl ?_
        refine r_goto ?_
        refine At.enter rfl ?_
        refine q_iretz (by decide) ?_
        refine At.enter rfl ?_
        refine q_iretz (by decide) ?_
        refine At.enter rfl ?_
        refine r_iff 25 rfl (by decide) ?_
        refine At.enter rfl ?_
        refine r_iload_n e627 ?_
        refine r_iload_n e628 ?_
        refine q_inlS 30 rfl [.int a2, .int x617] [] (Nat.le_of_ble_eq_true rfl) rfl ?_
        refine Ev.mk rfl rfl ⟨Nat.le_of_ble_eq_true rfl, Or.inl rfl⟩ ?_
        show At _ none _ _ (0, [(0, .int a2), (1, .int x617)], [], (_, _)) _
        refine At.enter rfl ?_
        refine r_iload_n rfl ?_
        refine r_iload_n rfl ?_
        refine q_ishrO (fun v641 hv641 => ?_)
        refine r_iconst 1 rfl ?_
        refine q_iandO (fun v642 hv642 => ?_)
        refine r_iconst 1 rfl ?_
        refine r_ics 9 rfl (fun c643 => ?_) (fun c643 => ?_)
        · have c643_ : v642.toInt ≠ 1 := en_i_ne_t c643
          refine At.enter rfl ?_
          refine r_iconst 0 rfl ?_
          refine Ar.fall 14 rfl ?_
          refine At.enter rfl ?_
          refine q_iretz (by decide) ?_
          refine At.enter rfl ?_
          refine r_iff 33 rfl (by decide) ?_
          refine At.enter rfl ?_
          refine r_iload_n e628 ?_
          refine r_ireti ?_
          exact ⟨_, rfl, hI620, hF621, _, rfl, by omega, (by omega)⟩
        · have c643_ : v642.toInt = 1 := en_i_ne_f c643
          refine At.enter rfl ?_
          refine r_iconst 1 rfl ?_
          refine r_goto ?_
          refine At.enter rfl ?_
          refine q_iretz (by decide) ?_
          refine At.enter rfl ?_
          refine r_ift (by decide) ?_
          refine At.enter rfl ?_
          refine r_aload_n e625 ?_
          refine r_iload_n e628 ?_
          refine r_iconst 0 rfl ?_
          refine q_inlV 41 rfl [.ref 231, .int x617, .int 0] [] (Nat.le_of_ble_eq_true rfl) rfl ?_
          refine Ev.mk rfl rfl ⟨Nat.le_of_ble_eq_true rfl, Or.inr (q_rc hI620.1 kx_231 rfl)⟩ ?_
          show At _ none _ _ (0, [(0, .ref 231), (1, .int x617), (2, .int 0)], [], (_, _)) _
          refine At.enter rfl ?_
          refine r_aload_n rfl ?_
          refine q_getR (Sh.ref hI620.1 kx_231 rfl) ?_
          refine r_bipush 10 rfl ?_
          refine r_iconst 3 rfl ?_
          refine r_iload_n rfl ?_
          refine q_imul (3 * x617.toInt) rfl (by omega) (fun v644 hv644 => ?_)
          refine q_iadd (10 + v644.toInt) rfl (by omega) (fun v645 hv645 => ?_)
          refine r_iload_n rfl ?_
          refine q_iadd (v645.toInt + 0) rfl (by omega) (fun v646 hv646 => ?_)
          obtain ⟨v647, hv647⟩ : ∃ v, eA g0 233 (3 * x617.toInt + 10) = v := ⟨_, rfl⟩
          have wv647 := HI.s0 hI0 (j := (3 * x617.toInt + 10)) (x617.toInt) (by omega) (by omega)
          rw [hv647] at wv647
          refine q_iald (Sh.arr hI620.1 ka_233) (3 * x617.toInt + 10) (by omega) (by omega) v647 ((eA_c (hF621.2.1 233 (by decide))).trans hv647) ?_
          refine q_ireti ?_
          refine At.enter rfl ?_
          refine r_istore_n _ rfl ?_
          refine q_iinc (w_p1 (by decide) (Or.inr rfl) e629) (x618.toInt + 1) rfl (by omega) (fun v648 hv648 => ?_)
          refine r_goto ?_
          exact ih624 (13 - v648.toInt) _ _ ⟨v647, v648, by first | rfl | omega, hI620, hF621, (w_p1 (by decide) (Or.inr rfl) (w_p1 (by decide) (Or.inr rfl) e625)), (w_p1 (by decide) (Or.inr rfl) (w_p1 (by decide) (Or.inr rfl) e626)), (w_p1 (by decide) (Or.inr rfl) (w_p1 (by decide) (Or.inr rfl) e627)), (w_p1 (by decide) (Or.inr rfl) (w_e1 _ _ _)), (w_e1 _ _ _), by omega, by omega⟩ ⟨by omega, by omega⟩

def F_X11_nextOf0_231 : List (Nat × Nat) := []
def A_X11_nextOf0_231 : List Nat := []
set_option maxRecDepth 100000 in
set_option maxHeartbeats 4000000 in
theorem T_X11_nextOf0_231 (d : Nat) {N : Nat} {g0 : List en_E} (hI0 : HI g0) (a1 : Int32) (h_a1 : 0 ≤ a1.toInt ∧ a1.toInt ≤ 11) : Ev (d + 3) 174 [.ref 231, .int a1, .int 0] (g0, N) (fun w h' => ∃ g', h' = (g', N) ∧ HI g' ∧ Fr F_X11_nextOf0_231 A_X11_nextOf0_231 g0 g' ∧ ∃ r : Int32, w = some (.int r) ∧ ((-1) ≤ r.toInt ∧ r.toInt ≤ 11) ∧ ((r.toInt = -1 ∨ r.toInt < (eA g0 233 0).toInt) ∧ r.toInt = NMo g0 a1.toInt)) := by
  have hF0 : Fr F_X11_nextOf0_231 A_X11_nextOf0_231 g0 g0 := Fr.rf
  refine Ev.mk rfl rfl ⟨Nat.le_of_ble_eq_true rfl, Or.inr (q_rc hI0.1 kx_231 rfl)⟩ ?_
  show At _ none _ _ (0, [(0, .ref 231), (1, .int a1), (2, .int 0)], [], (_, _)) _
  refine At.enter rfl ?_
  refine r_aload_n rfl ?_
  refine r_iload_n rfl ?_
  refine r_iconst 0 rfl ?_
  refine q_inlV 6 rfl [.ref 231, .int a1, .int 0] [] (Nat.le_of_ble_eq_true rfl) rfl ?_
  refine Ev.mk rfl rfl ⟨Nat.le_of_ble_eq_true rfl, Or.inr (q_rc hI0.1 kx_231 rfl)⟩ ?_
  show At _ none _ _ (0, [(0, .ref 231), (1, .int a1), (2, .int 0)], [], (_, _)) _
  refine At.enter rfl ?_
  refine r_aload_n rfl ?_
  refine q_getR (Sh.ref hI0.1 kx_231 rfl) ?_
  refine r_bipush 10 rfl ?_
  refine r_iconst 3 rfl ?_
  refine r_iload_n rfl ?_
  refine q_imul (3 * a1.toInt) rfl (by omega) (fun v81 hv81 => ?_)
  refine q_iadd (10 + v81.toInt) rfl (by omega) (fun v82 hv82 => ?_)
  refine r_iload_n rfl ?_
  refine q_iadd (v82.toInt + 0) rfl (by omega) (fun v83 hv83 => ?_)
  obtain ⟨v84, hv84⟩ : ∃ v, eA g0 233 (3 * a1.toInt + 10) = v := ⟨_, rfl⟩
  have wv84 := HI.s0 hI0 (j := (3 * a1.toInt + 10)) (a1.toInt) (by omega) (by omega)
  rw [hv84] at wv84
  refine q_iald (Sh.arr hI0.1 ka_233) (3 * a1.toInt + 10) (by omega) (by omega) v84 hv84 ?_
  refine q_ireti ?_
  refine At.enter rfl ?_
  refine r_istore_n ([(3, .int v84), (0, .ref 231), (1, .int a1), (2, .int 0)]) rfl ?_
  refine r_iconst 0 rfl ?_
  refine r_istore ([(4, .int 0), (3, .int v84), (0, .ref 231), (1, .int a1), (2, .int 0)]) rfl ?_
  refine Ar.fall 10 rfl ?_
  have z_111 : (0 : Int32).toInt = 0 := rfl
  have y112 := (eA_ix (g := g0) (p := 233) (show 10 + 3 * a1.toInt = (3 * a1.toInt + 10) from by omega)).trans (congrArg Int32.toInt hv84)
  refine w_loopI (fun n_ l_ g_ => ∃ x95 : Int32, ∃ x96 : Int32, n_ = 0 ∧ HI g_ ∧ Fr F_X11_nextOf0_231 A_X11_nextOf0_231 g0 g_ ∧ en_get 0 l_ = some (.ref 231) ∧ en_get 1 l_ = some (.int a1) ∧ en_get 2 l_ = some (.int 0) ∧ en_get 3 l_ = some (.int x95) ∧ en_get 4 l_ = some (.int x96) ∧ ((-1) ≤ x95.toInt ∧ x95.toInt ≤ 11) ∧ (0 ≤ x96.toInt ∧ x96.toInt ≤ 0) ∧ (x95.toInt = (eA g0 233 (10 + 3 * a1.toInt)).toInt)) ?_ (0) ⟨v84, 0, by first | rfl | omega, hI0, hF0, rfl, rfl, rfl, rfl, rfl, by omega, by decide, by omega⟩
  rintro n101 l100 g97 ⟨x95, x96, hm113, hI98, hF99, e103, e104, e105, e106, e107, r108, r109, q110⟩ ih102
  refine At.enter rfl ?_
  refine r_iload e107 ?_
  refine r_bipush 13 rfl ?_
  refine r_ics 17 rfl (fun c114 => ?_) (fun c114 => ?_)
  · have c114_ : x96.toInt ≥ 13 := en_i_ge_t c114
    exfalso; omega
  · have c114_ : x96.toInt < 13 := en_i_ge_f c114
    refine At.enter rfl ?_
    refine r_aload_n e103 ?_
    refine r_iload_n e106 ?_
    refine q_inlV 22 rfl [.ref 231, .int x95] [] (Nat.le_of_ble_eq_true rfl) rfl ?_
    refine Ev.mk rfl rfl ⟨Nat.le_of_ble_eq_true rfl, Or.inr (q_rc hI98.1 kx_231 rfl)⟩ ?_
    show At _ none _ _ (0, [(0, .ref 231), (1, .int x95)], [], (_, _)) _
    refine At.enter rfl ?_
    refine r_iload_n rfl ?_
    refine q_i2l (fun v115 hv115 => ?_)
    refine r_lconst 0 rfl ?_
    refine r_aload_n rfl ?_
    refine q_getR (Sh.ref hI98.1 kx_231 rfl) ?_
    refine r_iconst 0 rfl ?_
    obtain ⟨v116, hv116⟩ : ∃ v, eA g0 233 0 = v := ⟨_, rfl⟩
    have tv116 := congrArg Int32.toInt hv116
    have wv116 := HI.t0 hI0
    rw [hv116] at wv116
    refine q_iald (Sh.arr hI98.1 ka_233) 0 rfl (by decide) v116 ((eA_c (hF99.2.1 233 (by decide))).trans hv116) ?_
    refine q_i2l (fun v117 hv117 => ?_)
    refine r_lconst 1 rfl ?_
    refine q_lsub (v117.toInt - 1) rfl (by omega) (fun v118 hv118 => ?_)
    refine q_inlS 15 rfl [.long v115, .long 0, .long v118] [] (Nat.le_of_ble_eq_true rfl) rfl ?_
    refine Ev.mk rfl rfl ⟨Nat.le_of_ble_eq_true rfl, Or.inl rfl⟩ ?_
    show At _ none _ _ (0, [(0, .long v115), (2, .long 0), (4, .long v118)], [], (_, _)) _
    refine At.enter rfl ?_
    refine r_lload_n rfl ?_
    refine r_lload_n rfl ?_
    refine r_lcmp _ rfl ?_
    refine r_ifs 6 rfl (fun c119 => ?_) (fun c119 => ?_)
    · have c119_ : v115.toInt < 0 := en_j_lt_t c119
      refine At.enter rfl ?_
      refine r_iconst 0 rfl ?_
      refine Ar.fall 18 rfl ?_
      refine At.enter rfl ?_
      refine q_iretz (by decide) ?_
      refine At.enter rfl ?_
      refine q_iretz (by decide) ?_
      refine At.enter rfl ?_
      refine r_ift (by decide) ?_
      refine At.enter rfl ?_
      refine r_iconst (-1) rfl ?_
      refine r_ireti ?_
      have x120 := HI.eqA hI0 (p := 233) (j := 0) (hv116)
      have zv121 : ((-1) : Int32).toInt = (-1) := rfl
      have y122 := (eA_ix (g := g0) (p := 233) (show 10 + 3 * a1.toInt = (3 * a1.toInt + 10) from by omega)).trans (congrArg Int32.toInt hv84)
      have y123 := congrArg Int32.toInt hv116
      exact ⟨_, rfl, hI98, hF99, _, rfl, by decide, ⟨(Or.inl rfl), (by first | (have e := NMo.yes (g := g0) (s := a1.toInt) (by omega); omega) | (have e := NMo.no (g := g0) (s := a1.toInt) (by omega); omega))⟩⟩
    · have c119_ : v115.toInt ≥ 0 := en_j_lt_f c119
      refine At.enter rfl ?_
      refine r_lload_n rfl ?_
      refine r_lload rfl ?_
      refine r_lcmp _ rfl ?_
      refine r_ifs 13 rfl (fun c124 => ?_) (fun c124 => ?_)
      · have c124_ : v115.toInt > v118.toInt := en_j_gt_t c124
        refine At.enter rfl ?_
        refine r_iconst 0 rfl ?_
        refine Ar.fall 18 rfl ?_
        refine At.enter rfl ?_
        refine q_iretz (by decide) ?_
        refine At.enter rfl ?_
        refine q_iretz (by decide) ?_
        refine At.enter rfl ?_
        refine r_ift (by decide) ?_
        refine At.enter rfl ?_
        refine r_iconst (-1) rfl ?_
        refine r_ireti ?_
        have x125 := HI.eqA hI0 (p := 233) (j := 0) (hv116)
        have zv126 : ((-1) : Int32).toInt = (-1) := rfl
        have y127 := (eA_ix (g := g0) (p := 233) (show 10 + 3 * a1.toInt = (3 * a1.toInt + 10) from by omega)).trans (congrArg Int32.toInt hv84)
        have y128 := congrArg Int32.toInt hv116
        exact ⟨_, rfl, hI98, hF99, _, rfl, by decide, ⟨(Or.inl rfl), (by first | (have e := NMo.yes (g := g0) (s := a1.toInt) (by omega); omega) | (have e := NMo.no (g := g0) (s := a1.toInt) (by omega); omega))⟩⟩
      · have c124_ : v115.toInt ≤ v118.toInt := en_j_gt_f c124
        refine At.enter rfl ?_
        refine r_iconst 1 rfl ?_
        refine r_goto ?_
        refine At.enter rfl ?_
        refine q_iretz (by decide) ?_
        refine At.enter rfl ?_
        refine q_iretz (by decide) ?_
        refine At.enter rfl ?_
        refine r_iff 25 rfl (by decide) ?_
        refine At.enter rfl ?_
        refine r_iload_n e105 ?_
        refine r_iload_n e106 ?_
        refine q_inlS 30 rfl [.int 0, .int x95] [] (Nat.le_of_ble_eq_true rfl) rfl ?_
        refine Ev.mk rfl rfl ⟨Nat.le_of_ble_eq_true rfl, Or.inl rfl⟩ ?_
        show At _ none _ _ (0, [(0, .int 0), (1, .int x95)], [], (_, _)) _
        refine At.enter rfl ?_
        refine r_iload_n rfl ?_
        refine r_iload_n rfl ?_
        refine r_ishr 0 (q_0shr _) ?_
        refine r_iconst 1 rfl ?_
        refine r_iand 0 (by decide) ?_
        refine r_iconst 1 rfl ?_
        refine r_ict (by decide) ?_
        refine At.enter rfl ?_
        refine r_iconst 0 rfl ?_
        refine Ar.fall 14 rfl ?_
        refine At.enter rfl ?_
        refine q_iretz (by decide) ?_
        refine At.enter rfl ?_
        refine r_iff 33 rfl (by decide) ?_
        refine At.enter rfl ?_
        refine r_iload_n e106 ?_
        refine r_ireti ?_
        have x129 := HI.eqA hI0 (p := 233) (j := 0) (hv116)
        have y130 := (eA_ix (g := g0) (p := 233) (show 10 + 3 * a1.toInt = (3 * a1.toInt + 10) from by omega)).trans (congrArg Int32.toInt hv84)
        have y131 := congrArg Int32.toInt hv116
        exact ⟨_, rfl, hI98, hF99, _, rfl, by omega, ⟨(by omega), (by first | (have e := NMo.yes (g := g0) (s := a1.toInt) (by omega); omega) | (have e := NMo.no (g := g0) (s := a1.toInt) (by omega); omega))⟩⟩
