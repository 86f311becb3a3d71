def F_X11_tell_231 : List (Nat × Nat) := [(231, 1)]
def A_X11_tell_231 : List Nat := [232]
set_option maxRecDepth 100000 in
set_option maxHeartbeats 4000000 in
theorem T_X11_tell_231 (d : Nat) {N : Nat} {g0 : List en_E} (hI0 : HI g0) (a1 : Int32) (h_a1 : (-6) ≤ a1.toInt ∧ a1.toInt ≤ 2147483647) : Ev (d + 1) 162 [.ref 231, .int a1] (g0, N) (fun w h' => ∃ g', h' = (g', N) ∧ HI g' ∧ Fr F_X11_tell_231 A_X11_tell_231 g0 g' ∧ ∃ r : Int32, w = some (.int r) ∧ ((-6) ≤ r.toInt) ∧ (r.toInt = a1.toInt)) := by
  have hF0 : Fr F_X11_tell_231 A_X11_tell_231 g0 g0 := Fr.rf
  refine Ev.mk rfl rfl ⟨Nat.le_of_ble_eq_true rfl, Or.inr (q_rc hI0.1 kx_231 rfl)⟩ ?_
  show At _ none _ _ (0, [(0, .ref 231), (1, .int a1)], [], (_, _)) _
  refine At.enter rfl ?_
  refine r_aload_n rfl ?_
  refine r_iload_n rfl ?_
  refine r_ifs 5 rfl (fun c25 => ?_) (fun c25 => ?_)
  · have c25_ : a1.toInt ≥ 0 := en_k_ge_t c25
    refine At.enter rfl ?_
    refine r_iconst 0 rfl ?_
    refine Ar.fall 10 rfl ?_
    refine At.enter rfl ?_
    refine q_putI (Sh.int hI0.1 kx_231 rfl) rfl ?_
    have hI26 := HI.wI0 hI0 kx_231 rfl (p := 231) (b := 1) (v := 0) rfl
    have hF27 := Fr.wI (p := 231) (b := 1) (v := 0) hF0 rfl
    refine r_iload_n rfl ?_
    refine r_ifs 17 rfl (fun c28 => ?_) (fun c28 => ?_)
    · have c28_ : a1.toInt ≥ 0 := en_k_ge_t c28
      refine At.enter rfl ?_
      refine r_iload_n rfl ?_
      refine r_ireti ?_
      exact ⟨_, rfl, hI26, hF27, _, rfl, by omega, (by omega)⟩
    · have c28_ : a1.toInt < 0 := en_k_ge_f c28
      exfalso; omega
  · have c25_ : a1.toInt < 0 := en_k_ge_f c25
    refine At.enter rfl ?_
    refine r_iload_n rfl ?_
    refine r_goto ?_
    refine At.enter rfl ?_
    refine q_putI (Sh.int hI0.1 kx_231 rfl) rfl ?_
    have hI29 := HI.wI0 hI0 kx_231 rfl (p := 231) (b := 1) (v := a1) rfl
    have hF30 := Fr.wI (p := 231) (b := 1) (v := a1) hF0 rfl
    refine r_iload_n rfl ?_
    refine r_ifs 17 rfl (fun c31 => ?_) (fun c31 => ?_)
    · have c31_ : a1.toInt ≥ 0 := en_k_ge_t c31
      exfalso; omega
    · have c31_ : a1.toInt < 0 := en_k_ge_f c31
      refine At.enter rfl ?_
      refine r_aload_n rfl ?_
      refine q_getR (Sh.ref hI29.1 kx_231 rfl) ?_
      refine r_iload_n rfl ?_
      refine q_ineg (-a1.toInt) rfl (by omega) (fun v32 hv32 => ?_)
      refine r_dup2 ⟨rfl, rfl⟩ ?_
      obtain ⟨v33, hv33⟩ : ∃ v, eA g0 232 ((-1) * a1.toInt) = v := ⟨_, rfl⟩
      refine q_iald (Sh.arr hI29.1 ka_232) ((-1) * a1.toInt) (by omega) (by omega) v33 ((eA_c (gA_sI)).trans hv33) ?_
      refine r_iconst 1 rfl ?_
      refine q_iaddO (fun v34 _ => ?_)
      refine q_iast (Sh.arr hI29.1 ka_232) (((-1) * a1.toInt)) (by omega) (by omega) ?_
      have hI35 := HI.wA0 hI29 ka_232 (p := 232) rfl rfl (((-1) * a1.toInt)) (v34)
      have hF36 := Fr.wA (p := 232) (j := ((-1) * a1.toInt)) (v := v34) hF30 rfl
      refine Ar.fall 28 rfl ?_
      refine At.enter rfl ?_
      refine r_iload_n rfl ?_
      refine r_ireti ?_
      exact ⟨_, rfl, hI35, hF36, _, rfl, by omega, (by omega)⟩

def F_X11_bits : List (Nat × Nat) := []
def A_X11_bits : List Nat := []
set_option maxRecDepth 100000 in
set_option maxHeartbeats 4000000 in
theorem T_X11_bits (d : Nat) {N : Nat} {g0 : List en_E} (hI0 : HI g0) (a0 : Int32) : Ev (d + 1) 161 [.int a0] (g0, N) (fun w h' => ∃ g', h' = (g', N) ∧ HI g' ∧ Fr F_X11_bits A_X11_bits g0 g' ∧ ∃ r : Int32, w = some (.int r) ∧ True) := by
  have hF0 : Fr F_X11_bits A_X11_bits g0 g0 := Fr.rf
  refine Ev.mk rfl rfl ⟨Nat.le_of_ble_eq_true rfl, Or.inl rfl⟩ ?_
  show At _ none _ _ (0, [(0, .int a0)], [], (_, _)) _
  refine At.enter rfl ?_
  refine r_iconst 0 rfl ?_
  refine r_istore_n ([(1, .int 0), (0, .int a0)]) rfl ?_
  refine r_iconst 0 rfl ?_
  refine r_istore_n ([(2, .int 0), (1, .int 0), (0, .int a0)]) rfl ?_
  refine Ar.fall 4 rfl ?_
  have z_272 : (0 : Int32).toInt = 0 := rfl
  have z_273 : (0 : Int32).toInt = 0 := rfl
  refine w_loopI (fun n_ l_ g_ => ∃ x260 : Int32, ∃ x261 : Int32, n_ = 12 - x261.toInt ∧ HI g_ ∧ Fr F_X11_bits A_X11_bits g0 g_ ∧ en_get 0 l_ = some (.int a0) ∧ en_get 1 l_ = some (.int x260) ∧ en_get 2 l_ = some (.int x261) ∧ (0 ≤ x261.toInt ∧ x261.toInt ≤ 12)) ?_ (12 - 0) ⟨0, 0, by first | rfl | omega, hI0, hF0, rfl, rfl, rfl, by decide⟩
  rintro n266 l265 g262 ⟨x260, x261, hm274, hI263, hF264, e268, e269, e270, r271⟩ ih267
  refine At.enter rfl ?_
  refine r_iload_n e270 ?_
  refine r_bipush 12 rfl ?_
  refine r_ics 10 rfl (fun c275 => ?_) (fun c275 => ?_)
  · have c275_ : x261.toInt ≥ 12 := en_i_ge_t c275
    refine At.enter rfl ?_
    refine r_iload_n e269 ?_
    refine r_ireti ?_
    exact ⟨_, rfl, hI263, hF264, _, rfl, trivial⟩
  · have c275_ : x261.toInt < 12 := en_i_ge_f c275
    refine At.enter rfl ?_
    refine r_iload_n e269 ?_
    refine r_iload_n e268 ?_
    refine r_iload_n e270 ?_
    refine q_ishrO (fun v276 hv276 => ?_)
    refine r_iconst 1 rfl ?_
    refine q_iandO (fun v277 hv277 => ?_)
    refine q_iaddO (fun v278 _ => ?_)
    refine r_istore_n _ rfl ?_
    refine q_iinc (w_p1 (by decide) (Or.inr rfl) e270) (x261.toInt + 1) rfl (by omega) (fun v279 hv279 => ?_)
    refine r_goto ?_
    have bv280 := q_bnd v278
    exact ih267 (12 - v279.toInt) _ _ ⟨v278, v279, by first | rfl | omega, hI263, hF264, (w_p1 (by decide) (Or.inr rfl) (w_p1 (by decide) (Or.inr rfl) e268)), (w_p1 (by decide) (Or.inr rfl) (w_e1 _ _ _)), (w_e1 _ _ _), by omega⟩ ⟨by omega, by omega⟩

def F_X11_nextOf_231 : List (Nat × Nat) := []
def A_X11_nextOf_231 : List Nat := []
set_option maxRecDepth 100000 in
set_option maxHeartbeats 4000000 in
theorem T_X11_nextOf_231 (d : Nat) {N : Nat} {g0 : List en_E} (hI0 : HI g0) (a1 : Int32) (h_a1 : 0 ≤ a1.toInt ∧ a1.toInt ≤ 11) (a2 : Int32) : Ev (d + 3) 174 [.ref 231, .int a1, .int a2] (g0, N) (fun w h' => ∃ g', h' = (g', N) ∧ HI g' ∧ Fr F_X11_nextOf_231 A_X11_nextOf_231 g0 g' ∧ ∃ r : Int32, w = some (.int r) ∧ ((-1) ≤ r.toInt ∧ r.toInt ≤ 11) ∧ (r.toInt = -1 ∨ r.toInt < (eA g0 233 0).toInt)) := by
  have hF0 : Fr F_X11_nextOf_231 A_X11_nextOf_231 g0 g0 := Fr.rf
  refine Ev.mk rfl rfl ⟨Nat.le_of_ble_eq_true rfl, Or.inr (q_rc hI0.1 kx_231 rfl)⟩ ?_
  show At _ none _ _ (0, [(0, .ref 231), (1, .int a1), (2, .int a2)], [], (_, _)) _
  refine At.enter rfl ?_
  refine r_aload_n rfl ?_
  refine r_iload_n rfl ?_
  refine r_iconst 0 rfl ?_
  refine q_inlV 6 rfl [.ref 231, .int a1, .int 0] [] (Nat.le_of_ble_eq_true rfl) rfl ?_
  refine Ev.mk rfl rfl ⟨Nat.le_of_ble_eq_true rfl, Or.inr (q_rc hI0.1 kx_231 rfl)⟩ ?_
  show At _ none _ _ (0, [(0, .ref 231), (1, .int a1), (2, .int 0)], [], (_, _)) _
  refine At.enter rfl ?_
  refine r_aload_n rfl ?_
  refine q_getR (Sh.ref hI0.1 kx_231 rfl) ?_
  refine r_bipush 10 rfl ?_
  refine r_iconst 3 rfl ?_
  refine r_iload_n rfl ?_
  refine q_imul (3 * a1.toInt) rfl (by omega) (fun v433 hv433 => ?_)
  refine q_iadd (10 + v433.toInt) rfl (by omega) (fun v434 hv434 => ?_)
  refine r_iload_n rfl ?_
  refine q_iadd (v434.toInt + 0) rfl (by omega) (fun v435 hv435 => ?_)
  obtain ⟨v436, hv436⟩ : ∃ v, eA g0 233 (3 * a1.toInt + 10) = v := ⟨_, rfl⟩
  have wv436 := HI.s0 hI0 (j := (3 * a1.toInt + 10)) (a1.toInt) (by omega) (by omega)
  rw [hv436] at wv436
  refine q_iald (Sh.arr hI0.1 ka_233) (3 * a1.toInt + 10) (by omega) (by omega) v436 hv436 ?_
  refine q_ireti ?_
  refine At.enter rfl ?_
  refine r_istore_n ([(3, .int v436), (0, .ref 231), (1, .int a1), (2, .int a2)]) rfl ?_
  refine r_iconst 0 rfl ?_
  refine r_istore ([(4, .int 0), (3, .int v436), (0, .ref 231), (1, .int a1), (2, .int a2)]) rfl ?_
  refine Ar.fall 10 rfl ?_
  have z_632 : (0 : Int32).toInt = 0 := rfl
  refine w_loopI (fun n_ l_ g_ => ∃ x617 : Int32, ∃ x618 : Int32, n_ = 13 - x618.toInt ∧ HI g_ ∧ Fr F_X11_nextOf_231 A_X11_nextOf_231 g0 g_ ∧ en_get 0 l_ = some (.ref 231) ∧ en_get 1 l_ = some (.int a1) ∧ en_get 2 l_ = some (.int a2) ∧ en_get 3 l_ = some (.int x617) ∧ en_get 4 l_ = some (.int x618) ∧ ((-1) ≤ x617.toInt ∧ x617.toInt ≤ 11) ∧ (0 ≤ x618.toInt ∧ x618.toInt ≤ 13)) ?_ (13 - 0) ⟨v436, 0, by first | rfl | omega, hI0, hF0, rfl, rfl, rfl, rfl, rfl, by omega, by decide⟩
  rintro n623 l622 g619 ⟨x617, x618, hm633, hI620, hF621, e625, e626, e627, e628, e629, r630, r631⟩ ih624
  refine At.enter rfl ?_
  refine r_iload e629 ?_
  refine r_bipush 13 rfl ?_
  refine r_ics 17 rfl (fun c634 => ?_) (fun c634 => ?_)
  · have c634_ : x618.toInt ≥ 13 := en_i_ge_t c634
    refine At.enter rfl ?_
    refine r_iconst (-1) rfl ?_
    refine r_ireti ?_
    exact ⟨_, rfl, hI620, hF621, _, rfl, by decide, (Or.inl rfl)⟩
  · have c634_ : x618.toInt < 13 := en_i_ge_f c634
    refine At.enter rfl ?_
    refine r_aload_n e625 ?_
    refine r_iload_n e628 ?_
    refine q_inlV 22 rfl [.ref 231, .int x617] [] (Nat.le_of_ble_eq_true rfl) rfl ?_
    refine Ev.mk rfl rfl ⟨Nat.le_of_ble_eq_true rfl, Or.inr (q_rc hI620.1 kx_231 rfl)⟩ ?_
    show At _ none _ _ (0, [(0, .ref 231), (1, .int x617)], [], (_, _)) _
    refine At.enter rfl ?_
    refine r_iload_n rfl ?_
    refine q_i2l (fun v635 hv635 => ?_)
    refine r_lconst 0 rfl ?_
    refine r_aload_n rfl ?_
    refine q_getR (Sh.ref hI620.1 kx_231 rfl) ?_
    refine r_iconst 0 rfl ?_
    obtain ⟨v636, hv636⟩ : ∃ v, eA g0 233 0 = v := ⟨_, rfl⟩
    have tv636 := congrArg Int32.toInt hv636
    have wv636 := HI.t0 hI0
    rw [hv636] at wv636
    refine q_iald (Sh.arr hI620.1 ka_233) 0 rfl (by decide) v636 ((eA_c (hF621.2.1 233 (by decide))).trans hv636) ?_
    refine q_i2l (fun v637 hv637 => ?_)
    refine r_lconst 1 rfl ?_
    refine q_lsub (v637.toInt - 1) rfl (by omega) (fun v638 hv638 => ?_)
    refine q_inlS 15 rfl [.long v635, .long 0, .long v638] [] (Nat.le_of_ble_eq_true rfl) rfl ?_
    refine Ev.mk rfl rfl ⟨Nat.le_of_ble_eq_true rfl, Or.inl rfl⟩ ?_
    show At _ none _ _ (0, [(0, .long v635), (2, .long 0), (4, .long v638)], [], (_, _)) _
    refine At.enter rfl ?_
    refine r_lload_n rfl ?_
    refine r_lload_n rfl ?_
    refine r_lcmp _ rfl ?_
    refine r_ifs 6 rfl (fun c639 => ?_) (fun c639 => ?_)
    · have c639_ : v635.toInt < 0 := en_j_lt_t c639
      refine At.enter rfl ?_
      refine r_iconst 0 rfl ?_
      refine Ar.fall 18 rfl ?_
      refine At.enter rfl ?_
      refine q_iretz (by decide) ?_
      refine At.enter rfl ?_
      refine q_iretz (by decide) ?_
      refine At.enter rfl ?_
      refine r_ift (by decide) ?_
      refine At.enter rfl ?_
      refine r_iconst (-1) rfl ?_
      refine r_ireti ?_
      exact ⟨_, rfl, hI620, hF621, _, rfl, by decide, (Or.inl rfl)⟩
    · have c639_ : v635.toInt ≥ 0 := en_j_lt_f c639
      refine At.enter rfl ?_
      refine r_lload_n rfl ?_
      refine r_lload rfl ?_
      refine r_lcmp _ rfl ?_
      refine r_ifs 13 rfl (fun c640 => ?_) (fun c640 => ?_)
      · have c640_ : v635.toInt > v638.toInt := en_j_gt_t c640
        refine At.enter rfl ?_
        refine r_iconst 0 rfl ?_
        refine Ar.fall 18 rfl ?_
        refine At.enter rfl ?_
        refine q_iretz (by decide) ?_
        refine At.enter rfl ?_
        refine q_iretz (by decide) ?_
        refine At.enter rfl ?_
        refine r_ift (by decide) ?_
        refine At.enter rfl ?_
        refine r_iconst (-1) rfl ?_
        refine r_ireti ?_
        exact ⟨_, rfl, hI620, hF621, _, rfl, by decide, (Or.inl rfl)⟩
      · have c640_ : v635.toInt ≤ v638.toInt := en_j_gt_f c640
        refine At.enter rfl ?_
        refine r_iconst 1 rfl ?_
        refine r_goto ?_
        refine At.enter rfl ?_
        refine q_iretz (by decide) ?_
        refine At.enter rfl ?_
        refine q_iretz (by decide) ?_
        refine At.enter rfl ?_
        refine r_iff 25 rfl (by decide) ?_
        refine At.enter rfl ?_
        refine r_iload_n e627 ?_
        refine r_iload_n e628 ?_
        refine q_inlS 30 rfl [.int a2, .int x617] [] (Nat.le_of_ble_eq_true rfl) rfl ?_
        refine Ev.mk rfl rfl ⟨Nat.le_of_ble_eq_true rfl, Or.inl rfl⟩ ?_
        show At _ none _ _ (0, [(0, .int a2), (1, .int x617)], [], (_, _)) _
        refine At.enter rfl ?_
        refine r_iload_n rfl ?_
        refine r_iload_n rfl ?_
        refine q_ishrO (fun v641 hv641 => ?_)
        refine r_iconst 1 rfl ?_
        refine q_iandO (fun v642 hv642 => ?_)
        refine r_iconst 1 rfl ?_
        refine r_ics 9 rfl (fun c643 => ?_) (fun c643 => ?_)
        · have c643_ : v642.toInt ≠ 1 := en_i_ne_t c643
          refine At.enter rfl ?_
          refine r_iconst 0 rfl ?_
          refine Ar.fall 14 rfl ?_
          refine At.enter rfl ?_
          refine q_iretz (by decide) ?_
          refine At.enter rfl ?_
          refine r_iff 33 rfl (by decide) ?_
          refine At.enter rfl ?_
          refine r_iload_n e628 ?_
          refine r_ireti ?_
          exact ⟨_, rfl, hI620, hF621, _, rfl, by omega, (by omega)⟩
        · have c643_ : v642.toInt = 1 := en_i_ne_f c643
          refine At.enter rfl ?_
          refine r_iconst 1 rfl ?_
          refine r_goto ?_
          refine At.enter rfl ?_
          refine q_iretz (by decide) ?_
          refine At.enter rfl ?_
          refine r_ift (by decide) ?_
          refine At.enter rfl ?_
          refine r_aload_n e625 ?_
          refine r_iload_n e628 ?_
          refine r_iconst 0 rfl ?_
          refine q_inlV 41 rfl [.ref 231, .int x617, .int 0] [] (Nat.le_of_ble_eq_true rfl) rfl ?_
          refine Ev.mk rfl rfl ⟨Nat.le_of_ble_eq_true rfl, Or.inr (q_rc hI620.1 kx_231 rfl)⟩ ?_
          show At _ none _ _ (0, [(0, .ref 231), (1, .int x617), (2, .int 0)], [], (_, _)) _
          refine At.enter rfl ?_
          refine r_aload_n rfl ?_
          refine q_getR (Sh.ref hI620.1 kx_231 rfl) ?_
          refine r_bipush 10 rfl ?_
          refine r_iconst 3 rfl ?_
          refine r_iload_n rfl ?_
          refine q_imul (3 * x617.toInt) rfl (by omega) (fun v644 hv644 => ?_)
          refine q_iadd (10 + v644.toInt) rfl (by omega) (fun v645 hv645 => ?_)
          refine r_iload_n rfl ?_
          refine q_iadd (v645.toInt + 0) rfl (by omega) (fun v646 hv646 => ?_)
          obtain ⟨v647, hv647⟩ : ∃ v, eA g0 233 (3 * x617.toInt + 10) = v := ⟨_, rfl⟩
          have wv647 := HI.s0 hI0 (j := (3 * x617.toInt + 10)) (x617.toInt) (by omega) (by omega)
          rw [hv647] at wv647
          refine q_iald (Sh.arr hI620.1 ka_233) (3 * x617.toInt + 10) (by omega) (by omega) v647 ((eA_c (hF621.2.1 233 (by decide))).trans hv647) ?_
          refine q_ireti ?_
          refine At.enter rfl ?_
          refine r_istore_n _ rfl ?_
          refine q_iinc (w_p1 (by decide) (Or.inr rfl) e629) (x618.toInt + 1) rfl (by omega) (fun v648 hv648 => ?_)
          refine r_goto ?_
          exact ih624 (13 - v648.toInt) _ _ ⟨v647, v648, by first | rfl | omega, hI620, hF621, (w_p1 (by decide) (Or.inr rfl) (w_p1 (by decide) (Or.inr rfl) e625)), (w_p1 (by decide) (Or.inr rfl) (w_p1 (by decide) (Or.inr rfl) e626)), (w_p1 (by decide) (Or.inr rfl) (w_p1 (by decide) (Or.inr rfl) e627)), (w_p1 (by decide) (Or.inr rfl) (w_e1 _ _ _)), (w_e1 _ _ _), by omega, by omega⟩ ⟨by omega, by omega⟩

def F_X11_of_231 : List (Nat × Nat) := [(231, 0)]
def A_X11_of_231 : List Nat := []
set_option maxRecDepth 100000 in
set_option maxHeartbeats 4000000 in
theorem T_X11_of_231 (d : Nat) {N : Nat} {g0 : List en_E} (hI0 : HI g0) (a1 : Int32) (a2 : Int32) : Ev (d + 4) 175 [.ref 231, .int a1, .int a2] (g0, N) (fun w h' => ∃ g', h' = (g', N) ∧ HI g' ∧ Fr F_X11_of_231 A_X11_of_231 g0 g' ∧ ∃ r : Int32, w = some (.int r) ∧ True) := by
  have hF0 : Fr F_X11_of_231 A_X11_of_231 g0 g0 := Fr.rf
  refine Ev.mk rfl rfl ⟨Nat.le_of_ble_eq_true rfl, Or.inr (q_rc hI0.1 kx_231 rfl)⟩ ?_
  show At _ none _ _ (0, [(0, .ref 231), (1, .int a1), (2, .int a2)], [], (_, _)) _
  refine At.enter rfl ?_
  refine r_aload_n rfl ?_
  refine r_iconst 0 rfl ?_
  refine q_putI (Sh.int hI0.1 kx_231 rfl) rfl ?_
  have hI47 := HI.wI0 hI0 kx_231 rfl (p := 231) (b := 0) (v := 0) rfl
  have hF48 := Fr.wI (p := 231) (b := 0) (v := 0) hF0 rfl
  refine r_aload_n rfl ?_
  refine r_iload_n rfl ?_
  refine q_inlV 10 rfl [.ref 231, .int a1] [] (Nat.le_of_ble_eq_true rfl) rfl ?_
  refine Ev.mk rfl rfl ⟨Nat.le_of_ble_eq_true rfl, Or.inr (q_rc hI47.1 kx_231 rfl)⟩ ?_
  show At _ none _ _ (0, [(0, .ref 231), (1, .int a1)], [], (_, _)) _
  refine At.enter rfl ?_
  refine r_iload_n rfl ?_
  refine q_i2l (fun v49 hv49 => ?_)
  refine r_lconst 0 rfl ?_
  refine r_aload_n rfl ?_
  refine q_getR (Sh.ref hI47.1 kx_231 rfl) ?_
  refine r_iconst 0 rfl ?_
  obtain ⟨v50, hv50⟩ : ∃ v, eA g0 233 0 = v := ⟨_, rfl⟩
  have tv50 := congrArg Int32.toInt hv50
  have wv50 := HI.t0 hI0
  rw [hv50] at wv50
  refine q_iald (Sh.arr hI47.1 ka_233) 0 rfl (by decide) v50 ((eA_c (gA_sI)).trans hv50) ?_
  refine q_i2l (fun v51 hv51 => ?_)
  refine r_lconst 1 rfl ?_
  refine q_lsub (v51.toInt - 1) rfl (by omega) (fun v52 hv52 => ?_)
  refine q_inlS 15 rfl [.long v49, .long 0, .long v52] [] (Nat.le_of_ble_eq_true rfl) rfl ?_
  refine Ev.mk rfl rfl ⟨Nat.le_of_ble_eq_true rfl, Or.inl rfl⟩ ?_
  show At _ none _ _ (0, [(0, .long v49), (2, .long 0), (4, .long v52)], [], (_, _)) _
  refine At.enter rfl ?_
  refine r_lload_n rfl ?_
  refine r_lload_n rfl ?_
  refine r_lcmp _ rfl ?_
  refine r_ifs 6 rfl (fun c53 => ?_) (fun c53 => ?_)
  · have c53_ : v49.toInt < 0 := en_j_lt_t c53
    refine At.enter rfl ?_
    refine r_iconst 0 rfl ?_
    refine Ar.fall 18 rfl ?_
    refine At.enter rfl ?_
    refine q_iretz (by decide) ?_
    refine At.enter rfl ?_
    refine q_iretz (by decide) ?_
    refine At.enter rfl ?_
    refine r_ift (by decide) ?_
    refine At.enter rfl ?_
    refine r_iconst (-1) rfl ?_
    refine r_ireti ?_
    exact ⟨_, rfl, hI47, hF48, _, rfl, trivial⟩
  · have c53_ : v49.toInt ≥ 0 := en_j_lt_f c53
    refine At.enter rfl ?_
    refine r_lload_n rfl ?_
    refine r_lload rfl ?_
    refine r_lcmp _ rfl ?_
    refine r_ifs 13 rfl (fun c54 => ?_) (fun c54 => ?_)
    · have c54_ : v49.toInt > v52.toInt := en_j_gt_t c54
      refine At.enter rfl ?_
      refine r_iconst 0 rfl ?_
      refine Ar.fall 18 rfl ?_
      refine At.enter rfl ?_
      refine q_iretz (by decide) ?_
      refine At.enter rfl ?_
      refine q_iretz (by decide) ?_
      refine At.enter rfl ?_
      refine r_ift (by decide) ?_
      refine At.enter rfl ?_
      refine r_iconst (-1) rfl ?_
      refine r_ireti ?_
      exact ⟨_, rfl, hI47, hF48, _, rfl, trivial⟩
    · have c54_ : v49.toInt ≤ v52.toInt := en_j_gt_f c54
      refine At.enter rfl ?_
      refine r_iconst 1 rfl ?_
      refine r_goto ?_
      refine At.enter rfl ?_
      refine q_iretz (by decide) ?_
      refine At.enter rfl ?_
      refine q_iretz (by decide) ?_
      refine At.enter rfl ?_
      refine r_iff 13 rfl (by decide) ?_
      refine At.enter rfl ?_
      refine r_iload_n rfl ?_
      refine q_i2l (fun v55 hv55 => ?_)
      refine r_lconst 0 rfl ?_
      refine r_ldc2 3 rfl ?_
      refine q_inlS 22 rfl [.long v55, .long 0, .long 3] [] (Nat.le_of_ble_eq_true rfl) rfl ?_
      refine Ev.mk rfl rfl ⟨Nat.le_of_ble_eq_true rfl, Or.inl rfl⟩ ?_
      show At _ none _ _ (0, [(0, .long v55), (2, .long 0), (4, .long 3)], [], (_, _)) _
      refine At.enter rfl ?_
      refine r_lload_n rfl ?_
      refine r_lload_n rfl ?_
      refine r_lcmp _ rfl ?_
      refine r_ifs 6 rfl (fun c56 => ?_) (fun c56 => ?_)
      · have c56_ : v55.toInt < 0 := en_j_lt_t c56
        refine At.enter rfl ?_
        refine r_iconst 0 rfl ?_
        refine Ar.fall 18 rfl ?_
        refine At.enter rfl ?_
        refine q_iretz (by decide) ?_
        refine At.enter rfl ?_
        refine r_iff 25 rfl (by decide) ?_
        refine At.enter rfl ?_
        refine r_iconst (-1) rfl ?_
        refine r_ireti ?_
        exact ⟨_, rfl, hI47, hF48, _, rfl, trivial⟩
      · have c56_ : v55.toInt ≥ 0 := en_j_lt_f c56
        refine At.enter rfl ?_
        refine r_lload_n rfl ?_
        refine r_lload rfl ?_
        refine r_lcmp _ rfl ?_
        refine r_ifs 13 rfl (fun c57 => ?_) (fun c57 => ?_)
        · have c57_ : v55.toInt > 3 := en_j_gt_t c57
          refine At.enter rfl ?_
          refine r_iconst 0 rfl ?_
          refine Ar.fall 18 rfl ?_
          refine At.enter rfl ?_
          refine q_iretz (by decide) ?_
          refine At.enter rfl ?_
          refine r_iff 25 rfl (by decide) ?_
          refine At.enter rfl ?_
          refine r_iconst (-1) rfl ?_
          refine r_ireti ?_
          exact ⟨_, rfl, hI47, hF48, _, rfl, trivial⟩
        · have c57_ : v55.toInt ≤ 3 := en_j_gt_f c57
          refine At.enter rfl ?_
          refine r_iconst 1 rfl ?_
          refine r_goto ?_
          refine At.enter rfl ?_
          refine q_iretz (by decide) ?_
          refine At.enter rfl ?_
          refine r_ift (by decide) ?_
          refine At.enter rfl ?_
          refine r_iload_n rfl ?_
          refine r_iconst 3 rfl ?_
          refine r_ics 32 rfl (fun c58 => ?_) (fun c58 => ?_)
          · have c58_ : a2.toInt ≠ 3 := en_i_ne_t c58
            refine At.enter rfl ?_
            refine r_aload_n rfl ?_
            refine r_iload_n rfl ?_
            refine r_iload_n rfl ?_
            refine q_inlV 47 rfl [.ref 231, .int a1, .int a2] [] (Nat.le_of_ble_eq_true rfl) rfl ?_
            refine Ev.mk rfl rfl ⟨Nat.le_of_ble_eq_true rfl, Or.inr (q_rc hI47.1 kx_231 rfl)⟩ ?_
            show At _ none _ _ (0, [(0, .ref 231), (1, .int a1), (2, .int a2)], [], (_, _)) _
            refine At.enter rfl ?_
            refine r_aload_n rfl ?_
            refine q_getR (Sh.ref hI47.1 kx_231 rfl) ?_
            refine r_bipush 10 rfl ?_
            refine r_iconst 3 rfl ?_
            refine r_iload_n rfl ?_
            refine q_imul (3 * a1.toInt) rfl (by omega) (fun v59 hv59 => ?_)
            refine q_iadd (10 + v59.toInt) rfl (by omega) (fun v60 hv60 => ?_)
            refine r_iload_n rfl ?_
            refine q_iadd (v60.toInt + a2.toInt) rfl (by omega) (fun v61 hv61 => ?_)
            obtain ⟨v62, hv62⟩ : ∃ v, eA g0 233 (3 * a1.toInt + a2.toInt + 10) = v := ⟨_, rfl⟩
            refine q_iald (Sh.arr hI47.1 ka_233) (3 * a1.toInt + a2.toInt + 10) (by omega) (by omega) v62 ((eA_c (gA_sI)).trans hv62) ?_
            refine q_ireti ?_
            refine At.enter rfl ?_
            refine r_ireti ?_
            exact ⟨_, rfl, hI47, hF48, _, rfl, trivial⟩
          · have c58_ : a2.toInt = 3 := en_i_ne_f c58
            refine At.enter rfl ?_
            refine r_aload_n rfl ?_
            refine r_iload_n rfl ?_
            refine r_iconst 0 rfl ?_
            refine r_callV 38 rfl [.ref 231, .int a1, .int 0] [] (Nat.le_of_ble_eq_true rfl) rfl (T_X11_nextOf_231 _ hI47 a1 (by omega) 0) ?_
            rintro _ _ ⟨g63, rfl, hI64, hF65, v66, rfl, hr67⟩
            refine At.sti ?_
            have hF68 := Fr.tr hF48 hF65 rfl rfl
            have zv69 : (0 : Int32).toInt = 0 := rfl
            rw [eA_c ((gA_sI))] at hr67
            refine At.enter rfl ?_
            refine r_goto ?_
            refine At.enter rfl ?_
            refine r_ireti ?_
            exact ⟨_, rfl, hI64, hF68, _, rfl, trivial⟩
