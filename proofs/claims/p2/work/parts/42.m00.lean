def F_X11_tell_231 : List (Nat × Nat) := [(231, 1)]
def A_X11_tell_231 : List Nat := [232]
set_option maxRecDepth 100000 in
set_option maxHeartbeats 4000000 in
theorem T_X11_tell_231 (d : Nat) {N : Nat} {g0 : List en_E} (hI0 : HI g0) (a1 : Int32) (h_a1 : (-6) ≤ a1.toInt ∧ a1.toInt ≤ 2147483647) : Ev (d + 1) 162 [.ref 231, .int a1] (g0, N) (fun w h' => ∃ g', h' = (g', N) ∧ HI g' ∧ Fr F_X11_tell_231 A_X11_tell_231 g0 g' ∧ ∃ r : Int32, w = some (.int r) ∧ ((-6) ≤ r.toInt) ∧ (r.toInt = a1.toInt)) := by
  have hF0 : Fr F_X11_tell_231 A_X11_tell_231 g0 g0 := Fr.rf
  refine Ev.mk rfl rfl ⟨Nat.le_of_ble_eq_true rfl, Or.inr (q_rc hI0.1 kx_231 rfl)⟩ ?_
  show At _ none _ _ (0, [(0, .ref 231), (1, .int a1)], [], (_, _)) _
  refine At.enter rfl ?_
  refine r_aload_n rfl ?_
  refine r_iload_n rfl ?_
  refine r_ifs 5 rfl (fun c25 => ?_) (fun c25 => ?_)
  · have c25_ : a1.toInt ≥ 0 := en_k_ge_t c25
    refine At.enter rfl ?_
    refine r_iconst 0 rfl ?_
    refine Ar.fall 10 rfl ?_
    refine At.enter rfl ?_
    refine q_putI (Sh.int hI0.1 kx_231 rfl) rfl ?_
    have hI26 := HI.wI0 hI0 kx_231 rfl (p := 231) (b := 1) (v := 0) rfl
    have hF27 := Fr.wI (p := 231) (b := 1) (v := 0) hF0 rfl
    refine r_iload_n rfl ?_
    refine r_ifs 17 rfl (fun c28 => ?_) (fun c28 => ?_)
    · have c28_ : a1.toInt ≥ 0 := en_k_ge_t c28
      refine At.enter rfl ?_
      refine r_iload_n rfl ?_
      refine r_ireti ?_
      exact ⟨_, rfl, hI26, hF27, _, rfl, by omega, (by omega)⟩
    · have c28_ : a1.toInt < 0 := en_k_ge_f c28
      exfalso; omega
  · have c25_ : a1.toInt < 0 := en_k_ge_f c25
    refine At.enter rfl ?_
    refine r_iload_n rfl ?_
    refine r_goto ?_
    refine At.enter rfl ?_
    refine q_putI (Sh.int hI0.1 kx_231 rfl) rfl ?_
    have hI29 := HI.wI0 hI0 kx_231 rfl (p := 231) (b := 1) (v := a1) rfl
    have hF30 := Fr.wI (p := 231) (b := 1) (v := a1) hF0 rfl
    refine r_iload_n rfl ?_
    refine r_ifs 17 rfl (fun c31 => ?_) (fun c31 => ?_)
    · have c31_ : a1.toInt ≥ 0 := en_k_ge_t c31
      exfalso; omega
    · have c31_ : a1.toInt < 0 := en_k_ge_f c31
      refine At.enter rfl ?_
      refine r_aload_n rfl ?_
      refine q_getR (Sh.ref hI29.1 kx_231 rfl) ?_
      refine r_iload_n rfl ?_
      refine q_ineg (-a1.toInt) rfl (by omega) (fun v32 hv32 => ?_)
      refine r_dup2 ⟨rfl, rfl⟩ ?_
      obtain ⟨v33, hv33⟩ : ∃ v, eA g0 232 ((-1) * a1.toInt) = v := ⟨_, rfl⟩
      refine q_iald (Sh.arr hI29.1 ka_232) ((-1) * a1.toInt) (by omega) (by omega) v33 ((eA_c (gA_sI)).trans hv33) ?_
      refine r_iconst 1 rfl ?_
      refine q_iaddO (fun v34 _ => ?_)
      refine q_iast (Sh.arr hI29.1 ka_232) (((-1) * a1.toInt)) (by omega) (by omega) ?_
      have hI35 := HI.wA0 hI29 ka_232 (p := 232) rfl rfl (((-1) * a1.toInt)) (v34)
      have hF36 := Fr.wA (p := 232) (j := ((-1) * a1.toInt)) (v := v34) hF30 rfl
      refine Ar.fall 28 rfl ?_
      refine At.enter rfl ?_
      refine r_iload_n rfl ?_
      refine r_ireti ?_
      exact ⟨_, rfl, hI35, hF36, _, rfl, by omega, (by omega)⟩

def F_X11_bits : List (Nat × Nat) := []
def A_X11_bits : List Nat := []
set_option maxRecDepth 100000 in
set_option maxHeartbeats 4000000 in
theorem T_X11_bits (d : Nat) {N : Nat} {g0 : List en_E} (hI0 : HI g0) (a0 : Int32) : Ev (d + 1) 161 [.int a0] (g0, N) (fun w h' => ∃ g', h' = (g', N) ∧ HI g' ∧ Fr F_X11_bits A_X11_bits g0 g' ∧ ∃ r : Int32, w = some (.int r) ∧ True) := by
  have hF0 : Fr F_X11_bits A_X11_bits g0 g0 := Fr.rf
  refine Ev.mk rfl rfl ⟨Nat.le_of_ble_eq_true rfl, Or.inl rfl⟩ ?_
  show At _ none _ _ (0, [(0, .int a0)], [], (_, _)) _
  refine At.enter rfl ?_
  refine r_iconst 0 rfl ?_
  refine r_istore_n ([(1, .int 0), (0, .int a0)]) rfl ?_
  refine r_iconst 0 rfl ?_
  refine r_istore_n ([(2, .int 0), (1, .int 0), (0, .int a0)]) rfl ?_
  refine Ar.fall 4 rfl ?_
  have z_272 : (0 : Int32).toInt = 0 := rfl
  have z_273 : (0 : Int32).toInt = 0 := rfl
  refine w_loopI (fun n_ l_ g_ => ∃ x260 : Int32, ∃ x261 : Int32, n_ = 12 - x261.toInt ∧ HI g_ ∧ Fr F_X11_bits A_X11_bits g0 g_ ∧ en_get 0 l_ = some (.int a0) ∧ en_get 1 l_ = some (.int x260) ∧ en_get 2 l_ = some (.int x261) ∧ (0 ≤ x261.toInt ∧ x261.toInt ≤ 12)) ?_ (12 - 0) ⟨0, 0, by first | rfl | omega, hI0, hF0, rfl, rfl, rfl, by decide⟩
  rintro n266 l265 g262 ⟨x260, x261, hm274, hI263, hF264, e268, e269, e270, r271⟩ ih267
  refine At.enter rfl ?_
  refine r_iload_n e270 ?_
  refine r_bipush 12 rfl ?_
  refine r_ics 10 rfl (fun c275 => ?_) (fun c275 => ?_)
  · have c275_ : x261.toInt ≥ 12 := en_i_ge_t c275
    refine At.enter rfl ?_
    refine r_iload_n e269 ?_
    refine r_ireti ?_
    exact ⟨_, rfl, hI263, hF264, _, rfl, trivial⟩
  · have c275_ : x261.toInt < 12 := en_i_ge_f c275
    refine At.enter rfl ?_
    refine r_iload_n e269 ?_
    refine r_iload_n e268 ?_
    refine r_iload_n e270 ?_
    refine q_ishrO (fun v276 hv276 => ?_)
    refine r_iconst 1 rfl ?_
    refine q_iandO (fun v277 hv277 => ?_)
    refine q_iaddO (fun v278 _ => ?_)
    refine r_istore_n _ rfl ?_
    refine q_iinc (w_p1 (by decide) (Or.inr rfl) e270) (x261.toInt + 1) rfl (by omega) (fun v279 hv279 => ?_)
    refine r_goto ?_
    have bv280 := q_bnd v278
    exact ih267 (12 - v279.toInt) _ _ ⟨v278, v279, by first | rfl | omega, hI263, hF264, (w_p1 (by decide) (Or.inr rfl) (w_p1 (by decide) (Or.inr rfl) e268)), (w_p1 (by decide) (Or.inr rfl) (w_e1 _ _ _)), (w_e1 _ _ _), by omega⟩ ⟨by omega, by omega⟩

def F_X11_nextOf_231 : List (Nat × Nat) := []
def A_X11_nextOf_231 : List Nat := []
set_option maxRecDepth 100000 in
set_option maxHeartbeats 4000000 in
theorem T_X11_nextOf_231 (d : Nat) {N : Nat} {g0 : List en_E} (hI0 : HI g0) (a1 : Int32) (h_a1 : 0 ≤ a1.toInt ∧ a1.toInt ≤ 11) (a2 : Int32) : Ev (d + 3) 174 [.ref 231, .int a1, .int a2] (g0, N) (fun w h' => ∃ g', h' = (g', N) ∧ HI g' ∧ Fr F_X11_nextOf_231 A_X11_nextOf_231 g0 g' ∧ ∃ r : Int32, w = some (.int r) ∧ ((-1) ≤ r.toInt ∧ r.toInt ≤ 11) ∧ (r.toInt = -1 ∨ r.toInt < (eA g0 233 0).toInt)) := by
  have hF0 : Fr F_X11_nextOf_231 A_X11_nextOf_231 g0 g0 := Fr.rf
  refine Ev.mk rfl rfl ⟨Nat.le_of_ble_eq_true rfl, Or.inr (q_rc hI0.1 kx_231 rfl)⟩ ?_
  show At _ none _ _ (0, [(0, .ref 231), (1, .int a1), (2, .int a2)], [], (_, _)) _
  refine At.enter rfl ?_
  refine r_aload_n rfl ?_
  refine r_iload_n rfl ?_
  refine r_iconst 0 rfl ?_
  refine q_inlV 6 rfl [.ref 231, .int a1, .int 0] [] (Nat.le_of_ble_eq_true rfl) rfl ?_
  refine Ev.mk rfl rfl ⟨Nat.le_of_ble_eq_true rfl, Or.inr (q_rc hI0.1 kx_231 rfl)⟩ ?_
  show At _ none _ _ (0, [(0, .ref 231), (1, .int a1), (2, .int 0)], [], (_, _)) _
  refine At.enter rfl ?_
  refine r_aload_n rfl ?_
  refine q_getR (Sh.ref hI0.1 kx_231 rfl) ?_
  refine r_bipush 10 rfl ?_
  refine r_iconst 3 rfl ?_
  refine r_iload_n rfl ?_
  refine q_imul (3 * a1.toInt) rfl (by omega) (fun v433 hv433 => ?_)
  refine q_iadd (10 + v433.toInt) rfl (by omega) (fun v434 hv434 => ?_)
  refine r_iload_n rfl ?_
  refine q_iadd (v434.toInt + 0) rfl (by omega) (fun v435 hv435 => ?_)
  obtain ⟨v436, hv436⟩ : ∃ v, eA g0 233 (3 * a1.toInt + 10) = v := ⟨_, rfl⟩
  have wv436 := HI.s0 hI0 (j := (3 * a1.toInt + 10)) (a1.toInt) (by omega) (by omega)
  rw [hv436] at wv436
  refine q_iald (Sh.arr hI0.1 ka_233) (3 * a1.toInt + 10) (by omega) (by omega) v436 hv436 ?_
  refine q_ireti ?_
  refine At.enter rfl ?_
  refine r_istore_n ([(3, .int v436), (0, .ref 231), (1, .int a1), (2, .int a2)]) rfl ?_
  refine r_iconst 0 rfl ?_
  refine r_istore ([(4, .int 0), (3, .int v436), (0, .ref 231), (1, .int a1), (2, .int a2)]) rfl ?_
  refine Ar.fall 10 rfl ?_
  have z_632 : (0 : Int32).toInt = 0 := rfl
  refine w_loopI (fun n_ l_ g_ => ∃ x617 : Int32, ∃ x618 : Int32, n_ = 13 - x618.toInt ∧ HI g_ ∧ Fr F_X11_nextOf_231 A_X11_nextOf_231 g0 g_ ∧ en_get 0 l_ = some (.ref 231) ∧ en_get 1 l_ = some (.int a1) ∧ en_get 2 l_ = some (.int a2) ∧ en_get 3 l_ = some (.int x617) ∧ en_get 4 l_ = some (.int x618) ∧ ((-1) ≤ x617.toInt ∧ x617.toInt ≤ 11) ∧ (0 ≤ x618.toInt ∧ x618.toInt ≤ 13)) ?_ (13 - 0) ⟨v436, 0, by first | rfl | omega, hI0, hF0, rfl, rfl, rfl, rfl, rfl, by omega, by decide⟩
  rintro n623 l622 g619 ⟨x617, x618, hm633, hI620, hF621, e625, e626, e627, e628, e629, r630, r631⟩ ih624
  refine At.enter rfl ?_
  refine r_iload e629 ?_
  refine r_bipush 13 rfl ?_
  refine r_ics 17 rfl (fun c634 => ?_) (fun c634 => ?_)
  · have c634_ : x618.toInt ≥ 13 := en_i_ge_t c634
    refine At.enter rfl ?_
    refine r_iconst (-1) rfl ?_
    refine r_ireti ?_
    exact ⟨_, rfl, hI620, hF621, _, rfl, by decide, (Or.inl rfl)⟩
  · have c634_ : x618.toInt < 13 := en_i_ge_f c634
    refine At.enter rfl ?_
    refine r_aload_n e625 ?_
    refine r_iload_n e628 ?_
    refine q_inlV 22 rfl [.ref 231, .int x617] [] (Nat.le_of_ble_eq_true rfl) rfl ?_
    refine Ev.mk rfl rfl ⟨Nat.le_of_ble_eq_true rfl, Or.inr (q_rc hI620.1 kx_231 rfl)⟩ ?_
    show At _ none _ _ (0, [(0, .ref 231), (1, .int x617)], [], (_, _)) _
    refine At.enter rfl ?_
    refine r_iload_n rfl ?_
    refine q_i2l (fun v635 hv635 => ?_)
    refine r_lconst 0 rfl ?_
    refine r_aload_n rfl ?_
    refine q_getR (Sh.ref hI620.1 kx_231 rfl) ?_
    refine r_iconst 0 rfl ?_
    obtain ⟨v636, hv636⟩ : ∃ v, eA g0 233 0 = v := ⟨_, rfl⟩
    have tv636 := congrArg Int32.toInt hv636
    have wv636 := HI.t0 hI0
    rw [hv636] at wv636
    refine q_iald (Sh.arr hI620.1 ka_233) 0 rfl (by decide) v636 ((eA_c (hF621.2.1 233 (by decide))).trans hv636) ?_
    refine q_i2l (fun v637 hv637 => ?_)
    refine r_lconst 1 rfl ?_
    refine q_lsub (v637.toInt - 1) rfl (by omega) (fun v638 hv638 => ?_)
    refine q_inlS 15 rfl [.long v635, .long 0, .long v638] [] (Nat.le_of_ble_eq_true rfl) rfl ?_
    refine Ev.mk rfl rfl ⟨Nat.le_of_ble_eq_true rfl, Or.inl rfl⟩ ?_
    show At _ none _ _ (0, [(0, .long v635), (2, .long 0), (4, .long v638)], [], (_, _)) _
    refine At.enter rfl ?_
    refine r_lload_n rfl ?_
    refine r_lload_n rfl ?_
    refine r_lcmp _ rfl ?_
    refine r_ifs 6 rfl (fun c639 => ?_) (fun c639 => ?_)
    · have c639_ : v635.toInt < 0 := en_j_lt_t c639
      refine At.enter rfl ?_
      refine r_iconst 0 rfl ?_
      refine Ar.fall 18 rfl ?_
      refine At.enter rfl ?_
      refine q_iretz (by decide) ?_
      refine At.enter rfl ?_
      refine q_iretz (by decide) ?_
      refine At.enter rfl ?_
      refine r_ift (by decide) ?_
      refine At.enter rfl ?_
      refine r_iconst (-1) rfl ?_
      refine r_ireti ?_
      exact ⟨_, rfl, hI620, hF621, _, rfl, by decide, (Or.inl rfl)⟩
    · have c639_ : v635.toInt ≥ 0 := en_j_lt_f c639
      refine At.enter rfl ?_
      refine r_lload_n rfl ?_
      refine r_lload rfl ?_
      refine r_lcmp _ rfl ?_
      refine r_ifs 13 rfl (fun c640 => ?_) (fun c640 => ?_)
      · have c640_ : v635.toInt > v638.toInt := en_j_gt_t c640
        refine At.enter rfl ?_
        refine r_iconst 0 rfl ?_
        refine Ar.fall 18 rfl ?_
        refine At.enter rfl ?_
        refine q_iretz (by decide) ?_
        refine At.enter rfl ?_
        refine q_iretz (by decide) ?_
        refine At.enter rfl ?_
        refine r_ift (by decide) ?_
        refine At.enter rfl ?_
        refine r_iconst (-1) rfl ?_
        refine r_ireti ?_
        exact ⟨_, rfl, hI620, hF621, _, rfl, by decide, (Or.inl rfl)⟩
      · have c640_ : v635.toInt ≤ v638.toInt := en_j_gt_f c640
        refine At.enter rfl ?_
        refine r_iconst 1 rfl ?_
        refine r_goto ?_
        refine At.enter rfl ?_
        refine q_iretz (by decide) ?_
        refine At.enter rfl ?_
        refine q_iretz (by decide) ?_
        refine At.enter rfl ?_
        refine r_iff 25 rfl (by decide) ?_
        refine At.enter rfl ?_
        refine r_iload_n e627 ?_
        refine r_iload_n e628 ?_
        refine q_inlS 30 rfl [.int a2, .int x617] [] (Nat.le_of_ble_eq_true rfl) rfl ?_
        refine Ev.mk rfl rfl ⟨Nat.le_of_ble_eq_true rfl, Or.inl rfl⟩ ?_
        show At _ none _ _ (0, [(0, .int a2), (1, .int x617)], [], (_, _)) _
        refine At.enter rfl ?_
        refine r_iload_n rfl ?_
        refine r_iload_n rfl ?_
        refine q_ishrO (fun v641 hv641 => ?_)
        refine r_iconst 1 rfl ?_
        refine q_iandO (fun v642 hv642 => ?_)
        refine r_iconst 1 rfl ?_
        refine r_ics 9 rfl (fun c643 => ?_) (fun c643 => ?_)
        · have c643_ : v642.toInt ≠ 1 := en_i_ne_t c643
          refine At.enter rfl ?_
          refine r_iconst 0 rfl ?_
          refine Ar.fall 14 rfl ?_
          refine At.enter rfl ?_
          refine q_iretz (by decide) ?_
          refine At.enter rfl ?_
          refine r_iff 33 rfl (by decide) ?_
          refine At.enter rfl ?_
          refine r_iload_n e628 ?_
          refine r_ireti ?_
          exact ⟨_, rfl, hI620, hF621, _, rfl, by omega, (by omega)⟩
        · have c643_ : v642.toInt = 1 := en_i_ne_f c643
          refine At.enter rfl ?_
          refine r_iconst 1 rfl ?_
          refine r_goto ?_
          refine At.enter rfl ?_
          refine q_iretz (by decide) ?_
          refine At.enter rfl ?_
          refine r_ift (by decide) ?_
          refine At.enter rfl ?_
          refine r_aload_n e625 ?_
          refine r_iload_n e628 ?_
          refine r_iconst 0 rfl ?_
          refine q_inlV 41 rfl [.ref 231, .int x617, .int 0] [] (Nat.le_of_ble_eq_true rfl) rfl ?_
          refine Ev.mk rfl rfl ⟨Nat.le_of_ble_eq_true rfl, Or.inr (q_rc hI620.1 kx_231 rfl)⟩ ?_
          show At _ none _ _ (0, [(0, .ref 231), (1, .int x617), (2, .int 0)], [], (_, _)) _
          refine At.enter rfl ?_
          refine r_aload_n rfl ?_
          refine q_getR (Sh.ref hI620.1 kx_231 rfl) ?_
          refine r_bipush 10 rfl ?_
          refine r_iconst 3 rfl ?_
          refine r_iload_n rfl ?_
          refine q_imul (3 * x617.toInt) rfl (by omega) (fun v644 hv644 => ?_)
          refine q_iadd (10 + v644.toInt) rfl (by omega) (fun v645 hv645 => ?_)
          refine r_iload_n rfl ?_
          refine q_iadd (v645.toInt + 0) rfl (by omega) (fun v646 hv646 => ?_)
          obtain ⟨v647, hv647⟩ : ∃ v, eA g0 233 (3 * x617.toInt + 10) = v := ⟨_, rfl⟩
          have wv647 := HI.s0 hI0 (j := (3 * x617.toInt + 10)) (x617.toInt) (by omega) (by omega)
          rw [hv647] at wv647
          refine q_iald (Sh.arr hI620.1 ka_233) (3 * x617.toInt + 10) (by omega) (by omega) v647 ((eA_c (hF621.2.1 233 (by decide))).trans hv647) ?_
          refine q_ireti ?_
          refine At.enter rfl ?_
          refine r_istore_n _ rfl ?_
          refine q_iinc (w_p1 (by decide) (Or.inr rfl) e629) (x618.toInt + 1) rfl (by omega) (fun v648 hv648 => ?_)
          refine r_goto ?_
          exact ih624 (13 - v648.toInt) _ _ ⟨v647, v648, by first | rfl | omega, hI620, hF621, (w_p1 (by decide) (Or.inr rfl) (w_p1 (by decide) (Or.inr rfl) e625)), (w_p1 (by decide) (Or.inr rfl) (w_p1 (by decide) (Or.inr rfl) e626)), (w_p1 (by decide) (Or.inr rfl) (w_p1 (by decide) (Or.inr rfl) e627)), (w_p1 (by decide) (Or.inr rfl) (w_e1 _ _ _)), (w_e1 _ _ _), by omega, by omega⟩ ⟨by omega, by omega⟩

def F_X11_of_231 : List (Nat × Nat) := [(231, 0)]
def A_X11_of_231 : List Nat := []
set_option maxRecDepth 100000 in
set_option maxHeartbeats 4000000 in
theorem T_X11_of_231 (d : Nat) {N : Nat} {g0 : List en_E} (hI0 : HI g0) (a1 : Int32) (a2 : Int32) : Ev (d + 4) 175 [.ref 231, .int a1, .int a2] (g0, N) (fun w h' => ∃ g', h' = (g', N) ∧ HI g' ∧ Fr F_X11_of_231 A_X11_of_231 g0 g' ∧ ∃ r : Int32, w = some (.int r) ∧ True) := by
  have hF0 : Fr F_X11_of_231 A_X11_of_231 g0 g0 := Fr.rf
  refine Ev.mk rfl rfl ⟨Nat.le_of_ble_eq_true rfl, Or.inr (q_rc hI0.1 kx_231 rfl)⟩ ?_
  show At _ none _ _ (0, [(0, .ref 231), (1, .int a1), (2, .int a2)], [], (_, _)) _
  refine At.enter rfl ?_
  refine r_aload_n rfl ?_
  refine r_iconst 0 rfl ?_
  refine q_putI (Sh.int hI0.1 kx_231 rfl) rfl ?_
  have hI47 := HI.wI0 hI0 kx_231 rfl (p := 231) (b := 0) (v := 0) rfl
  have hF48 := Fr.wI (p := 231) (b := 0) (v := 0) hF0 rfl
  refine r_aload_n rfl ?_
  refine r_iload_n rfl ?_
  refine q_inlV 10 rfl [.ref 231, .int a1] [] (Nat.le_of_ble_eq_true rfl) rfl ?_
  refine Ev.mk rfl rfl ⟨Nat.le_of_ble_eq_true rfl, Or.inr (q_rc hI47.1 kx_231 rfl)⟩ ?_
  show At _ none _ _ (0, [(0, .ref 231), (1, .int a1)], [], (_, _)) _
  refine At.enter rfl ?_
  refine r_iload_n rfl ?_
  refine q_i2l (fun v49 hv49 => ?_)
  refine r_lconst 0 rfl ?_
  refine r_aload_n rfl ?_
  refine q_getR (Sh.ref hI47.1 kx_231 rfl) ?_
  refine r_iconst 0 rfl ?_
  obtain ⟨v50, hv50⟩ : ∃ v, eA g0 233 0 = v := ⟨_, rfl⟩
  have tv50 := congrArg Int32.toInt hv50
  have wv50 := HI.t0 hI0
  rw [hv50] at wv50
  refine q_iald (Sh.arr hI47.1 ka_233) 0 rfl (by decide) v50 ((eA_c (gA_sI)).trans hv50) ?_
  refine q_i2l (fun v51 hv51 => ?_)
  refine r_lconst 1 rfl ?_
  refine q_lsub (v51.toInt - 1) rfl (by omega) (fun v52 hv52 => ?_)
  refine q_inlS 15 rfl [.long v49, .long 0, .long v52] [] (Nat.le_of_ble_eq_true rfl) rfl ?_
  refine Ev.mk rfl rfl ⟨Nat.le_of_ble_eq_true rfl, Or.inl rfl⟩ ?_
  show At _ none _ _ (0, [(0, .long v49), (2, .long 0), (4, .long v52)], [], (_, _)) _
  refine At.enter rfl ?_
  refine r_lload_n rfl ?_
  refine r_lload_n rfl ?_
  refine r_lcmp _ rfl ?_
  refine r_ifs 6 rfl (fun c53 => ?_) (fun c53 => ?_)
  · have c53_ : v49.toInt < 0 := en_j_lt_t c53
    refine At.enter rfl ?_
    refine r_iconst 0 rfl ?_
    refine Ar.fall 18 rfl ?_
    refine At.enter rfl ?_
    refine q_iretz (by decide) ?_
    refine At.enter rfl ?_
    refine q_iretz (by decide) ?_
    refine At.enter rfl ?_
    refine r_ift (by decide) ?_
    refine At.enter rfl ?_
    refine r_iconst (-1) rfl ?_
    refine r_ireti ?_
    exact ⟨_, rfl, hI47, hF48, _, rfl, trivial⟩
  · have c53_ : v49.toInt ≥ 0 := en_j_lt_f c53
    refine At.enter rfl ?_
    refine r_lload_n rfl ?_
    refine r_lload rfl ?_
    refine r_lcmp _ rfl ?_
    refine r_ifs 13 rfl (fun c54 => ?_) (fun c54 => ?_)
    · have c54_ : v49.toInt > v52.toInt := en_j_gt_t c54
      refine At.enter rfl ?_
      refine r_iconst 0 rfl ?_
      refine Ar.fall 18 rfl ?_
      refine At.enter rfl ?_
      refine q_iretz (by decide) ?_
      refine At.enter rfl ?_
      refine q_iretz (by decide) ?_
      refine At.enter rfl ?_
      refine r_ift (by decide) ?_
      refine At.enter rfl ?_
      refine r_iconst (-1) rfl ?_
      refine r_ireti ?_
      exact ⟨_, rfl, hI47, hF48, _, rfl, trivial⟩
    · have c54_ : v49.toInt ≤ v52.toInt := en_j_gt_f c54
      refine At.enter rfl ?_
      refine r_iconst 1 rfl ?_
      refine r_goto ?_
      refine At.enter rfl ?_
      refine q_iretz (by decide) ?_
      refine At.enter rfl ?_
      refine q_iretz (by decide) ?_
      refine At.enter rfl ?_
      refine r_iff 13 rfl (by decide) ?_
      refine At.enter rfl ?_
      refine r_iload_n rfl ?_
      refine q_i2l (fun v55 hv55 => ?_)
      refine r_lconst 0 rfl ?_
      refine r_ldc2 3 rfl ?_
      refine q_inlS 22 rfl [.long v55, .long 0, .long 3] [] (Nat.le_of_ble_eq_true rfl) rfl ?_
      refine Ev.mk rfl rfl ⟨Nat.le_of_ble_eq_true rfl, Or.inl rfl⟩ ?_
      show At _ none _ _ (0, [(0, .long v55), (2, .long 0), (4, .long 3)], [], (_, _)) _
      refine At.enter rfl ?_
      refine r_lload_n rfl ?_
      refine r_lload_n rfl ?_
      refine r_lcmp _ rfl ?_
      refine r_ifs 6 rfl (fun c56 => ?_) (fun c56 => ?_)
      · have c56_ : v55.toInt < 0 := en_j_lt_t c56
        refine At.enter rfl ?_
        refine r_iconst 0 rfl ?_
        refine Ar.fall 18 rfl ?_
        refine At.enter rfl ?_
        refine q_iretz (by decide) ?_
        refine At.enter rfl ?_
        refine r_iff 25 rfl (by decide) ?_
        refine At.enter rfl ?_
        refine r_iconst (-1) rfl ?_
        refine r_ireti ?_
        exact ⟨_, rfl, hI47, hF48, _, rfl, trivial⟩
      · have c56_ : v55.toInt ≥ 0 := en_j_lt_f c56
        refine At.enter rfl ?_
        refine r_lload_n rfl ?_
        refine r_lload rfl ?_
        refine r_lcmp _ rfl ?_
        refine r_ifs 13 rfl (fun c57 => ?_) (fun c57 => ?_)
        · have c57_ : v55.toInt > 3 := en_j_gt_t c57
          refine At.enter rfl ?_
          refine r_iconst 0 rfl ?_
          refine Ar.fall 18 rfl ?_
          refine At.enter rfl ?_
          refine q_iretz (by decide) ?_
          refine At.enter rfl ?_
          refine r_iff 25 rfl (by decide) ?_
          refine At.enter rfl ?_
          refine r_iconst (-1) rfl ?_
          refine r_ireti ?_
          exact ⟨_, rfl, hI47, hF48, _, rfl, trivial⟩
        · have c57_ : v55.toInt ≤ 3 := en_j_gt_f c57
          refine At.enter rfl ?_
          refine r_iconst 1 rfl ?_
          refine r_goto ?_
          refine At.enter rfl ?_
          refine q_iretz (by decide) ?_
          refine At.enter rfl ?_
          refine r_ift (by decide) ?_
          refine At.enter rfl ?_
          refine r_iload_n rfl ?_
          refine r_iconst 3 rfl ?_
          refine r_ics 32 rfl (fun c58 => ?_) (fun c58 => ?_)
          · have c58_ : a2.toInt ≠ 3 := en_i_ne_t c58
            refine At.enter rfl ?_
            refine r_aload_n rfl ?_
            refine r_iload_n rfl ?_
            refine r_iload_n rfl ?_
            refine q_inlV 47 rfl [.ref 231, .int a1, .int a2] [] (Nat.le_of_ble_eq_true rfl) rfl ?_
            refine Ev.mk rfl rfl ⟨Nat.le_of_ble_eq_true rfl, Or.inr (q_rc hI47.1 kx_231 rfl)⟩ ?_
            show At _ none _ _ (0, [(0, .ref 231), (1, .int a1), (2, .int a2)], [], (_, _)) _
            refine At.enter rfl ?_
            refine r_aload_n rfl ?_
            refine q_getR (Sh.ref hI47.1 kx_231 rfl) ?_
            refine r_bipush 10 rfl ?_
            refine r_iconst 3 rfl ?_
            refine r_iload_n rfl ?_
            refine q_imul (3 * a1.toInt) rfl (by omega) (fun v59 hv59 => ?_)
            refine q_iadd (10 + v59.toInt) rfl (by omega) (fun v60 hv60 => ?_)
            refine r_iload_n rfl ?_
            refine q_iadd (v60.toInt + a2.toInt) rfl (by omega) (fun v61 hv61 => ?_)
            obtain ⟨v62, hv62⟩ : ∃ v, eA g0 233 (3 * a1.toInt + a2.toInt + 10) = v := ⟨_, rfl⟩
            refine q_iald (Sh.arr hI47.1 ka_233) (3 * a1.toInt + a2.toInt + 10) (by omega) (by omega) v62 ((eA_c (gA_sI)).trans hv62) ?_
            refine q_ireti ?_
            refine At.enter rfl ?_
            refine r_ireti ?_
            exact ⟨_, rfl, hI47, hF48, _, rfl, trivial⟩
          · have c58_ : a2.toInt = 3 := en_i_ne_f c58
            refine At.enter rfl ?_
            refine r_aload_n rfl ?_
            refine r_iload_n rfl ?_
            refine r_iconst 0 rfl ?_
            refine r_callV 38 rfl [.ref 231, .int a1, .int 0] [] (Nat.le_of_ble_eq_true rfl) rfl (T_X11_nextOf_231 _ hI47 a1 (by omega) 0) ?_
            rintro _ _ ⟨g63, rfl, hI64, hF65, v66, rfl, hr67⟩
            refine At.sti ?_
            have hF68 := Fr.tr hF48 hF65 rfl rfl
            have zv69 : (0 : Int32).toInt = 0 := rfl
            rw [eA_c ((gA_sI))] at hr67
            refine At.enter rfl ?_
            refine r_goto ?_
            refine At.enter rfl ?_
            refine r_ireti ?_
            exact ⟨_, rfl, hI64, hF68, _, rfl, trivial⟩

def F_X11_fact_231 : List (Nat × Nat) := [(231, 0)]
def A_X11_fact_231 : List Nat := []
set_option maxRecDepth 100000 in
set_option maxHeartbeats 4000000 in
theorem T_X11_fact_231 (d : Nat) {N : Nat} {g0 : List en_E} (hI0 : HI g0) (a1 : Int32) (a2 : Int32) : Ev (d + 3) 179 [.ref 231, .int a1, .int a2] (g0, N) (fun w h' => ∃ g', h' = (g', N) ∧ HI g' ∧ Fr F_X11_fact_231 A_X11_fact_231 g0 g' ∧ ∃ r : Int32, w = some (.int r) ∧ True) := by
  have hF0 : Fr F_X11_fact_231 A_X11_fact_231 g0 g0 := Fr.rf
  refine Ev.mk rfl rfl ⟨Nat.le_of_ble_eq_true rfl, Or.inr (q_rc hI0.1 kx_231 rfl)⟩ ?_
  show At _ none _ _ (0, [(0, .ref 231), (1, .int a1), (2, .int a2)], [], (_, _)) _
  refine At.enter rfl ?_
  refine r_aload_n rfl ?_
  refine r_iconst 0 rfl ?_
  refine q_putI (Sh.int hI0.1 kx_231 rfl) rfl ?_
  have hI31 := HI.wI0 hI0 kx_231 rfl (p := 231) (b := 0) (v := 0) rfl
  have hF32 := Fr.wI (p := 231) (b := 0) (v := 0) hF0 rfl
  refine r_aload_n rfl ?_
  refine r_iload_n rfl ?_
  refine q_inlV 10 rfl [.ref 231, .int a1] [] (Nat.le_of_ble_eq_true rfl) rfl ?_
  refine Ev.mk rfl rfl ⟨Nat.le_of_ble_eq_true rfl, Or.inr (q_rc hI31.1 kx_231 rfl)⟩ ?_
  show At _ none _ _ (0, [(0, .ref 231), (1, .int a1)], [], (_, _)) _
  refine At.enter rfl ?_
  refine r_iload_n rfl ?_
  refine q_i2l (fun v33 hv33 => ?_)
  refine r_lconst 0 rfl ?_
  refine r_aload_n rfl ?_
  refine q_getR (Sh.ref hI31.1 kx_231 rfl) ?_
  refine r_iconst 1 rfl ?_
  obtain ⟨v34, hv34⟩ : ∃ v, eA g0 233 1 = v := ⟨_, rfl⟩
  have tv34 := congrArg Int32.toInt hv34
  have wv34 := HI.t1 hI0
  rw [hv34] at wv34
  refine q_iald (Sh.arr hI31.1 ka_233) 1 rfl (by decide) v34 ((eA_c (gA_sI)).trans hv34) ?_
  refine q_i2l (fun v35 hv35 => ?_)
  refine r_lconst 1 rfl ?_
  refine q_lsub (v35.toInt - 1) rfl (by omega) (fun v36 hv36 => ?_)
  refine q_inlS 15 rfl [.long v33, .long 0, .long v36] [] (Nat.le_of_ble_eq_true rfl) rfl ?_
  refine Ev.mk rfl rfl ⟨Nat.le_of_ble_eq_true rfl, Or.inl rfl⟩ ?_
  show At _ none _ _ (0, [(0, .long v33), (2, .long 0), (4, .long v36)], [], (_, _)) _
  refine At.enter rfl ?_
  refine r_lload_n rfl ?_
  refine r_lload_n rfl ?_
  refine r_lcmp _ rfl ?_
  refine r_ifs 6 rfl (fun c37 => ?_) (fun c37 => ?_)
  · have c37_ : v33.toInt < 0 := en_j_lt_t c37
    refine At.enter rfl ?_
    refine r_iconst 0 rfl ?_
    refine Ar.fall 18 rfl ?_
    refine At.enter rfl ?_
    refine q_iretz (by decide) ?_
    refine At.enter rfl ?_
    refine q_iretz (by decide) ?_
    refine At.enter rfl ?_
    refine r_ift (by decide) ?_
    refine At.enter rfl ?_
    refine r_iconst (-1) rfl ?_
    refine Ar.fall 35 rfl ?_
    refine At.enter rfl ?_
    refine r_ireti ?_
    exact ⟨_, rfl, hI31, hF32, _, rfl, trivial⟩
  · have c37_ : v33.toInt ≥ 0 := en_j_lt_f c37
    refine At.enter rfl ?_
    refine r_lload_n rfl ?_
    refine r_lload rfl ?_
    refine r_lcmp _ rfl ?_
    refine r_ifs 13 rfl (fun c38 => ?_) (fun c38 => ?_)
    · have c38_ : v33.toInt > v36.toInt := en_j_gt_t c38
      refine At.enter rfl ?_
      refine r_iconst 0 rfl ?_
      refine Ar.fall 18 rfl ?_
      refine At.enter rfl ?_
      refine q_iretz (by decide) ?_
      refine At.enter rfl ?_
      refine q_iretz (by decide) ?_
      refine At.enter rfl ?_
      refine r_ift (by decide) ?_
      refine At.enter rfl ?_
      refine r_iconst (-1) rfl ?_
      refine Ar.fall 35 rfl ?_
      refine At.enter rfl ?_
      refine r_ireti ?_
      exact ⟨_, rfl, hI31, hF32, _, rfl, trivial⟩
    · have c38_ : v33.toInt ≤ v36.toInt := en_j_gt_f c38
      refine At.enter rfl ?_
      refine r_iconst 1 rfl ?_
      refine r_goto ?_
      refine At.enter rfl ?_
      refine q_iretz (by decide) ?_
      refine At.enter rfl ?_
      refine q_iretz (by decide) ?_
      refine At.enter rfl ?_
      refine r_iff 13 rfl (by decide) ?_
      refine At.enter rfl ?_
      refine r_iload_n rfl ?_
      refine q_i2l (fun v39 hv39 => ?_)
      refine r_lconst 0 rfl ?_
      refine r_ldc2 5 rfl ?_
      refine q_inlS 22 rfl [.long v39, .long 0, .long 5] [] (Nat.le_of_ble_eq_true rfl) rfl ?_
      refine Ev.mk rfl rfl ⟨Nat.le_of_ble_eq_true rfl, Or.inl rfl⟩ ?_
      show At _ none _ _ (0, [(0, .long v39), (2, .long 0), (4, .long 5)], [], (_, _)) _
      refine At.enter rfl ?_
      refine r_lload_n rfl ?_
      refine r_lload_n rfl ?_
      refine r_lcmp _ rfl ?_
      refine r_ifs 6 rfl (fun c40 => ?_) (fun c40 => ?_)
      · have c40_ : v39.toInt < 0 := en_j_lt_t c40
        refine At.enter rfl ?_
        refine r_iconst 0 rfl ?_
        refine Ar.fall 18 rfl ?_
        refine At.enter rfl ?_
        refine q_iretz (by decide) ?_
        refine At.enter rfl ?_
        refine r_ift (by decide) ?_
        refine At.enter rfl ?_
        refine r_iconst (-1) rfl ?_
        refine Ar.fall 35 rfl ?_
        refine At.enter rfl ?_
        refine r_ireti ?_
        exact ⟨_, rfl, hI31, hF32, _, rfl, trivial⟩
      · have c40_ : v39.toInt ≥ 0 := en_j_lt_f c40
        refine At.enter rfl ?_
        refine r_lload_n rfl ?_
        refine r_lload rfl ?_
        refine r_lcmp _ rfl ?_
        refine r_ifs 13 rfl (fun c41 => ?_) (fun c41 => ?_)
        · have c41_ : v39.toInt > 5 := en_j_gt_t c41
          refine At.enter rfl ?_
          refine r_iconst 0 rfl ?_
          refine Ar.fall 18 rfl ?_
          refine At.enter rfl ?_
          refine q_iretz (by decide) ?_
          refine At.enter rfl ?_
          refine r_ift (by decide) ?_
          refine At.enter rfl ?_
          refine r_iconst (-1) rfl ?_
          refine Ar.fall 35 rfl ?_
          refine At.enter rfl ?_
          refine r_ireti ?_
          exact ⟨_, rfl, hI31, hF32, _, rfl, trivial⟩
        · have c41_ : v39.toInt ≤ 5 := en_j_gt_f c41
          refine At.enter rfl ?_
          refine r_iconst 1 rfl ?_
          refine r_goto ?_
          refine At.enter rfl ?_
          refine q_iretz (by decide) ?_
          refine At.enter rfl ?_
          refine r_iff 25 rfl (by decide) ?_
          refine At.enter rfl ?_
          refine r_aload_n rfl ?_
          refine r_iload_n rfl ?_
          refine r_iload_n rfl ?_
          refine q_inlV 31 rfl [.ref 231, .int a1, .int a2] [] (Nat.le_of_ble_eq_true rfl) rfl ?_
          refine Ev.mk rfl rfl ⟨Nat.le_of_ble_eq_true rfl, Or.inr (q_rc hI31.1 kx_231 rfl)⟩ ?_
          show At _ none _ _ (0, [(0, .ref 231), (1, .int a1), (2, .int a2)], [], (_, _)) _
          refine At.enter rfl ?_
          refine r_aload_n rfl ?_
          refine q_getR (Sh.ref hI31.1 kx_231 rfl) ?_
          refine r_bipush 46 rfl ?_
          refine r_bipush 6 rfl ?_
          refine r_iload_n rfl ?_
          refine q_imul (6 * a1.toInt) rfl (by omega) (fun v42 hv42 => ?_)
          refine q_iadd (46 + v42.toInt) rfl (by omega) (fun v43 hv43 => ?_)
          refine r_iload_n rfl ?_
          refine q_iadd (v43.toInt + a2.toInt) rfl (by omega) (fun v44 hv44 => ?_)
          obtain ⟨v45, hv45⟩ : ∃ v, eA g0 233 (6 * a1.toInt + a2.toInt + 46) = v := ⟨_, rfl⟩
          refine q_iald (Sh.arr hI31.1 ka_233) (6 * a1.toInt + a2.toInt + 46) (by omega) (by omega) v45 ((eA_c (gA_sI)).trans hv45) ?_
          refine q_ireti ?_
          refine At.enter rfl ?_
          refine r_goto ?_
          refine At.enter rfl ?_
          refine r_ireti ?_
          exact ⟨_, rfl, hI31, hF32, _, rfl, trivial⟩

def F_X11_dropped_231 : List (Nat × Nat) := [(231, 0)]
def A_X11_dropped_231 : List Nat := []
set_option maxRecDepth 100000 in
set_option maxHeartbeats 4000000 in
theorem T_X11_dropped_231 (d : Nat) {N : Nat} {g0 : List en_E} (hI0 : HI g0) : Ev (d + 1) 183 [.ref 231] (g0, N) (fun w h' => ∃ g', h' = (g', N) ∧ HI g' ∧ Fr F_X11_dropped_231 A_X11_dropped_231 g0 g' ∧ ∃ r : Int32, w = some (.int r) ∧ True) := by
  have hF0 : Fr F_X11_dropped_231 A_X11_dropped_231 g0 g0 := Fr.rf
  refine Ev.mk rfl rfl ⟨Nat.le_of_ble_eq_true rfl, Or.inr (q_rc hI0.1 kx_231 rfl)⟩ ?_
  show At _ none _ _ (0, [(0, .ref 231)], [], (_, _)) _
  refine At.enter rfl ?_
  refine r_aload_n rfl ?_
  refine r_iconst 0 rfl ?_
  refine q_putI (Sh.int hI0.1 kx_231 rfl) rfl ?_
  have hI7 := HI.wI0 hI0 kx_231 rfl (p := 231) (b := 0) (v := 0) rfl
  have hF8 := Fr.wI (p := 231) (b := 0) (v := 0) hF0 rfl
  refine r_aload_n rfl ?_
  obtain ⟨v9, hv9⟩ : ∃ v, gI g0 231 6 = v := ⟨_, rfl⟩
  refine q_getI (Sh.int hI7.1 kx_231 rfl) v9 ((gI_sI_ne (by decide)).trans hv9) ?_
  refine r_ireti ?_
  exact ⟨_, rfl, hI7, hF8, _, rfl, trivial⟩

def F_X11_end_231 : List (Nat × Nat) := [(231, 0), (231, 8)]
def A_X11_end_231 : List Nat := []
set_option maxRecDepth 100000 in
set_option maxHeartbeats 4000000 in
theorem T_X11_end_231 (d : Nat) {N : Nat} {g0 : List en_E} (hI0 : HI g0) (a1 : Int32) : Ev (d + 1) 186 [.ref 231, .int a1] (g0, N) (fun w h' => ∃ g', h' = (g', N) ∧ HI g' ∧ Fr F_X11_end_231 A_X11_end_231 g0 g' ∧ ∃ r : Int32, w = some (.int r) ∧ ((-1) ≤ r.toInt ∧ r.toInt ≤ 400)) := by
  have hF0 : Fr F_X11_end_231 A_X11_end_231 g0 g0 := Fr.rf
  refine Ev.mk rfl rfl ⟨Nat.le_of_ble_eq_true rfl, Or.inr (q_rc hI0.1 kx_231 rfl)⟩ ?_
  show At _ none _ _ (0, [(0, .ref 231), (1, .int a1)], [], (_, _)) _
  refine At.enter rfl ?_
  refine r_aload_n rfl ?_
  refine r_iconst 0 rfl ?_
  refine q_putI (Sh.int hI0.1 kx_231 rfl) rfl ?_
  have hI19 := HI.wI0 hI0 kx_231 rfl (p := 231) (b := 0) (v := 0) rfl
  have hF20 := Fr.wI (p := 231) (b := 0) (v := 0) hF0 rfl
  refine r_iload_n rfl ?_
  refine r_ifs 9 rfl (fun c21 => ?_) (fun c21 => ?_)
  · have c21_ : a1.toInt < 0 := en_k_lt_t c21
    refine At.enter rfl ?_
    refine r_iconst (-1) rfl ?_
    refine r_ireti ?_
    exact ⟨_, rfl, hI19, hF20, _, rfl, by decide⟩
  · have c21_ : a1.toInt ≥ 0 := en_k_lt_f c21
    refine At.enter rfl ?_
    refine r_iload_n rfl ?_
    refine r_aload_n rfl ?_
    obtain ⟨v22, hv22⟩ : ∃ v, gI g0 231 8 = v := ⟨_, rfl⟩
    have rv22 := RgF.at hI0.2.1 (p := 231) (b := 8) rfl
    rw [hv22] at rv22
    dsimp only at rv22
    refine q_getI (Sh.int hI19.1 kx_231 rfl) v22 ((gI_sI_ne (by decide)).trans hv22) ?_
    have bv24 := q_bnd a1
    have bv25 := q_bnd v22
    refine r_ics 17 rfl (fun c23 => ?_) (fun c23 => ?_)
    · have c23_ : a1.toInt ≤ v22.toInt := en_i_le_t c23
      refine At.enter rfl ?_
      refine r_aload_n rfl ?_
      refine r_iload_n rfl ?_
      refine q_putI (Sh.int hI19.1 kx_231 rfl) rfl ?_
      have hI26 := HI.wI1 hI19 kx_231 rfl (p := 231) (b := 8) (v := a1) rfl (by dsimp only; omega)
      have hF27 := Fr.wI (p := 231) (b := 8) (v := a1) hF20 rfl
      refine r_iload_n rfl ?_
      refine r_ireti ?_
      exact ⟨_, rfl, hI26, hF27, _, rfl, by omega⟩
    · have c23_ : a1.toInt > v22.toInt := en_i_le_f c23
      refine At.enter rfl ?_
      refine r_iconst (-1) rfl ?_
      refine r_ireti ?_
      exact ⟨_, rfl, hI19, hF20, _, rfl, by decide⟩

def F_X11_fault_231 : List (Nat × Nat) := [(231, 0)]
def A_X11_fault_231 : List Nat := []
set_option maxRecDepth 100000 in
set_option maxHeartbeats 4000000 in
theorem T_X11_fault_231 (d : Nat) {N : Nat} {g0 : List en_E} (hI0 : HI g0) : Ev (d + 1) 194 [.ref 231] (g0, N) (fun w h' => ∃ g', h' = (g', N) ∧ HI g' ∧ Fr F_X11_fault_231 A_X11_fault_231 g0 g' ∧ ∃ r : Int32, w = some (.int r) ∧ True) := by
  have hF0 : Fr F_X11_fault_231 A_X11_fault_231 g0 g0 := Fr.rf
  refine Ev.mk rfl rfl ⟨Nat.le_of_ble_eq_true rfl, Or.inr (q_rc hI0.1 kx_231 rfl)⟩ ?_
  show At _ none _ _ (0, [(0, .ref 231)], [], (_, _)) _
  refine At.enter rfl ?_
  refine r_aload_n rfl ?_
  refine r_iconst 0 rfl ?_
  refine q_putI (Sh.int hI0.1 kx_231 rfl) rfl ?_
  have hI7 := HI.wI0 hI0 kx_231 rfl (p := 231) (b := 0) (v := 0) rfl
  have hF8 := Fr.wI (p := 231) (b := 0) (v := 0) hF0 rfl
  refine r_aload_n rfl ?_
  obtain ⟨v9, hv9⟩ : ∃ v, gI g0 231 13 = v := ⟨_, rfl⟩
  refine q_getI (Sh.int hI7.1 kx_231 rfl) v9 ((gI_sI_ne (by decide)).trans hv9) ?_
  refine r_ireti ?_
  exact ⟨_, rfl, hI7, hF8, _, rfl, trivial⟩

def F_X11_asIs_231 : List (Nat × Nat) := [(231, 36)]
def A_X11_asIs_231 : List Nat := [246, 247, 248]
set_option maxRecDepth 100000 in
set_option maxHeartbeats 4000000 in
theorem T_X11_asIs_231 (d : Nat) {N : Nat} {g0 : List en_E} (hI0 : HI g0) : Ev (d + 2) 215 [.ref 231] (g0, N) (fun w h' => ∃ g', h' = (g', N) ∧ HI g' ∧ Fr F_X11_asIs_231 A_X11_asIs_231 g0 g' ∧ w = none) := by
  have hF0 : Fr F_X11_asIs_231 A_X11_asIs_231 g0 g0 := Fr.rf
  refine Ev.mk rfl rfl ⟨Nat.le_of_ble_eq_true rfl, Or.inr (q_rc hI0.1 kx_231 rfl)⟩ ?_
  show At _ none _ _ (0, [(0, .ref 231)], [], (_, _)) _
  refine At.enter rfl ?_
  refine r_iconst 0 rfl ?_
  refine r_istore_n ([(1, .int 0), (0, .ref 231)]) rfl ?_
  refine Ar.fall 2 rfl ?_
  have z_965 : (0 : Int32).toInt = 0 := rfl
  refine w_loopI (fun n_ l_ g_ => ∃ x955 : Int32, n_ = 12 - x955.toInt ∧ HI g_ ∧ Fr F_X11_asIs_231 A_X11_asIs_231 g0 g_ ∧ en_get 0 l_ = some (.ref 231) ∧ en_get 1 l_ = some (.int x955) ∧ (0 ≤ x955.toInt ∧ x955.toInt ≤ 12)) ?_ (12 - 0) ⟨0, by first | rfl | omega, hI0, hF0, rfl, rfl, by decide⟩
  rintro n960 l959 g956 ⟨x955, hm966, hI957, hF958, e962, e963, r964⟩ ih961
  refine At.enter rfl ?_
  refine r_iload_n e963 ?_
  refine r_bipush 12 rfl ?_
  refine r_ics 8 rfl (fun c967 => ?_) (fun c967 => ?_)
  · have c967_ : x955.toInt ≥ 12 := en_i_ge_t c967
    refine At.enter rfl ?_
    refine r_iconst 0 rfl ?_
    refine r_istore_n _ rfl ?_
    refine Ar.fall 40 rfl ?_
    have z_1050 : (0 : Int32).toInt = 0 := rfl
    refine w_loopI (fun n_ l_ g_ => ∃ x1040 : Int32, n_ = 8 - x1040.toInt ∧ HI g_ ∧ Fr F_X11_asIs_231 A_X11_asIs_231 g0 g_ ∧ en_get 0 l_ = some (.ref 231) ∧ en_get 1 l_ = some (.int x1040) ∧ (0 ≤ x1040.toInt ∧ x1040.toInt ≤ 8)) ?_ (8 - 0) ⟨0, by first | rfl | omega, hI957, hF958, (w_p1 (by decide) (Or.inr rfl) e962), (w_e1 _ _ _), by decide⟩
    rintro n1045 l1044 g1041 ⟨x1040, hm1051, hI1042, hF1043, e1047, e1048, r1049⟩ ih1046
    refine At.enter rfl ?_
    refine r_iload_n e1048 ?_
    refine r_bipush 8 rfl ?_
    refine r_ics 46 rfl (fun c1052 => ?_) (fun c1052 => ?_)
    · have c1052_ : x1040.toInt ≥ 8 := en_i_ge_t c1052
      refine At.enter rfl ?_
      refine r_aload_n e1047 ?_
      refine r_iconst 0 rfl ?_
      refine q_putI (Sh.int hI1042.1 kx_231 rfl) rfl ?_
      have hI1053 := HI.wI0 hI1042 kx_231 rfl (p := 231) (b := 36) (v := 0) rfl
      have hF1054 := Fr.wI (p := 231) (b := 36) (v := 0) hF1043 rfl
      refine r_vret ?_
      exact ⟨_, rfl, hI1053, hF1054, rfl⟩
    · have c1052_ : x1040.toInt < 8 := en_i_ge_f c1052
      refine At.enter rfl ?_
      refine r_aload_n e1047 ?_
      refine q_getR (Sh.ref hI1042.1 kx_231 rfl) ?_
      refine r_iload_n e1048 ?_
      refine r_aload_n e1047 ?_
      refine r_iload_n e1048 ?_
      refine r_iconst 3 rfl ?_
      refine q_inlV 57 rfl [.ref 231, .int x1040, .int 3] [.int x1040, .ref 248] (Nat.le_of_ble_eq_true rfl) rfl ?_
      refine Ev.mk rfl rfl ⟨Nat.le_of_ble_eq_true rfl, Or.inr (q_rc hI1042.1 kx_231 rfl)⟩ ?_
      show At _ none _ _ (0, [(0, .ref 231), (1, .int x1040), (2, .int 3)], [], (_, _)) _
      refine At.enter rfl ?_
      refine r_aload_n rfl ?_
      refine q_getR (Sh.ref hI1042.1 kx_231 rfl) ?_
      refine r_bipush 46 rfl ?_
      refine r_bipush 6 rfl ?_
      refine r_iload_n rfl ?_
      refine q_imul (6 * x1040.toInt) rfl (by omega) (fun v1055 hv1055 => ?_)
      refine q_iadd (46 + v1055.toInt) rfl (by omega) (fun v1056 hv1056 => ?_)
      refine r_iload_n rfl ?_
      refine q_iadd (v1056.toInt + 3) rfl (by omega) (fun v1057 hv1057 => ?_)
      obtain ⟨v1058, hv1058⟩ : ∃ v, eA g0 233 (6 * x1040.toInt + 49) = v := ⟨_, rfl⟩
      have wv1058 := HI.l3 hI0 (j := (6 * x1040.toInt + 49)) (x1040.toInt) (by omega) (by omega)
      rw [hv1058] at wv1058
      refine q_iald (Sh.arr hI1042.1 ka_233) (6 * x1040.toInt + 49) (by omega) (by omega) v1058 ((eA_c (hF1043.2.1 233 (by decide))).trans hv1058) ?_
      refine q_ireti ?_
      refine At.enter rfl ?_
      refine q_iast (Sh.arr hI1042.1 ka_248) (x1040.toInt) rfl (by omega) ?_
      have hI1059 := HI.wA0 hI1042 ka_248 (p := 248) rfl rfl (x1040.toInt) (v1058)
      have hF1060 := Fr.wA (p := 248) (j := x1040.toInt) (v := v1058) hF1043 rfl
      refine q_iinc e1048 (x1040.toInt + 1) rfl (by omega) (fun v1061 hv1061 => ?_)
      refine r_goto ?_
      exact ih1046 (8 - v1061.toInt) _ _ ⟨v1061, by first | rfl | omega, hI1059, hF1060, (w_p1 (by decide) (Or.inr rfl) e1047), (w_e1 _ _ _), by omega⟩ ⟨by omega, by omega⟩
  · have c967_ : x955.toInt < 12 := en_i_ge_f c967
    refine At.enter rfl ?_
    refine r_aload_n e962 ?_
    refine q_getR (Sh.ref hI957.1 kx_231 rfl) ?_
    refine r_iload_n e963 ?_
    refine r_aload_n e962 ?_
    refine r_iload_n e963 ?_
    refine r_iconst 1 rfl ?_
    refine q_inlV 19 rfl [.ref 231, .int x955, .int 1] [.int x955, .ref 246] (Nat.le_of_ble_eq_true rfl) rfl ?_
    refine Ev.mk rfl rfl ⟨Nat.le_of_ble_eq_true rfl, Or.inr (q_rc hI957.1 kx_231 rfl)⟩ ?_
    show At _ none _ _ (0, [(0, .ref 231), (1, .int x955), (2, .int 1)], [], (_, _)) _
    refine At.enter rfl ?_
    refine r_aload_n rfl ?_
    refine q_getR (Sh.ref hI957.1 kx_231 rfl) ?_
    refine r_bipush 10 rfl ?_
    refine r_iconst 3 rfl ?_
    refine r_iload_n rfl ?_
    refine q_imul (3 * x955.toInt) rfl (by omega) (fun v1062 hv1062 => ?_)
    refine q_iadd (10 + v1062.toInt) rfl (by omega) (fun v1063 hv1063 => ?_)
    refine r_iload_n rfl ?_
    refine q_iadd (v1063.toInt + 1) rfl (by omega) (fun v1064 hv1064 => ?_)
    obtain ⟨v1065, hv1065⟩ : ∃ v, eA g0 233 (3 * x955.toInt + 11) = v := ⟨_, rfl⟩
    have wv1065 := HI.s1 hI0 (j := (3 * x955.toInt + 11)) (x955.toInt) (by omega) (by omega)
    rw [hv1065] at wv1065
    refine q_iald (Sh.arr hI957.1 ka_233) (3 * x955.toInt + 11) (by omega) (by omega) v1065 ((eA_c (hF958.2.1 233 (by decide))).trans hv1065) ?_
    refine q_ireti ?_
    refine At.enter rfl ?_
    refine q_iast (Sh.arr hI957.1 ka_246) (x955.toInt) rfl (by omega) ?_
    have hI1066 := HI.wA0 hI957 ka_246 (p := 246) rfl rfl (x955.toInt) (v1065)
    have hF1067 := Fr.wA (p := 246) (j := x955.toInt) (v := v1065) hF958 rfl
    refine r_aload_n e962 ?_
    refine q_getR (Sh.ref hI1066.1 kx_231 rfl) ?_
    refine r_iload_n e963 ?_
    refine r_aload_n e962 ?_
    refine r_iload_n e963 ?_
    refine r_iconst 2 rfl ?_
    refine q_inlV 31 rfl [.ref 231, .int x955, .int 2] [.int x955, .ref 247] (Nat.le_of_ble_eq_true rfl) rfl ?_
    refine Ev.mk rfl rfl ⟨Nat.le_of_ble_eq_true rfl, Or.inr (q_rc hI1066.1 kx_231 rfl)⟩ ?_
    show At _ none _ _ (0, [(0, .ref 231), (1, .int x955), (2, .int 2)], [], (_, _)) _
    refine At.enter rfl ?_
    refine r_aload_n rfl ?_
    refine q_getR (Sh.ref hI1066.1 kx_231 rfl) ?_
    refine r_bipush 10 rfl ?_
    refine r_iconst 3 rfl ?_
    refine r_iload_n rfl ?_
    refine q_imul (3 * x955.toInt) rfl (by omega) (fun v1068 hv1068 => ?_)
    refine q_iadd (10 + v1068.toInt) rfl (by omega) (fun v1069 hv1069 => ?_)
    refine r_iload_n rfl ?_
    refine q_iadd (v1069.toInt + 2) rfl (by omega) (fun v1070 hv1070 => ?_)
    obtain ⟨v1071, hv1071⟩ : ∃ v, eA g0 233 (3 * x955.toInt + 12) = v := ⟨_, rfl⟩
    have wv1071 := HI.s2 hI0 (j := (3 * x955.toInt + 12)) (x955.toInt) (by omega) (by omega)
    rw [hv1071] at wv1071
    refine q_iald (Sh.arr hI1066.1 ka_233) (3 * x955.toInt + 12) (by omega) (by omega) v1071 ((eA_c ((gA_sA_ne (by decide)).trans (hF958.2.1 233 (by decide)))).trans hv1071) ?_
    refine q_ireti ?_
    refine At.enter rfl ?_
    refine q_iast (Sh.arr hI1066.1 ka_247) (x955.toInt) rfl (by omega) ?_
    have hI1072 := HI.wA0 hI1066 ka_247 (p := 247) rfl rfl (x955.toInt) (v1071)
    have hF1073 := Fr.wA (p := 247) (j := x955.toInt) (v := v1071) hF1067 rfl
    refine q_iinc e963 (x955.toInt + 1) rfl (by omega) (fun v1074 hv1074 => ?_)
    refine r_goto ?_
    exact ih961 (12 - v1074.toInt) _ _ ⟨v1074, by first | rfl | omega, hI1072, hF1073, (w_p1 (by decide) (Or.inr rfl) e962), (w_e1 _ _ _), by omega⟩ ⟨by omega, by omega⟩

def F_X11_reckon_231 : List (Nat × Nat) := [(231, 30)]
def A_X11_reckon_231 : List Nat := []
set_option maxRecDepth 100000 in
set_option maxHeartbeats 4000000 in
theorem T_X11_reckon_231 (d : Nat) {N : Nat} {g0 : List en_E} (hI0 : HI g0) (a1 : Int32) (a2 : Int64) (a3 : Int64) : Ev (d + 1) 212 [.ref 231, .int a1, .long a2, .long a3] (g0, N) (fun w h' => ∃ g', h' = (g', N) ∧ HI g' ∧ Fr F_X11_reckon_231 A_X11_reckon_231 g0 g' ∧ ∃ r : Int64, w = some (.long r) ∧ True) := by
  have hF0 : Fr F_X11_reckon_231 A_X11_reckon_231 g0 g0 := Fr.rf
  refine Ev.mk rfl rfl ⟨Nat.le_of_ble_eq_true rfl, Or.inr (q_rc hI0.1 kx_231 rfl)⟩ ?_
  show At _ none _ _ (0, [(0, .ref 231), (1, .int a1), (2, .long a2), (4, .long a3)], [], (_, _)) _
  refine At.enter rfl ?_
  refine r_iload_n rfl ?_
  by_cases c29_0 : a1.toInt = 20
  · refine r_tsw 40 (by rw [c29_0]; rfl) ?_
    refine At.enter rfl ?_
    refine r_lload_n rfl ?_
    refine r_lload rfl ?_
    refine q_laddO (fun v30 _ => ?_)
    refine r_lret ?_
    exact ⟨_, rfl, hI0, hF0, _, rfl, trivial⟩
  by_cases c29_1 : a1.toInt = 21
  · refine r_tsw 45 (by rw [c29_1]; rfl) ?_
    refine At.enter rfl ?_
    refine r_lload_n rfl ?_
    refine r_lload rfl ?_
    refine q_lsubO (fun v31 _ => ?_)
    refine r_lret ?_
    exact ⟨_, rfl, hI0, hF0, _, rfl, trivial⟩
  by_cases c29_2 : a1.toInt = 22
  · refine r_tsw 50 (by rw [c29_2]; rfl) ?_
    refine At.enter rfl ?_
    refine r_lload_n rfl ?_
    refine r_lload rfl ?_
    refine q_lmulO (fun v32 _ => ?_)
    refine r_lret ?_
    exact ⟨_, rfl, hI0, hF0, _, rfl, trivial⟩
  by_cases c29_3 : a1.toInt = 23
  · refine r_tsw 55 (by rw [c29_3]; rfl) ?_
    refine At.enter rfl ?_
    refine r_aload_n rfl ?_
    refine r_lload rfl ?_
    refine r_lconst 0 rfl ?_
    refine r_lcmp _ rfl ?_
    refine r_ifs 63 rfl (fun c33 => ?_) (fun c33 => ?_)
    · have c33_ : a3.toInt ≠ 0 := en_j_ne_t c33
      refine At.enter rfl ?_
      refine r_iconst 0 rfl ?_
      refine Ar.fall 68 rfl ?_
      refine At.enter rfl ?_
      refine q_putI (Sh.int hI0.1 kx_231 rfl) rfl ?_
      have hI34 := HI.wI0 hI0 kx_231 rfl (p := 231) (b := 30) (v := 0) rfl
      have hF35 := Fr.wI (p := 231) (b := 30) (v := 0) hF0 rfl
      refine r_aload_n rfl ?_
      refine q_getI (Sh.int hI34.1 kx_231 rfl) 0 (gI_sI_eq hI0.1 kx_231 rfl _) ?_
      refine r_ift (by decide) ?_
      refine At.enter rfl ?_
      refine r_lload_n rfl ?_
      refine r_lload rfl ?_
      refine q_ldivO (by omega) (fun v36 _ => ?_)
      refine Ar.fall 86 rfl ?_
      refine At.enter rfl ?_
      refine r_lret ?_
      exact ⟨_, rfl, hI34, hF35, _, rfl, trivial⟩
    · have c33_ : a3.toInt = 0 := en_j_ne_f c33
      refine At.enter rfl ?_
      refine r_iconst 1 rfl ?_
      refine r_goto ?_
      refine At.enter rfl ?_
      refine q_putI (Sh.int hI0.1 kx_231 rfl) rfl ?_
      have hI37 := HI.wI0 hI0 kx_231 rfl (p := 231) (b := 30) (v := 1) rfl
      have hF38 := Fr.wI (p := 231) (b := 30) (v := 1) hF0 rfl
      refine r_aload_n rfl ?_
      refine q_getI (Sh.int hI37.1 kx_231 rfl) 1 (gI_sI_eq hI0.1 kx_231 rfl _) ?_
      refine r_iff 78 rfl (by decide) ?_
      refine At.enter rfl ?_
      refine r_lconst 0 rfl ?_
      refine r_goto ?_
      refine At.enter rfl ?_
      refine r_lret ?_
      exact ⟨_, rfl, hI37, hF38, _, rfl, trivial⟩
  by_cases c29_4 : a1.toInt = 24
  · refine r_tsw 87 (by rw [c29_4]; rfl) ?_
    refine At.enter rfl ?_
    refine r_lload_n rfl ?_
    refine r_lload rfl ?_
    refine r_lcmp _ rfl ?_
    refine r_ifs 94 rfl (fun c39 => ?_) (fun c39 => ?_)
    · have c39_ : a2.toInt ≥ a3.toInt := en_j_ge_t c39
      refine At.enter rfl ?_
      refine r_lconst 0 rfl ?_
      refine Ar.fall 99 rfl ?_
      refine At.enter rfl ?_
      refine r_lret ?_
      exact ⟨_, rfl, hI0, hF0, _, rfl, trivial⟩
    · have c39_ : a2.toInt < a3.toInt := en_j_ge_f c39
      refine At.enter rfl ?_
      refine r_lconst 1 rfl ?_
      refine r_goto ?_
      refine At.enter rfl ?_
      refine r_lret ?_
      exact ⟨_, rfl, hI0, hF0, _, rfl, trivial⟩
  by_cases c29_5 : a1.toInt = 25
  · refine r_tsw 100 (by rw [c29_5]; rfl) ?_
    refine At.enter rfl ?_
    refine r_lload_n rfl ?_
    refine r_lload rfl ?_
    refine r_lcmp _ rfl ?_
    refine r_ifs 107 rfl (fun c40 => ?_) (fun c40 => ?_)
    · have c40_ : a2.toInt ≤ a3.toInt := en_j_le_t c40
      refine At.enter rfl ?_
      refine r_lconst 0 rfl ?_
      refine Ar.fall 112 rfl ?_
      refine At.enter rfl ?_
      refine r_lret ?_
      exact ⟨_, rfl, hI0, hF0, _, rfl, trivial⟩
    · have c40_ : a2.toInt > a3.toInt := en_j_le_f c40
      refine At.enter rfl ?_
      refine r_lconst 1 rfl ?_
      refine r_goto ?_
      refine At.enter rfl ?_
      refine r_lret ?_
      exact ⟨_, rfl, hI0, hF0, _, rfl, trivial⟩
  have c41 : a1.toInt < 20 ∨ 25 < a1.toInt := by omega
  refine r_tsw 113 (by unfold en_sw; rw [if_pos c41]; rfl) ?_
  refine At.enter rfl ?_
  refine r_lload_n rfl ?_
  refine r_lload rfl ?_
  refine r_lcmp _ rfl ?_
  refine r_ifs 120 rfl (fun c42 => ?_) (fun c42 => ?_)
  · have c42_ : a2.toInt ≠ a3.toInt := en_j_ne_t c42
    refine At.enter rfl ?_
    refine r_lconst 0 rfl ?_
    refine Ar.fall 125 rfl ?_
    refine At.enter rfl ?_
    refine r_lret ?_
    exact ⟨_, rfl, hI0, hF0, _, rfl, trivial⟩
  · have c42_ : a2.toInt = a3.toInt := en_j_ne_f c42
    refine At.enter rfl ?_
    refine r_lconst 1 rfl ?_
    refine r_goto ?_
    refine At.enter rfl ?_
    refine r_lret ?_
    exact ⟨_, rfl, hI0, hF0, _, rfl, trivial⟩

def F_X11_reckonAll_231 : List (Nat × Nat) := [(231, 30), (231, 31)]
def A_X11_reckonAll_231 : List Nat := []
set_option maxRecDepth 100000 in
set_option maxHeartbeats 4000000 in
theorem T_X11_reckonAll_231 (d : Nat) {N : Nat} {g0 : List en_E} (hI0 : HI g0) (a1 : Int32) (a2 : Int32) (hC : WfCode (fun i => (eA g0 233 ((gI g0 231 27).toInt + 98 + 2 * i)).toInt) (fun i => (eA g0 233 ((gI g0 231 27).toInt + 98 + 2 * i + 1)).toInt) a1.toInt a2.toInt) : Ev (d + 2) 213 [.ref 231, .int a1, .int a2] (g0, N) (fun w h' => ∃ g', h' = (g', N) ∧ HI g' ∧ Fr F_X11_reckonAll_231 A_X11_reckonAll_231 g0 g' ∧ w = none) := by
  have hF0 : Fr F_X11_reckonAll_231 A_X11_reckonAll_231 g0 g0 := Fr.rf
  obtain ⟨c1, c2, c3, H, hH0, hHr, hHs⟩ := hC
  refine Ev.mk rfl rfl ⟨Nat.le_of_ble_eq_true rfl, Or.inr (q_rc hI0.1 kx_231 rfl)⟩ ?_
  show At _ none _ _ (0, [(0, .ref 231), (1, .int a1), (2, .int a2)], [], (_, _)) _
  refine At.enter rfl ?_
  refine r_aload_n rfl ?_
  refine r_iconst 0 rfl ?_
  refine q_putI (Sh.int hI0.1 kx_231 rfl) rfl ?_
  have hI1191 := HI.wI0 hI0 kx_231 rfl (p := 231) (b := 30) (v := 0) rfl
  have hF1192 := Fr.wI (p := 231) (b := 30) (v := 0) hF0 rfl
  refine r_iconst 0 rfl ?_
  refine r_istore_n ([(3, .int 0), (0, .ref 231), (1, .int a1), (2, .int a2)]) rfl ?_
  refine r_iload_n rfl ?_
  refine r_istore ([(4, .int a1), (3, .int 0), (0, .ref 231), (1, .int a1), (2, .int a2)]) rfl ?_
  refine Ar.fall 10 rfl ?_
  have z_1704 : (0 : Int32).toInt = 0 := rfl
  refine w_loopI (fun n_ l_ g_ => ∃ x1687 : Int32, ∃ x1688 : Int32, n_ = a2.toInt - x1688.toInt ∧ HI g_ ∧ Fr F_X11_reckonAll_231 A_X11_reckonAll_231 g0 g_ ∧ en_get 0 l_ = some (.ref 231) ∧ en_get 1 l_ = some (.int a1) ∧ en_get 2 l_ = some (.int a2) ∧ en_get 3 l_ = some (.int x1687) ∧ en_get 4 l_ = some (.int x1688) ∧ (0 ≤ x1687.toInt ∧ x1687.toInt ≤ 400) ∧ (0 ≤ x1688.toInt ∧ x1688.toInt ≤ 400) ∧ (x1687.toInt = H x1688.toInt) ∧ (a1.toInt ≤ x1688.toInt ∧ x1688.toInt ≤ a2.toInt)) ?_ (a2.toInt - a1.toInt) ⟨0, a1, by first | rfl | omega, hI1191, hF1192, rfl, rfl, rfl, rfl, rfl, by decide, by omega, by omega, by omega⟩
  rintro n1693 l1692 g1689 ⟨x1687, x1688, hm1705, hI1690, hF1691, e1695, e1696, e1697, e1698, e1699, r1700, r1701, q1702, q1703⟩ ih1694
  refine At.enter rfl ?_
  refine r_iload e1699 ?_
  refine r_iload_n e1697 ?_
  have bv1707 := q_bnd x1688
  have bv1708 := q_bnd a2
  refine r_ics 16 rfl (fun c1706 => ?_) (fun c1706 => ?_)
  · have c1706_ : x1688.toInt ≥ a2.toInt := en_i_ge_t c1706
    refine At.enter rfl ?_
    refine r_aload_n e1695 ?_
    refine r_iload_n e1698 ?_
    refine r_ifs 250 rfl (fun c1709 => ?_) (fun c1709 => ?_)
    · have c1709_ : x1687.toInt ≤ 0 := en_k_le_t c1709
      refine At.enter rfl ?_
      refine r_lconst 0 rfl ?_
      refine Ar.fall 260 rfl ?_
      refine At.enter rfl ?_
      refine q_putJ (Sh.long hI1690.1 kx_231 rfl) rfl ?_
      have hI1710 := HI.wJ hI1690 kx_231 rfl (p := 231) (b := 31) (v := 0)
      have hF1711 := Fr.wJ (p := 231) (b := 31) (v := 0) hF1691 rfl
      refine r_vret ?_
      exact ⟨_, rfl, hI1710, hF1711, rfl⟩
    · have c1709_ : x1687.toInt > 0 := en_k_le_f c1709
      refine At.enter rfl ?_
      refine r_aload_n e1695 ?_
      refine q_getR (Sh.ref hI1690.1 kx_231 rfl) ?_
      refine r_iconst 0 rfl ?_
      refine q_lald (Sh.lar hI1690.1 ka_245) (0) rfl (by decide) (fun v1712 => ?_)
      refine r_goto ?_
      refine At.enter rfl ?_
      refine q_putJ (Sh.long hI1690.1 kx_231 rfl) rfl ?_
      have hI1713 := HI.wJ hI1690 kx_231 rfl (p := 231) (b := 31) (v := v1712)
      have hF1714 := Fr.wJ (p := 231) (b := 31) (v := v1712) hF1691 rfl
      refine r_vret ?_
      exact ⟨_, rfl, hI1713, hF1714, rfl⟩
  · have c1706_ : x1688.toInt < a2.toInt := en_i_ge_f c1706
    refine At.enter rfl ?_
    refine r_aload_n e1695 ?_
    obtain ⟨v1715, hv1715⟩ : ∃ v, gI g1689 231 30 = v := ⟨_, rfl⟩
    refine q_getI (Sh.int hI1690.1 kx_231 rfl) v1715 hv1715 ?_
    refine r_ifs 23 rfl (fun c1716 => ?_) (fun c1716 => ?_)
    · have c1716_ : v1715.toInt ≠ 0 := en_k_ne_t c1716
      refine At.enter rfl ?_
      refine r_aload_n e1695 ?_
      refine r_iload_n e1698 ?_
      refine r_ifs 250 rfl (fun c1717 => ?_) (fun c1717 => ?_)
      · have c1717_ : x1687.toInt ≤ 0 := en_k_le_t c1717
        refine At.enter rfl ?_
        refine r_lconst 0 rfl ?_
        refine Ar.fall 260 rfl ?_
        refine At.enter rfl ?_
        refine q_putJ (Sh.long hI1690.1 kx_231 rfl) rfl ?_
        have hI1718 := HI.wJ hI1690 kx_231 rfl (p := 231) (b := 31) (v := 0)
        have hF1719 := Fr.wJ (p := 231) (b := 31) (v := 0) hF1691 rfl
        refine r_vret ?_
        exact ⟨_, rfl, hI1718, hF1719, rfl⟩
      · have c1717_ : x1687.toInt > 0 := en_k_le_f c1717
        refine At.enter rfl ?_
        refine r_aload_n e1695 ?_
        refine q_getR (Sh.ref hI1690.1 kx_231 rfl) ?_
        refine r_iconst 0 rfl ?_
        refine q_lald (Sh.lar hI1690.1 ka_245) (0) rfl (by decide) (fun v1720 => ?_)
        refine r_goto ?_
        refine At.enter rfl ?_
        refine q_putJ (Sh.long hI1690.1 kx_231 rfl) rfl ?_
        have hI1721 := HI.wJ hI1690 kx_231 rfl (p := 231) (b := 31) (v := v1720)
        have hF1722 := Fr.wJ (p := 231) (b := 31) (v := v1720) hF1691 rfl
        refine r_vret ?_
        exact ⟨_, rfl, hI1721, hF1722, rfl⟩
    · have c1716_ : v1715.toInt = 0 := en_k_ne_f c1716
      refine At.enter rfl ?_
      refine r_aload_n e1695 ?_
      refine q_getR (Sh.ref hI1690.1 kx_231 rfl) ?_
      refine r_aload_n e1695 ?_
      obtain ⟨v1723, hv1723⟩ : ∃ v, gI g0 231 27 = v := ⟨_, rfl⟩
      have rv1723 := RgF.at hI0.2.1 (p := 231) (b := 27) rfl
      rw [hv1723] at rv1723
      dsimp only at rv1723
      refine q_getI (Sh.int hI1690.1 kx_231 rfl) v1723 ((hF1691.1 231 27 (by decide)).trans hv1723) ?_
      refine r_bipush 98 rfl ?_
      refine q_iadd (v1723.toInt + 98) rfl (by omega) (fun v1724 hv1724 => ?_)
      refine r_iconst 2 rfl ?_
      refine r_iload e1699 ?_
      refine q_imul (2 * x1688.toInt) rfl (by omega) (fun v1725 hv1725 => ?_)
      refine q_iadd (v1724.toInt + v1725.toInt) rfl (by omega) (fun v1726 hv1726 => ?_)
      obtain ⟨v1727, hv1727⟩ : ∃ v, eA g0 233 (v1723.toInt + 2 * x1688.toInt + 98) = v := ⟨_, rfl⟩
      refine q_iald (Sh.arr hI1690.1 ka_233) (v1723.toInt + 2 * x1688.toInt + 98) (by omega) (by omega) v1727 ((eA_c (hF1691.2.1 233 (by decide))).trans hv1727) ?_
      refine r_istore _ rfl ?_
      refine r_aload_n (w_p1 (by decide) (Or.inr rfl) e1695) ?_
      refine q_getR (Sh.ref hI1690.1 kx_231 rfl) ?_
      refine r_aload_n (w_p1 (by decide) (Or.inr rfl) e1695) ?_
      refine q_getI (Sh.int hI1690.1 kx_231 rfl) v1723 ((hF1691.1 231 27 (by decide)).trans hv1723) ?_
      refine r_bipush 98 rfl ?_
      refine q_iadd (v1723.toInt + 98) rfl (by omega) (fun v1728 hv1728 => ?_)
      refine r_iconst 2 rfl ?_
      refine r_iload (w_p1 (by decide) (Or.inr rfl) e1699) ?_
      refine q_imul (2 * x1688.toInt) rfl (by omega) (fun v1729 hv1729 => ?_)
      refine q_iadd (v1728.toInt + v1729.toInt) rfl (by omega) (fun v1730 hv1730 => ?_)
      refine r_iconst 1 rfl ?_
      refine q_iadd (v1730.toInt + 1) rfl (by omega) (fun v1731 hv1731 => ?_)
      obtain ⟨v1732, hv1732⟩ : ∃ v, eA g0 233 (v1723.toInt + 2 * x1688.toInt + 99) = v := ⟨_, rfl⟩
      have hs1 : eA g0 233 ((gI g0 231 27).toInt + 98 + 2 * x1688.toInt) = v1727 := by rw [hv1723, show v1723.toInt + 98 + 2 * x1688.toInt = (v1723.toInt + 2 * x1688.toInt + 98) by omega]; exact hv1727
      have hs2 : eA g0 233 ((gI g0 231 27).toInt + 98 + 2 * x1688.toInt + 1) = v1732 := by rw [hv1723, show v1723.toInt + 98 + 2 * x1688.toInt + 1 = (v1723.toInt + 2 * x1688.toInt + 99) by omega]; exact hv1732
      have hs := hHs x1688.toInt (by omega) (by omega)
      dsimp only at hs
      rw [hs1, hs2] at hs
      unfold WfStep at hs
      have hr0 := hHr x1688.toInt (by omega) (by omega)
      have hr1 := hHr (x1688.toInt + 1) (by omega) (by omega)
      refine q_iald (Sh.arr hI1690.1 ka_233) (v1723.toInt + 2 * x1688.toInt + 99) (by omega) (by omega) v1732 ((eA_c (hF1691.2.1 233 (by decide))).trans hv1732) ?_
      refine r_istore _ rfl ?_
      refine q_iinc (w_p1 (by decide) (Or.inr rfl) (w_p1 (by decide) (Or.inr rfl) e1699)) (x1688.toInt + 1) rfl (by omega) (fun v1733 hv1733 => ?_)
      refine r_iload (w_p1 (by decide) (Or.inr rfl) (w_p1 (by decide) (Or.inr rfl) (w_e1 _ _ _))) ?_
      refine r_bipush 20 rfl ?_
      refine r_ics 73 rfl (fun c1734 => ?_) (fun c1734 => ?_)
      · have c1734_ : v1727.toInt ≥ 20 := en_i_ge_t c1734
        refine At.enter rfl ?_
        refine r_iload (w_p1 (by decide) (Or.inr rfl) (w_p1 (by decide) (Or.inr rfl) (w_e1 _ _ _))) ?_
        refine r_bipush 27 rfl ?_
        refine r_ics 110 rfl (fun c1735 => ?_) (fun c1735 => ?_)
        · have c1735_ : v1727.toInt ≥ 27 := en_i_ge_t c1735
          refine At.enter rfl ?_
          refine r_iload (w_p1 (by decide) (Or.inr rfl) (w_p1 (by decide) (Or.inr rfl) (w_e1 _ _ _))) ?_
          refine r_bipush 27 rfl ?_
          refine r_ics 187 rfl (fun c1736 => ?_) (fun c1736 => ?_)
          · have c1736_ : v1727.toInt ≠ 27 := en_i_ne_t c1736
            refine At.enter rfl ?_
            refine r_aload_n (w_p1 (by decide) (Or.inr rfl) (w_p1 (by decide) (Or.inr rfl) (w_p1 (by decide) (Or.inr rfl) e1695))) ?_
            refine q_getR (Sh.ref hI1690.1 kx_231 rfl) ?_
            refine r_iload_n (w_p1 (by decide) (Or.inr rfl) (w_p1 (by decide) (Or.inr rfl) (w_p1 (by decide) (Or.inr rfl) e1698))) ?_
            refine r_iconst 1 rfl ?_
            refine q_isub (x1687.toInt - 1) rfl (by omega) (fun v1737 hv1737 => ?_)
            refine q_lald (Sh.lar hI1690.1 ka_245) ((x1687.toInt + (-1))) (by omega) (by omega) (fun v1738 => ?_)
            refine r_iload (w_p1 (by decide) (Or.inr rfl) (w_p1 (by decide) (Or.inr rfl) (w_e1 _ _ _))) ?_
            refine r_bipush 28 rfl ?_
            refine r_ics 223 rfl (fun c1739 => ?_) (fun c1739 => ?_)
            · have c1739_ : v1727.toInt ≠ 28 := en_i_ne_t c1739
              refine At.enter rfl ?_
              refine r_lconst 1 rfl ?_
              refine Ar.fall 228 rfl ?_
              refine At.enter rfl ?_
              refine r_lcmp _ rfl ?_
              refine r_ifs 232 rfl (fun c1740 => ?_) (fun c1740 => ?_)
              · have c1740_ : v1738.toInt ≠ 1 := en_j_ne_t c1740
                refine At.enter rfl ?_
                refine q_iinc (w_p1 (by decide) (Or.inr rfl) (w_p1 (by decide) (Or.inr rfl) (w_p1 (by decide) (Or.inr rfl) e1698))) (x1687.toInt + (-1)) rfl (by omega) (fun v1741 hv1741 => ?_)
                refine Ar.fall 242 rfl ?_
                refine At.enter rfl ?_
                refine r_goto ?_
                exact ih1694 (a2.toInt - v1733.toInt) _ _ ⟨v1741, v1733, by first | rfl | omega, hI1690, hF1691, (w_p1 (by decide) (Or.inr rfl) (w_p1 (by decide) (Or.inr rfl) (w_p1 (by decide) (Or.inr rfl) (w_p1 (by decide) (Or.inr rfl) e1695)))), (w_p1 (by decide) (Or.inr rfl) (w_p1 (by decide) (Or.inr rfl) (w_p1 (by decide) (Or.inr rfl) (w_p1 (by decide) (Or.inr rfl) e1696)))), (w_p1 (by decide) (Or.inr rfl) (w_p1 (by decide) (Or.inr rfl) (w_p1 (by decide) (Or.inr rfl) (w_p1 (by decide) (Or.inr rfl) e1697)))), (w_e1 _ _ _), (w_p1 (by decide) (Or.inr rfl) (w_e1 _ _ _)), by omega, by omega, (by first | omega | (have e := congrArg H hv1733; omega)), by omega⟩ ⟨by omega, by omega⟩
              · have c1740_ : v1738.toInt = 1 := en_j_ne_f c1740
                refine At.enter rfl ?_
                refine r_iload (w_p1 (by decide) (Or.inr rfl) (w_e1 _ _ _)) ?_
                refine r_istore _ rfl ?_
                refine r_goto ?_
                refine At.enter rfl ?_
                refine r_goto ?_
                exact ih1694 (a2.toInt - v1732.toInt) _ _ ⟨x1687, v1732, by first | rfl | omega, hI1690, hF1691, (w_p1 (by decide) (Or.inr rfl) (w_p1 (by decide) (Or.inr rfl) (w_p1 (by decide) (Or.inr rfl) (w_p1 (by decide) (Or.inr rfl) e1695)))), (w_p1 (by decide) (Or.inr rfl) (w_p1 (by decide) (Or.inr rfl) (w_p1 (by decide) (Or.inr rfl) (w_p1 (by decide) (Or.inr rfl) e1696)))), (w_p1 (by decide) (Or.inr rfl) (w_p1 (by decide) (Or.inr rfl) (w_p1 (by decide) (Or.inr rfl) (w_p1 (by decide) (Or.inr rfl) e1697)))), (w_p1 (by decide) (Or.inr rfl) (w_p1 (by decide) (Or.inr rfl) (w_p1 (by decide) (Or.inr rfl) (w_p1 (by decide) (Or.inr rfl) e1698)))), (w_e1 _ _ _), by omega, by omega, (by first | omega | (have e := congrArg H hv1732; omega)), by omega⟩ ⟨by omega, by omega⟩
            · have c1739_ : v1727.toInt = 28 := en_i_ne_f c1739
              refine At.enter rfl ?_
              refine r_lconst 0 rfl ?_
              refine r_goto ?_
              refine At.enter rfl ?_
              refine r_lcmp _ rfl ?_
              refine r_ifs 232 rfl (fun c1742 => ?_) (fun c1742 => ?_)
              · have c1742_ : v1738.toInt ≠ 0 := en_j_ne_t c1742
                refine At.enter rfl ?_
                refine q_iinc (w_p1 (by decide) (Or.inr rfl) (w_p1 (by decide) (Or.inr rfl) (w_p1 (by decide) (Or.inr rfl) e1698))) (x1687.toInt + (-1)) rfl (by omega) (fun v1743 hv1743 => ?_)
                refine Ar.fall 242 rfl ?_
                refine At.enter rfl ?_
                refine r_goto ?_
                exact ih1694 (a2.toInt - v1733.toInt) _ _ ⟨v1743, v1733, by first | rfl | omega, hI1690, hF1691, (w_p1 (by decide) (Or.inr rfl) (w_p1 (by decide) (Or.inr rfl) (w_p1 (by decide) (Or.inr rfl) (w_p1 (by decide) (Or.inr rfl) e1695)))), (w_p1 (by decide) (Or.inr rfl) (w_p1 (by decide) (Or.inr rfl) (w_p1 (by decide) (Or.inr rfl) (w_p1 (by decide) (Or.inr rfl) e1696)))), (w_p1 (by decide) (Or.inr rfl) (w_p1 (by decide) (Or.inr rfl) (w_p1 (by decide) (Or.inr rfl) (w_p1 (by decide) (Or.inr rfl) e1697)))), (w_e1 _ _ _), (w_p1 (by decide) (Or.inr rfl) (w_e1 _ _ _)), by omega, by omega, (by first | omega | (have e := congrArg H hv1733; omega)), by omega⟩ ⟨by omega, by omega⟩
              · have c1742_ : v1738.toInt = 0 := en_j_ne_f c1742
                refine At.enter rfl ?_
                refine r_iload (w_p1 (by decide) (Or.inr rfl) (w_e1 _ _ _)) ?_
                refine r_istore _ rfl ?_
                refine r_goto ?_
                refine At.enter rfl ?_
                refine r_goto ?_
                exact ih1694 (a2.toInt - v1732.toInt) _ _ ⟨x1687, v1732, by first | rfl | omega, hI1690, hF1691, (w_p1 (by decide) (Or.inr rfl) (w_p1 (by decide) (Or.inr rfl) (w_p1 (by decide) (Or.inr rfl) (w_p1 (by decide) (Or.inr rfl) e1695)))), (w_p1 (by decide) (Or.inr rfl) (w_p1 (by decide) (Or.inr rfl) (w_p1 (by decide) (Or.inr rfl) (w_p1 (by decide) (Or.inr rfl) e1696)))), (w_p1 (by decide) (Or.inr rfl) (w_p1 (by decide) (Or.inr rfl) (w_p1 (by decide) (Or.inr rfl) (w_p1 (by decide) (Or.inr rfl) e1697)))), (w_p1 (by decide) (Or.inr rfl) (w_p1 (by decide) (Or.inr rfl) (w_p1 (by decide) (Or.inr rfl) (w_p1 (by decide) (Or.inr rfl) e1698)))), (w_e1 _ _ _), by omega, by omega, (by first | omega | (have e := congrArg H hv1732; omega)), by omega⟩ ⟨by omega, by omega⟩
          · have c1736_ : v1727.toInt = 27 := en_i_ne_f c1736
            refine At.enter rfl ?_
            refine r_aload_n (w_p1 (by decide) (Or.inr rfl) (w_p1 (by decide) (Or.inr rfl) (w_p1 (by decide) (Or.inr rfl) e1695))) ?_
            refine q_getR (Sh.ref hI1690.1 kx_231 rfl) ?_
            refine r_iload_n (w_p1 (by decide) (Or.inr rfl) (w_p1 (by decide) (Or.inr rfl) (w_p1 (by decide) (Or.inr rfl) e1698))) ?_
            refine r_iconst 1 rfl ?_
            refine q_isub (x1687.toInt - 1) rfl (by omega) (fun v1744 hv1744 => ?_)
            refine r_lconst 1 rfl ?_
            refine r_aload_n (w_p1 (by decide) (Or.inr rfl) (w_p1 (by decide) (Or.inr rfl) (w_p1 (by decide) (Or.inr rfl) e1695))) ?_
            refine q_getR (Sh.ref hI1690.1 kx_231 rfl) ?_
            refine r_iload_n (w_p1 (by decide) (Or.inr rfl) (w_p1 (by decide) (Or.inr rfl) (w_p1 (by decide) (Or.inr rfl) e1698))) ?_
            refine r_iconst 1 rfl ?_
            refine q_isub (x1687.toInt - 1) rfl (by omega) (fun v1745 hv1745 => ?_)
            refine q_lald (Sh.lar hI1690.1 ka_245) ((x1687.toInt + (-1))) (by omega) (by omega) (fun v1746 => ?_)
            refine q_lsubO (fun v1747 _ => ?_)
            refine q_last (Sh.lar hI1690.1 ka_245) ((x1687.toInt + (-1))) (by omega) (by omega) ?_
            have hI1748 := HI.wK hI1690 ka_245 ((x1687.toInt + (-1))) (v1747)
            have hF1749 := Fr.wK (p := 245) (j := (x1687.toInt + (-1))) (v := v1747) hF1691
            refine r_goto ?_
            refine At.enter rfl ?_
            refine r_goto ?_
            exact ih1694 (a2.toInt - v1733.toInt) _ _ ⟨x1687, v1733, by first | rfl | omega, hI1748, hF1749, (w_p1 (by decide) (Or.inr rfl) (w_p1 (by decide) (Or.inr rfl) (w_p1 (by decide) (Or.inr rfl) e1695))), (w_p1 (by decide) (Or.inr rfl) (w_p1 (by decide) (Or.inr rfl) (w_p1 (by decide) (Or.inr rfl) e1696))), (w_p1 (by decide) (Or.inr rfl) (w_p1 (by decide) (Or.inr rfl) (w_p1 (by decide) (Or.inr rfl) e1697))), (w_p1 (by decide) (Or.inr rfl) (w_p1 (by decide) (Or.inr rfl) (w_p1 (by decide) (Or.inr rfl) e1698))), (w_e1 _ _ _), by omega, by omega, (by first | omega | (have e := congrArg H hv1733; omega)), by omega⟩ ⟨by omega, by omega⟩
        · have c1735_ : v1727.toInt < 27 := en_i_ge_f c1735
          refine At.enter rfl ?_
          refine q_iinc (w_p1 (by decide) (Or.inr rfl) (w_p1 (by decide) (Or.inr rfl) (w_p1 (by decide) (Or.inr rfl) e1698))) (x1687.toInt + (-1)) rfl (by omega) (fun v1750 hv1750 => ?_)
          refine r_aload_n (w_p1 (by decide) (Or.inr rfl) (w_p1 (by decide) (Or.inr rfl) (w_p1 (by decide) (Or.inr rfl) (w_p1 (by decide) (Or.inr rfl) e1695)))) ?_
          refine q_getR (Sh.ref hI1690.1 kx_231 rfl) ?_
          refine r_iload_n (w_e1 _ _ _) ?_
          refine r_iconst 1 rfl ?_
          refine q_isub (v1750.toInt - 1) rfl (by omega) (fun v1751 hv1751 => ?_)
          refine r_aload_n (w_p1 (by decide) (Or.inr rfl) (w_p1 (by decide) (Or.inr rfl) (w_p1 (by decide) (Or.inr rfl) (w_p1 (by decide) (Or.inr rfl) e1695)))) ?_
          refine r_iload (w_p1 (by decide) (Or.inr rfl) (w_p1 (by decide) (Or.inr rfl) (w_p1 (by decide) (Or.inr rfl) (w_e1 _ _ _)))) ?_
          refine r_aload_n (w_p1 (by decide) (Or.inr rfl) (w_p1 (by decide) (Or.inr rfl) (w_p1 (by decide) (Or.inr rfl) (w_p1 (by decide) (Or.inr rfl) e1695)))) ?_
          refine q_getR (Sh.ref hI1690.1 kx_231 rfl) ?_
          refine r_iload_n (w_e1 _ _ _) ?_
          refine r_iconst 1 rfl ?_
          refine q_isub (v1750.toInt - 1) rfl (by omega) (fun v1752 hv1752 => ?_)
          refine q_lald (Sh.lar hI1690.1 ka_245) ((x1687.toInt + (-2))) (by omega) (by omega) (fun v1753 => ?_)
          refine r_aload_n (w_p1 (by decide) (Or.inr rfl) (w_p1 (by decide) (Or.inr rfl) (w_p1 (by decide) (Or.inr rfl) (w_p1 (by decide) (Or.inr rfl) e1695)))) ?_
          refine q_getR (Sh.ref hI1690.1 kx_231 rfl) ?_
          refine r_iload_n (w_e1 _ _ _) ?_
          refine q_lald (Sh.lar hI1690.1 ka_245) ((x1687.toInt + (-1))) (by omega) (by omega) (fun v1754 => ?_)
          refine r_callV 140 rfl [.ref 231, .int v1727, .long v1753, .long v1754] [.int v1751, .ref 245] (Nat.le_of_ble_eq_true rfl) rfl (T_X11_reckon_231 _ hI1690 v1727 v1753 v1754) ?_
          rintro _ _ ⟨g1755, rfl, hI1756, hF1757, v1758, rfl, hr1759⟩
          refine At.stl ?_
          have hF1760 := Fr.tr hF1691 hF1757 rfl rfl
          refine At.enter rfl ?_
          refine q_last (Sh.lar hI1756.1 ka_245) ((x1687.toInt + (-2))) (by omega) (by omega) ?_
          have hI1761 := HI.wK hI1756 ka_245 ((x1687.toInt + (-2))) (v1758)
          have hF1762 := Fr.wK (p := 245) (j := (x1687.toInt + (-2))) (v := v1758) hF1760
          refine r_aload_n (w_p1 (by decide) (Or.inr rfl) (w_p1 (by decide) (Or.inr rfl) (w_p1 (by decide) (Or.inr rfl) (w_p1 (by decide) (Or.inr rfl) e1695)))) ?_
          refine r_aload_n (w_p1 (by decide) (Or.inr rfl) (w_p1 (by decide) (Or.inr rfl) (w_p1 (by decide) (Or.inr rfl) (w_p1 (by decide) (Or.inr rfl) e1695)))) ?_
          obtain ⟨v1763, hv1763⟩ : ∃ v, gI g1755 231 30 = v := ⟨_, rfl⟩
          refine q_getI (Sh.int hI1761.1 kx_231 rfl) v1763 ((gI_sX).trans hv1763) ?_
          refine r_ifs 149 rfl (fun c1764 => ?_) (fun c1764 => ?_)
          · have c1764_ : v1763.toInt ≠ 0 := en_k_ne_t c1764
            refine At.enter rfl ?_
            refine r_iconst 1 rfl ?_
            refine r_goto ?_
            refine At.enter rfl ?_
            refine q_putI (Sh.int hI1761.1 kx_231 rfl) rfl ?_
            have hI1765 := HI.wI0 hI1761 kx_231 rfl (p := 231) (b := 30) (v := 1) rfl
            have hF1766 := Fr.wI (p := 231) (b := 30) (v := 1) hF1762 rfl
            refine r_goto ?_
            refine At.enter rfl ?_
            refine r_goto ?_
            exact ih1694 (a2.toInt - v1733.toInt) _ _ ⟨v1750, v1733, by first | rfl | omega, hI1765, hF1766, (w_p1 (by decide) (Or.inr rfl) (w_p1 (by decide) (Or.inr rfl) (w_p1 (by decide) (Or.inr rfl) (w_p1 (by decide) (Or.inr rfl) e1695)))), (w_p1 (by decide) (Or.inr rfl) (w_p1 (by decide) (Or.inr rfl) (w_p1 (by decide) (Or.inr rfl) (w_p1 (by decide) (Or.inr rfl) e1696)))), (w_p1 (by decide) (Or.inr rfl) (w_p1 (by decide) (Or.inr rfl) (w_p1 (by decide) (Or.inr rfl) (w_p1 (by decide) (Or.inr rfl) e1697)))), (w_e1 _ _ _), (w_p1 (by decide) (Or.inr rfl) (w_e1 _ _ _)), by omega, by omega, (by first | omega | (have e := congrArg H hv1733; omega)), by omega⟩ ⟨by omega, by omega⟩
          · have c1764_ : v1763.toInt = 0 := en_k_ne_f c1764
            refine At.enter rfl ?_
            refine r_aload_n (w_p1 (by decide) (Or.inr rfl) (w_p1 (by decide) (Or.inr rfl) (w_p1 (by decide) (Or.inr rfl) (w_p1 (by decide) (Or.inr rfl) e1695)))) ?_
            refine q_getR (Sh.ref hI1761.1 kx_231 rfl) ?_
            refine r_iload_n (w_e1 _ _ _) ?_
            refine r_iconst 1 rfl ?_
            refine q_isub (v1750.toInt - 1) rfl (by omega) (fun v1767 hv1767 => ?_)
            refine q_lald (Sh.lar hI1761.1 ka_245) ((x1687.toInt + (-2))) (by omega) (by omega) (fun v1768 => ?_)
            refine r_ldc2 (-1000000000) rfl ?_
            refine r_ldc2 1000000000 rfl ?_
            refine q_inlS 166 rfl [.long v1768, .long (-1000000000), .long 1000000000] [.ref 231] (Nat.le_of_ble_eq_true rfl) rfl ?_
            refine Ev.mk rfl rfl ⟨Nat.le_of_ble_eq_true rfl, Or.inl rfl⟩ ?_
            show At _ none _ _ (0, [(0, .long v1768), (2, .long (-1000000000)), (4, .long 1000000000)], [], (_, _)) _
            refine At.enter rfl ?_
            refine r_lload_n rfl ?_
            refine r_lload_n rfl ?_
            refine r_lcmp _ rfl ?_
            refine r_ifs 6 rfl (fun c1769 => ?_) (fun c1769 => ?_)
            · have c1769_ : v1768.toInt < (-1000000000) := en_j_lt_t c1769
              refine At.enter rfl ?_
              refine r_iconst 0 rfl ?_
              refine Ar.fall 18 rfl ?_
              refine At.enter rfl ?_
              refine q_iretz (by decide) ?_
              refine At.enter rfl ?_
              refine r_iff 169 rfl (by decide) ?_
              refine At.enter rfl ?_
              refine r_iconst 1 rfl ?_
              refine r_goto ?_
              refine At.enter rfl ?_
              refine q_putI (Sh.int hI1761.1 kx_231 rfl) rfl ?_
              have hI1770 := HI.wI0 hI1761 kx_231 rfl (p := 231) (b := 30) (v := 1) rfl
              have hF1771 := Fr.wI (p := 231) (b := 30) (v := 1) hF1762 rfl
              refine r_goto ?_
              refine At.enter rfl ?_
              refine r_goto ?_
              exact ih1694 (a2.toInt - v1733.toInt) _ _ ⟨v1750, v1733, by first | rfl | omega, hI1770, hF1771, (w_p1 (by decide) (Or.inr rfl) (w_p1 (by decide) (Or.inr rfl) (w_p1 (by decide) (Or.inr rfl) (w_p1 (by decide) (Or.inr rfl) e1695)))), (w_p1 (by decide) (Or.inr rfl) (w_p1 (by decide) (Or.inr rfl) (w_p1 (by decide) (Or.inr rfl) (w_p1 (by decide) (Or.inr rfl) e1696)))), (w_p1 (by decide) (Or.inr rfl) (w_p1 (by decide) (Or.inr rfl) (w_p1 (by decide) (Or.inr rfl) (w_p1 (by decide) (Or.inr rfl) e1697)))), (w_e1 _ _ _), (w_p1 (by decide) (Or.inr rfl) (w_e1 _ _ _)), by omega, by omega, (by first | omega | (have e := congrArg H hv1733; omega)), by omega⟩ ⟨by omega, by omega⟩
            · have c1769_ : v1768.toInt ≥ (-1000000000) := en_j_lt_f c1769
              refine At.enter rfl ?_
              refine r_lload_n rfl ?_
              refine r_lload rfl ?_
              refine r_lcmp _ rfl ?_
              refine r_ifs 13 rfl (fun c1772 => ?_) (fun c1772 => ?_)
              · have c1772_ : v1768.toInt > 1000000000 := en_j_gt_t c1772
                refine At.enter rfl ?_
                refine r_iconst 0 rfl ?_
                refine Ar.fall 18 rfl ?_
                refine At.enter rfl ?_
                refine q_iretz (by decide) ?_
                refine At.enter rfl ?_
                refine r_iff 169 rfl (by decide) ?_
                refine At.enter rfl ?_
                refine r_iconst 1 rfl ?_
                refine r_goto ?_
                refine At.enter rfl ?_
                refine q_putI (Sh.int hI1761.1 kx_231 rfl) rfl ?_
                have hI1773 := HI.wI0 hI1761 kx_231 rfl (p := 231) (b := 30) (v := 1) rfl
                have hF1774 := Fr.wI (p := 231) (b := 30) (v := 1) hF1762 rfl
                refine r_goto ?_
                refine At.enter rfl ?_
                refine r_goto ?_
                exact ih1694 (a2.toInt - v1733.toInt) _ _ ⟨v1750, v1733, by first | rfl | omega, hI1773, hF1774, (w_p1 (by decide) (Or.inr rfl) (w_p1 (by decide) (Or.inr rfl) (w_p1 (by decide) (Or.inr rfl) (w_p1 (by decide) (Or.inr rfl) e1695)))), (w_p1 (by decide) (Or.inr rfl) (w_p1 (by decide) (Or.inr rfl) (w_p1 (by decide) (Or.inr rfl) (w_p1 (by decide) (Or.inr rfl) e1696)))), (w_p1 (by decide) (Or.inr rfl) (w_p1 (by decide) (Or.inr rfl) (w_p1 (by decide) (Or.inr rfl) (w_p1 (by decide) (Or.inr rfl) e1697)))), (w_e1 _ _ _), (w_p1 (by decide) (Or.inr rfl) (w_e1 _ _ _)), by omega, by omega, (by first | omega | (have e := congrArg H hv1733; omega)), by omega⟩ ⟨by omega, by omega⟩
              · have c1772_ : v1768.toInt ≤ 1000000000 := en_j_gt_f c1772
                refine At.enter rfl ?_
                refine r_iconst 1 rfl ?_
                refine r_goto ?_
                refine At.enter rfl ?_
                refine q_iretz (by decide) ?_
                refine At.enter rfl ?_
                refine r_ift (by decide) ?_
                refine At.enter rfl ?_
                refine r_iconst 0 rfl ?_
                refine Ar.fall 174 rfl ?_
                refine At.enter rfl ?_
                refine q_putI (Sh.int hI1761.1 kx_231 rfl) rfl ?_
                have hI1775 := HI.wI0 hI1761 kx_231 rfl (p := 231) (b := 30) (v := 0) rfl
                have hF1776 := Fr.wI (p := 231) (b := 30) (v := 0) hF1762 rfl
                refine r_goto ?_
                refine At.enter rfl ?_
                refine r_goto ?_
                exact ih1694 (a2.toInt - v1733.toInt) _ _ ⟨v1750, v1733, by first | rfl | omega, hI1775, hF1776, (w_p1 (by decide) (Or.inr rfl) (w_p1 (by decide) (Or.inr rfl) (w_p1 (by decide) (Or.inr rfl) (w_p1 (by decide) (Or.inr rfl) e1695)))), (w_p1 (by decide) (Or.inr rfl) (w_p1 (by decide) (Or.inr rfl) (w_p1 (by decide) (Or.inr rfl) (w_p1 (by decide) (Or.inr rfl) e1696)))), (w_p1 (by decide) (Or.inr rfl) (w_p1 (by decide) (Or.inr rfl) (w_p1 (by decide) (Or.inr rfl) (w_p1 (by decide) (Or.inr rfl) e1697)))), (w_e1 _ _ _), (w_p1 (by decide) (Or.inr rfl) (w_e1 _ _ _)), by omega, by omega, (by first | omega | (have e := congrArg H hv1733; omega)), by omega⟩ ⟨by omega, by omega⟩
      · have c1734_ : v1727.toInt < 20 := en_i_ge_f c1734
        refine At.enter rfl ?_
        refine r_aload_n (w_p1 (by decide) (Or.inr rfl) (w_p1 (by decide) (Or.inr rfl) (w_p1 (by decide) (Or.inr rfl) e1695))) ?_
        refine q_getR (Sh.ref hI1690.1 kx_231 rfl) ?_
        refine r_iload_n (w_p1 (by decide) (Or.inr rfl) (w_p1 (by decide) (Or.inr rfl) (w_p1 (by decide) (Or.inr rfl) e1698))) ?_
        refine r_iload (w_p1 (by decide) (Or.inr rfl) (w_p1 (by decide) (Or.inr rfl) (w_e1 _ _ _))) ?_
        refine r_ifs 83 rfl (fun c1777 => ?_) (fun c1777 => ?_)
        · have c1777_ : v1727.toInt ≠ 0 := en_k_ne_t c1777
          refine At.enter rfl ?_
          refine r_aload_n (w_p1 (by decide) (Or.inr rfl) (w_p1 (by decide) (Or.inr rfl) (w_p1 (by decide) (Or.inr rfl) e1695))) ?_
          refine q_getR (Sh.ref hI1690.1 kx_231 rfl) ?_
          refine r_iload (w_p1 (by decide) (Or.inr rfl) (w_p1 (by decide) (Or.inr rfl) (w_e1 _ _ _))) ?_
          refine q_lald (Sh.lar hI1690.1 ka_244) (v1727.toInt) rfl (by omega) (fun v1778 => ?_)
          refine Ar.fall 96 rfl ?_
          refine At.enter rfl ?_
          refine q_last (Sh.lar hI1690.1 ka_245) (x1687.toInt) rfl (by omega) ?_
          have hI1779 := HI.wK hI1690 ka_245 (x1687.toInt) (v1778)
          have hF1780 := Fr.wK (p := 245) (j := x1687.toInt) (v := v1778) hF1691
          refine q_iinc (w_p1 (by decide) (Or.inr rfl) (w_p1 (by decide) (Or.inr rfl) (w_p1 (by decide) (Or.inr rfl) e1698))) (x1687.toInt + 1) rfl (by omega) (fun v1781 hv1781 => ?_)
          refine r_goto ?_
          refine At.enter rfl ?_
          refine r_goto ?_
          exact ih1694 (a2.toInt - v1733.toInt) _ _ ⟨v1781, v1733, by first | rfl | omega, hI1779, hF1780, (w_p1 (by decide) (Or.inr rfl) (w_p1 (by decide) (Or.inr rfl) (w_p1 (by decide) (Or.inr rfl) (w_p1 (by decide) (Or.inr rfl) e1695)))), (w_p1 (by decide) (Or.inr rfl) (w_p1 (by decide) (Or.inr rfl) (w_p1 (by decide) (Or.inr rfl) (w_p1 (by decide) (Or.inr rfl) e1696)))), (w_p1 (by decide) (Or.inr rfl) (w_p1 (by decide) (Or.inr rfl) (w_p1 (by decide) (Or.inr rfl) (w_p1 (by decide) (Or.inr rfl) e1697)))), (w_e1 _ _ _), (w_p1 (by decide) (Or.inr rfl) (w_e1 _ _ _)), by omega, by omega, (by first | omega | (have e := congrArg H hv1733; omega)), by omega⟩ ⟨by omega, by omega⟩
        · have c1777_ : v1727.toInt = 0 := en_k_ne_f c1777
          refine At.enter rfl ?_
          refine r_iload (w_p1 (by decide) (Or.inr rfl) (w_e1 _ _ _)) ?_
          refine q_i2l (fun v1782 hv1782 => ?_)
          refine r_goto ?_
          refine At.enter rfl ?_
          refine q_last (Sh.lar hI1690.1 ka_245) (x1687.toInt) rfl (by omega) ?_
          have hI1783 := HI.wK hI1690 ka_245 (x1687.toInt) (v1782)
          have hF1784 := Fr.wK (p := 245) (j := x1687.toInt) (v := v1782) hF1691
          refine q_iinc (w_p1 (by decide) (Or.inr rfl) (w_p1 (by decide) (Or.inr rfl) (w_p1 (by decide) (Or.inr rfl) e1698))) (x1687.toInt + 1) rfl (by omega) (fun v1785 hv1785 => ?_)
          refine r_goto ?_
          refine At.enter rfl ?_
          refine r_goto ?_
          exact ih1694 (a2.toInt - v1733.toInt) _ _ ⟨v1785, v1733, by first | rfl | omega, hI1783, hF1784, (w_p1 (by decide) (Or.inr rfl) (w_p1 (by decide) (Or.inr rfl) (w_p1 (by decide) (Or.inr rfl) (w_p1 (by decide) (Or.inr rfl) e1695)))), (w_p1 (by decide) (Or.inr rfl) (w_p1 (by decide) (Or.inr rfl) (w_p1 (by decide) (Or.inr rfl) (w_p1 (by decide) (Or.inr rfl) e1696)))), (w_p1 (by decide) (Or.inr rfl) (w_p1 (by decide) (Or.inr rfl) (w_p1 (by decide) (Or.inr rfl) (w_p1 (by decide) (Or.inr rfl) e1697)))), (w_e1 _ _ _), (w_p1 (by decide) (Or.inr rfl) (w_e1 _ _ _)), by omega, by omega, (by first | omega | (have e := congrArg H hv1733; omega)), by omega⟩ ⟨by omega, by omega⟩

def F_X11_tells_231 : List (Nat × Nat) := [(231, 27), (231, 30), (231, 31), (231, 32)]
def A_X11_tells_231 : List Nat := []
set_option maxRecDepth 100000 in
set_option maxHeartbeats 4000000 in
theorem T_X11_tells_231 (d : Nat) {N : Nat} {g0 : List en_E} (hI0 : HI g0) (a1 : Int32) (a2 : Int32) (h_a2 : 0 ≤ a2.toInt ∧ a2.toInt ≤ 7) (a3 : Int32) (h_a3 : 0 ≤ a3.toInt ∧ a3.toInt ≤ 11) (a4 : Int32) (a5 : Int32) (a6 : Int64) : Ev (d + 4) 216 [.ref 231, .int a1, .int a2, .int a3, .int a4, .int a5, .long a6] (g0, N) (fun w h' => ∃ g', h' = (g', N) ∧ HI g' ∧ Fr F_X11_tells_231 A_X11_tells_231 g0 g' ∧ ∃ r : Int64, w = some (.long r) ∧ True) := by
  have hF0 : Fr F_X11_tells_231 A_X11_tells_231 g0 g0 := Fr.rf
  refine Ev.mk rfl rfl ⟨Nat.le_of_ble_eq_true rfl, Or.inr (q_rc hI0.1 kx_231 rfl)⟩ ?_
  show At _ none _ _ (0, [(0, .ref 231), (1, .int a1), (2, .int a2), (3, .int a3), (4, .int a4), (5, .int a5), (6, .long a6)], [], (_, _)) _
  refine At.enter rfl ?_
  refine r_aload_n rfl ?_
  refine q_getR (Sh.ref hI0.1 kx_231 rfl) ?_
  refine r_iconst 3 rfl ?_
  obtain ⟨v5391, hv5391⟩ : ∃ v, eA g0 233 3 = v := ⟨_, rfl⟩
  have wv5391 := HI.t3 hI0
  rw [hv5391] at wv5391
  refine q_iald (Sh.arr hI0.1 ka_233) 3 rfl (by decide) v5391 hv5391 ?_
  refine r_iconst (-1) rfl ?_
  refine r_ics 10 rfl (fun c5392 => ?_) (fun c5392 => ?_)
  · have c5392_ : v5391.toInt ≠ (-1) := en_i_ne_t c5392
    refine At.enter rfl ?_
    refine r_aload_n rfl ?_
    refine r_bipush 110 rfl ?_
    refine r_sipush 900 rfl ?_
    refine r_aload_n rfl ?_
    refine q_getR (Sh.ref hI0.1 kx_231 rfl) ?_
    refine r_iconst 3 rfl ?_
    refine q_iald (Sh.arr hI0.1 ka_233) 3 rfl (by decide) v5391 hv5391 ?_
    refine q_imul (900 * v5391.toInt) rfl (by omega) (fun v5393 hv5393 => ?_)
    refine q_iadd (110 + v5393.toInt) rfl (by omega) (fun v5394 hv5394 => ?_)
    refine q_putI (Sh.int hI0.1 kx_231 rfl) rfl ?_
    have hI5395 := HI.wI1 hI0 kx_231 rfl (p := 231) (b := 27) (v := v5394) rfl (by dsimp only; omega)
    have hF5396 := Fr.wI (p := 231) (b := 27) (v := v5394) hF0 rfl
    refine r_aload_n rfl ?_
    refine r_iload_n rfl ?_
    refine r_iconst 0 rfl ?_
    refine q_inlV 36 rfl [.ref 231, .int a3, .int 0] [] (Nat.le_of_ble_eq_true rfl) rfl ?_
    refine Ev.mk rfl rfl ⟨Nat.le_of_ble_eq_true rfl, Or.inr (q_rc hI5395.1 kx_231 rfl)⟩ ?_
    show At _ none _ _ (0, [(0, .ref 231), (1, .int a3), (2, .int 0)], [], (_, _)) _
    refine At.enter rfl ?_
    refine r_aload_n rfl ?_
    refine q_getR (Sh.ref hI5395.1 kx_231 rfl) ?_
    refine r_bipush 10 rfl ?_
    refine r_iconst 3 rfl ?_
    refine r_iload_n rfl ?_
    refine q_imul (3 * a3.toInt) rfl (by omega) (fun v5397 hv5397 => ?_)
    refine q_iadd (10 + v5397.toInt) rfl (by omega) (fun v5398 hv5398 => ?_)
    refine r_iload_n rfl ?_
    refine q_iadd (v5398.toInt + 0) rfl (by omega) (fun v5399 hv5399 => ?_)
    obtain ⟨v5400, hv5400⟩ : ∃ v, eA g0 233 (3 * a3.toInt + 10) = v := ⟨_, rfl⟩
    have wv5400 := HI.s0 hI0 (j := (3 * a3.toInt + 10)) (a3.toInt) (by omega) (by omega)
    rw [hv5400] at wv5400
    refine q_iald (Sh.arr hI5395.1 ka_233) (3 * a3.toInt + 10) (by omega) (by omega) v5400 ((eA_c (gA_sI)).trans hv5400) ?_
    refine q_ireti ?_
    refine At.enter rfl ?_
    refine r_istore ([(8, .int v5400), (0, .ref 231), (1, .int a1), (2, .int a2), (3, .int a3), (4, .int a4), (5, .int a5), (6, .long a6)]) rfl ?_
    refine r_aload_n rfl ?_
    refine q_getR (Sh.ref hI5395.1 kx_231 rfl) ?_
    refine r_iconst 1 rfl ?_
    refine r_iload_n rfl ?_
    refine q_i2l (fun v5401 hv5401 => ?_)
    refine q_last (Sh.lar hI5395.1 ka_244) (1) rfl (by decide) ?_
    have hI5402 := HI.wK hI5395 ka_244 (1) (v5401)
    have hF5403 := Fr.wK (p := 244) (j := 1) (v := v5401) hF5396
    refine r_aload_n rfl ?_
    refine q_getR (Sh.ref hI5402.1 kx_231 rfl) ?_
    refine r_iconst 2 rfl ?_
    refine r_aload_n rfl ?_
    refine r_iload_n rfl ?_
    refine r_iconst 0 rfl ?_
    refine q_inlV 57 rfl [.ref 231, .int a2, .int 0] [.int 2, .ref 244] (Nat.le_of_ble_eq_true rfl) rfl ?_
    refine Ev.mk rfl rfl ⟨Nat.le_of_ble_eq_true rfl, Or.inr (q_rc hI5402.1 kx_231 rfl)⟩ ?_
    show At _ none _ _ (0, [(0, .ref 231), (1, .int a2), (2, .int 0)], [], (_, _)) _
    refine At.enter rfl ?_
    refine r_aload_n rfl ?_
    refine q_getR (Sh.ref hI5402.1 kx_231 rfl) ?_
    refine r_bipush 46 rfl ?_
    refine r_bipush 6 rfl ?_
    refine r_iload_n rfl ?_
    refine q_imul (6 * a2.toInt) rfl (by omega) (fun v5404 hv5404 => ?_)
    refine q_iadd (46 + v5404.toInt) rfl (by omega) (fun v5405 hv5405 => ?_)
    refine r_iload_n rfl ?_
    refine q_iadd (v5405.toInt + 0) rfl (by omega) (fun v5406 hv5406 => ?_)
    obtain ⟨v5407, hv5407⟩ : ∃ v, eA g0 233 (6 * a2.toInt + 46) = v := ⟨_, rfl⟩
    have wv5407 := HI.l0 hI0 (j := (6 * a2.toInt + 46)) (a2.toInt) (by omega) (by omega)
    rw [hv5407] at wv5407
    refine q_iald (Sh.arr hI5402.1 ka_233) (6 * a2.toInt + 46) (by omega) (by omega) v5407 ((eA_c ((gA_sX).trans (gA_sI))).trans hv5407) ?_
    refine q_ireti ?_
    refine At.enter rfl ?_
    refine q_i2l (fun v5408 hv5408 => ?_)
    refine q_last (Sh.lar hI5402.1 ka_244) (2) rfl (by decide) ?_
    have hI5409 := HI.wK hI5402 ka_244 (2) (v5408)
    have hF5410 := Fr.wK (p := 244) (j := 2) (v := v5408) hF5403
    refine r_aload_n rfl ?_
    refine q_getR (Sh.ref hI5409.1 kx_231 rfl) ?_
    refine r_iconst 3 rfl ?_
    refine r_aload_n rfl ?_
    refine r_iload_n rfl ?_
    refine r_iconst 4 rfl ?_
    refine q_inlV 70 rfl [.ref 231, .int a2, .int 4] [.int 3, .ref 244] (Nat.le_of_ble_eq_true rfl) rfl ?_
    refine Ev.mk rfl rfl ⟨Nat.le_of_ble_eq_true rfl, Or.inr (q_rc hI5409.1 kx_231 rfl)⟩ ?_
    show At _ none _ _ (0, [(0, .ref 231), (1, .int a2), (2, .int 4)], [], (_, _)) _
    refine At.enter rfl ?_
    refine r_aload_n rfl ?_
    refine q_getR (Sh.ref hI5409.1 kx_231 rfl) ?_
    refine r_bipush 46 rfl ?_
    refine r_bipush 6 rfl ?_
    refine r_iload_n rfl ?_
    refine q_imul (6 * a2.toInt) rfl (by omega) (fun v5411 hv5411 => ?_)
    refine q_iadd (46 + v5411.toInt) rfl (by omega) (fun v5412 hv5412 => ?_)
    refine r_iload_n rfl ?_
    refine q_iadd (v5412.toInt + 4) rfl (by omega) (fun v5413 hv5413 => ?_)
    obtain ⟨v5414, hv5414⟩ : ∃ v, eA g0 233 (6 * a2.toInt + 50) = v := ⟨_, rfl⟩
    have wv5414 := HI.l4 hI0 (j := (6 * a2.toInt + 50)) (a2.toInt) (by omega) (by omega)
    rw [hv5414] at wv5414
    refine q_iald (Sh.arr hI5409.1 ka_233) (6 * a2.toInt + 50) (by omega) (by omega) v5414 ((eA_c ((gA_sX).trans ((gA_sX).trans (gA_sI)))).trans hv5414) ?_
    refine q_ireti ?_
    refine At.enter rfl ?_
    refine q_i2l (fun v5415 hv5415 => ?_)
    refine q_last (Sh.lar hI5409.1 ka_244) (3) rfl (by decide) ?_
    have hI5416 := HI.wK hI5409 ka_244 (3) (v5415)
    have hF5417 := Fr.wK (p := 244) (j := 3) (v := v5415) hF5410
    refine r_aload_n rfl ?_
    refine q_getR (Sh.ref hI5416.1 kx_231 rfl) ?_
    refine r_iconst 4 rfl ?_
    refine r_iload_n rfl ?_
    refine q_i2l (fun v5418 hv5418 => ?_)
    refine q_last (Sh.lar hI5416.1 ka_244) (4) rfl (by decide) ?_
    have hI5419 := HI.wK hI5416 ka_244 (4) (v5418)
    have hF5420 := Fr.wK (p := 244) (j := 4) (v := v5418) hF5417
    refine r_aload_n rfl ?_
    refine q_getR (Sh.ref hI5419.1 kx_231 rfl) ?_
    refine r_iconst 5 rfl ?_
    refine r_aload_n rfl ?_
    refine r_iload rfl ?_
    refine q_inlV 91 rfl [.ref 231, .int v5400] [.int 5, .ref 244] (Nat.le_of_ble_eq_true rfl) rfl ?_
    refine Ev.mk rfl rfl ⟨Nat.le_of_ble_eq_true rfl, Or.inr (q_rc hI5419.1 kx_231 rfl)⟩ ?_
    show At _ none _ _ (0, [(0, .ref 231), (1, .int v5400)], [], (_, _)) _
    refine At.enter rfl ?_
    refine r_iload_n rfl ?_
    refine q_i2l (fun v5421 hv5421 => ?_)
    refine r_lconst 0 rfl ?_
    refine r_aload_n rfl ?_
    refine q_getR (Sh.ref hI5419.1 kx_231 rfl) ?_
    refine r_iconst 0 rfl ?_
    obtain ⟨v5422, hv5422⟩ : ∃ v, eA g0 233 0 = v := ⟨_, rfl⟩
    have tv5422 := congrArg Int32.toInt hv5422
    have wv5422 := HI.t0 hI0
    rw [hv5422] at wv5422
    refine q_iald (Sh.arr hI5419.1 ka_233) 0 rfl (by decide) v5422 ((eA_c ((gA_sX).trans ((gA_sX).trans ((gA_sX).trans ((gA_sX).trans (gA_sI)))))).trans hv5422) ?_
    refine q_i2l (fun v5423 hv5423 => ?_)
    refine r_lconst 1 rfl ?_
    refine q_lsub (v5423.toInt - 1) rfl (by omega) (fun v5424 hv5424 => ?_)
    refine q_inlS 15 rfl [.long v5421, .long 0, .long v5424] [] (Nat.le_of_ble_eq_true rfl) rfl ?_
    refine Ev.mk rfl rfl ⟨Nat.le_of_ble_eq_true rfl, Or.inl rfl⟩ ?_
    show At _ none _ _ (0, [(0, .long v5421), (2, .long 0), (4, .long v5424)], [], (_, _)) _
    refine At.enter rfl ?_
    refine r_lload_n rfl ?_
    refine r_lload_n rfl ?_
    refine r_lcmp _ rfl ?_
    refine r_ifs 6 rfl (fun c5425 => ?_) (fun c5425 => ?_)
    · have c5425_ : v5421.toInt < 0 := en_j_lt_t c5425
      refine At.enter rfl ?_
      refine r_iconst 0 rfl ?_
      refine Ar.fall 18 rfl ?_
      refine At.enter rfl ?_
      refine q_iretz (by decide) ?_
      refine At.enter rfl ?_
      refine q_iretz (by decide) ?_
      refine At.enter rfl ?_
      refine r_ift (by decide) ?_
      refine At.enter rfl ?_
      refine r_ldc2 (-1) rfl ?_
      refine Ar.fall 103 rfl ?_
      refine At.enter rfl ?_
      refine q_last (Sh.lar hI5419.1 ka_244) (5) rfl (by decide) ?_
      have hI5426 := HI.wK hI5419 ka_244 (5) ((-1))
      have hF5427 := Fr.wK (p := 244) (j := 5) (v := (-1)) hF5420
      refine r_aload_n rfl ?_
      refine q_getR (Sh.ref hI5426.1 kx_231 rfl) ?_
      refine r_bipush 6 rfl ?_
      refine r_iload rfl ?_
      refine q_i2l (fun v5428 hv5428 => ?_)
      refine q_last (Sh.lar hI5426.1 ka_244) (6) rfl (by decide) ?_
      have hI5429 := HI.wK hI5426 ka_244 (6) (v5428)
      have hF5430 := Fr.wK (p := 244) (j := 6) (v := v5428) hF5427
      refine r_aload_n rfl ?_
      refine q_getR (Sh.ref hI5429.1 kx_231 rfl) ?_
      refine r_bipush 7 rfl ?_
      refine r_iload rfl ?_
      refine q_i2l (fun v5431 hv5431 => ?_)
      refine q_last (Sh.lar hI5429.1 ka_244) (7) rfl (by decide) ?_
      have hI5432 := HI.wK hI5429 ka_244 (7) (v5431)
      have hF5433 := Fr.wK (p := 244) (j := 7) (v := v5431) hF5430
      refine r_aload_n rfl ?_
      refine q_getR (Sh.ref hI5432.1 kx_231 rfl) ?_
      refine r_bipush 8 rfl ?_
      refine r_aload_n rfl ?_
      refine q_getR (Sh.ref hI5432.1 kx_231 rfl) ?_
      refine r_iload_n rfl ?_
      obtain ⟨v5434, hv5434⟩ : ∃ v, eA g0 246 a3.toInt = v := ⟨_, rfl⟩
      refine q_iald (Sh.arr hI5432.1 ka_246) a3.toInt rfl (by omega) v5434 ((eA_c ((gA_sX).trans ((gA_sX).trans ((gA_sX).trans ((gA_sX).trans ((gA_sX).trans ((gA_sX).trans ((gA_sX).trans (gA_sI))))))))).trans hv5434) ?_
      refine q_i2l (fun v5435 hv5435 => ?_)
      refine q_last (Sh.lar hI5432.1 ka_244) (8) rfl (by decide) ?_
      have hI5436 := HI.wK hI5432 ka_244 (8) (v5435)
      have hF5437 := Fr.wK (p := 244) (j := 8) (v := v5435) hF5433
      refine r_aload_n rfl ?_
      refine q_getR (Sh.ref hI5436.1 kx_231 rfl) ?_
      refine r_bipush 9 rfl ?_
      refine r_aload_n rfl ?_
      refine q_getR (Sh.ref hI5436.1 kx_231 rfl) ?_
      refine r_iload_n rfl ?_
      obtain ⟨v5438, hv5438⟩ : ∃ v, eA g0 247 a3.toInt = v := ⟨_, rfl⟩
      refine q_iald (Sh.arr hI5436.1 ka_247) a3.toInt rfl (by omega) v5438 ((eA_c ((gA_sX).trans ((gA_sX).trans ((gA_sX).trans ((gA_sX).trans ((gA_sX).trans ((gA_sX).trans ((gA_sX).trans ((gA_sX).trans (gA_sI)))))))))).trans hv5438) ?_
      refine q_i2l (fun v5439 hv5439 => ?_)
      refine q_last (Sh.lar hI5436.1 ka_244) (9) rfl (by decide) ?_
      have hI5440 := HI.wK hI5436 ka_244 (9) (v5439)
      have hF5441 := Fr.wK (p := 244) (j := 9) (v := v5439) hF5437
      refine r_lload rfl ?_
      refine r_lstore ([(9, .long a6), (8, .int v5400), (0, .ref 231), (1, .int a1), (2, .int a2), (3, .int a3), (4, .int a4), (5, .int a5), (6, .long a6)]) rfl ?_
      refine r_iconst 0 rfl ?_
      refine r_istore ([(11, .int 0), (9, .long a6), (8, .int v5400), (0, .ref 231), (1, .int a1), (2, .int a2), (3, .int a3), (4, .int a4), (5, .int a5), (6, .long a6)]) rfl ?_
      refine Ar.fall 159 rfl ?_
      have z_6227 : (0 : Int32).toInt = 0 := rfl
      refine w_loopI (fun n_ l_ g_ => ∃ x6207 : Int64, ∃ x6208 : Int32, n_ = 12 - x6208.toInt ∧ HI g_ ∧ Fr F_X11_tells_231 A_X11_tells_231 g0 g_ ∧ gI g_ 231 27 = v5394 ∧ en_get 0 l_ = some (.ref 231) ∧ en_get 1 l_ = some (.int a1) ∧ en_get 2 l_ = some (.int a2) ∧ en_get 3 l_ = some (.int a3) ∧ en_get 4 l_ = some (.int a4) ∧ en_get 5 l_ = some (.int a5) ∧ en_get 6 l_ = some (.long a6) ∧ en_get 8 l_ = some (.int v5400) ∧ en_get 9 l_ = some (.long x6207) ∧ en_get 11 l_ = some (.int x6208) ∧ (0 ≤ x6208.toInt ∧ x6208.toInt ≤ 12)) ?_ (12 - 0) ⟨a6, 0, by first | rfl | omega, hI5440, hF5441, ((gI_sX).trans ((gI_sX).trans ((gI_sX).trans ((gI_sX).trans ((gI_sX).trans ((gI_sX).trans ((gI_sX).trans ((gI_sX).trans ((gI_sX).trans (gI_sI_eq hI0.1 kx_231 rfl _)))))))))), rfl, rfl, rfl, rfl, rfl, rfl, rfl, rfl, rfl, rfl, by decide⟩
      rintro n6213 l6212 g6209 ⟨x6207, x6208, hm6228, hI6210, hF6211, e6215, e6216, e6217, e6218, e6219, e6220, e6221, e6222, e6223, e6224, e6225, r6226⟩ ih6214
      have tv6229 := congrArg Int32.toInt e6215
      refine At.enter rfl ?_
      refine r_iload e6225 ?_
      refine r_aload_n e6216 ?_
      refine q_getR (Sh.ref hI6210.1 kx_231 rfl) ?_
      refine r_aload_n e6216 ?_
      refine q_getI (Sh.int hI6210.1 kx_231 rfl) v5394 e6215 ?_
      refine r_iconst 1 rfl ?_
      refine q_iadd (v5394.toInt + 1) rfl (by omega) (fun v6230 hv6230 => ?_)
      obtain ⟨v6231, hv6231⟩ : ∃ v, eA g0 233 (900 * v5391.toInt + 111) = v := ⟨_, rfl⟩
      have wv6231 := HI.lawn hI0 (j := v5391.toInt) (i := (900 * v5391.toInt + 111)) ⟨by omega, by omega⟩ (by omega)
      rw [hv6231] at wv6231
      refine q_iald (Sh.arr hI6210.1 ka_233) (900 * v5391.toInt + 111) (by omega) (by omega) v6231 ((eA_c (hF6211.2.1 233 (by decide))).trans hv6231) ?_
      have bv6233 := q_bnd x6208
      have bv6234 := q_bnd v6231
      refine r_ics 175 rfl (fun c6232 => ?_) (fun c6232 => ?_)
      · have c6232_ : x6208.toInt ≥ v6231.toInt := en_i_ge_t c6232
        refine At.enter rfl ?_
        refine r_lload e6224 ?_
        refine r_lret ?_
        exact ⟨_, rfl, hI6210, hF6211, _, rfl, trivial⟩
      · have c6232_ : x6208.toInt < v6231.toInt := en_i_ge_f c6232
        refine At.enter rfl ?_
        refine r_aload_n e6216 ?_
        refine q_getI (Sh.int hI6210.1 kx_231 rfl) v5394 e6215 ?_
        refine r_iconst 2 rfl ?_
        refine q_iadd (v5394.toInt + 2) rfl (by omega) (fun v6235 hv6235 => ?_)
        refine r_bipush 8 rfl ?_
        refine r_iload e6225 ?_
        refine q_imul (8 * x6208.toInt) rfl (by omega) (fun v6236 hv6236 => ?_)
        refine q_iadd (v6235.toInt + v6236.toInt) rfl (by omega) (fun v6237 hv6237 => ?_)
        refine r_istore _ rfl ?_
        refine r_aload_n (w_p1 (by decide) (Or.inr rfl) e6216) ?_
        refine q_getR (Sh.ref hI6210.1 kx_231 rfl) ?_
        refine r_iload (w_e1 _ _ _) ?_
        obtain ⟨v6238, hv6238⟩ : ∃ v, eA g0 233 (900 * v5391.toInt + 8 * x6208.toInt + 112) = v := ⟨_, rfl⟩
        refine q_iald (Sh.arr hI6210.1 ka_233) (900 * v5391.toInt + 8 * x6208.toInt + 112) (by omega) (by omega) v6238 ((eA_c (hF6211.2.1 233 (by decide))).trans hv6238) ?_
        refine r_iload_n (w_p1 (by decide) (Or.inr rfl) e6217) ?_
        refine r_ics 200 rfl (fun c6239 => ?_) (fun c6239 => ?_)
        · have c6239_ : v6238.toInt ≠ a1.toInt := en_i_ne_t c6239
          refine At.enter rfl ?_
          refine q_iinc (w_p1 (by decide) (Or.inr rfl) e6225) (x6208.toInt + 1) rfl (by omega) (fun v6240 hv6240 => ?_)
          refine r_goto ?_
          exact ih6214 (12 - v6240.toInt) _ _ ⟨x6207, v6240, by first | rfl | omega, hI6210, hF6211, e6215, (w_p1 (by decide) (Or.inr rfl) (w_p1 (by decide) (Or.inr rfl) e6216)), (w_p1 (by decide) (Or.inr rfl) (w_p1 (by decide) (Or.inr rfl) e6217)), (w_p1 (by decide) (Or.inr rfl) (w_p1 (by decide) (Or.inr rfl) e6218)), (w_p1 (by decide) (Or.inr rfl) (w_p1 (by decide) (Or.inr rfl) e6219)), (w_p1 (by decide) (Or.inr rfl) (w_p1 (by decide) (Or.inr rfl) e6220)), (w_p1 (by decide) (Or.inr rfl) (w_p1 (by decide) (Or.inr rfl) e6221)), (w_p1 (by decide) (Or.inl (by decide)) (w_p1 (by decide) (Or.inl (by decide)) e6222)), (w_p1 (by decide) (Or.inr rfl) (w_p1 (by decide) (Or.inr rfl) e6223)), (w_p1 (by decide) (Or.inl (by decide)) (w_p1 (by decide) (Or.inl (by decide)) e6224)), (w_e1 _ _ _), by omega⟩ ⟨by omega, by omega⟩
        · have c6239_ : v6238.toInt = a1.toInt := en_i_ne_f c6239
          refine At.enter rfl ?_
          refine r_aload_n (w_p1 (by decide) (Or.inr rfl) e6216) ?_
          refine r_iload (w_e1 _ _ _) ?_
          refine q_inlV 206 rfl [.ref 231, .int v6237] [] (Nat.le_of_ble_eq_true rfl) rfl ?_
          refine Ev.mk rfl rfl ⟨Nat.le_of_ble_eq_true rfl, Or.inr (q_rc hI6210.1 kx_231 rfl)⟩ ?_
          show At _ none _ _ (0, [(0, .ref 231), (1, .int v6237)], [], (_, _)) _
          refine At.enter rfl ?_
          refine r_aload_n rfl ?_
          refine q_getR (Sh.ref hI6210.1 kx_231 rfl) ?_
          refine r_iload_n rfl ?_
          refine r_iconst 5 rfl ?_
          refine q_iadd (v6237.toInt + 5) rfl (by omega) (fun v6241 hv6241 => ?_)
          obtain ⟨v6242, hv6242⟩ : ∃ v, eA g0 233 (900 * v5391.toInt + 8 * x6208.toInt + 117) = v := ⟨_, rfl⟩
          refine q_iald (Sh.arr hI6210.1 ka_233) (900 * v5391.toInt + 8 * x6208.toInt + 117) (by omega) (by omega) v6242 ((eA_c (hF6211.2.1 233 (by decide))).trans hv6242) ?_
          refine r_aload_n rfl ?_
          refine q_getR (Sh.ref hI6210.1 kx_231 rfl) ?_
          refine r_iload_n rfl ?_
          refine r_bipush 6 rfl ?_
          refine q_iadd (v6237.toInt + 6) rfl (by omega) (fun v6243 hv6243 => ?_)
          obtain ⟨v6244, hv6244⟩ : ∃ v, eA g0 233 (900 * v5391.toInt + 8 * x6208.toInt + 118) = v := ⟨_, rfl⟩
          refine q_iald (Sh.arr hI6210.1 ka_233) (900 * v5391.toInt + 8 * x6208.toInt + 118) (by omega) (by omega) v6244 ((eA_c (hF6211.2.1 233 (by decide))).trans hv6244) ?_
          have bv6246 := q_bnd v6242
          have bv6247 := q_bnd v6244
          refine r_ics 20 rfl (fun c6245 => ?_) (fun c6245 => ?_)
          · have c6245_ : v6242.toInt ≥ v6244.toInt := en_i_ge_t c6245
            refine At.enter rfl ?_
            refine r_aload_n rfl ?_
            refine q_getR (Sh.ref hI6210.1 kx_231 rfl) ?_
            refine r_iload_n rfl ?_
            refine q_iald (Sh.arr hI6210.1 ka_233) (900 * v5391.toInt + 8 * x6208.toInt + 112) (by omega) (by omega) v6238 ((eA_c (hF6211.2.1 233 (by decide))).trans hv6238) ?_
            refine r_iconst 2 rfl ?_
            refine r_ics 69 rfl (fun c6248 => ?_) (fun c6248 => ?_)
            · have c6248_ : v6238.toInt ≥ 2 := en_i_ge_t c6248
              refine At.enter rfl ?_
              refine r_iconst 1 rfl ?_
              refine q_iretz (by decide) ?_
              refine At.enter rfl ?_
              refine r_iff 209 rfl (by decide) ?_
              refine At.enter rfl ?_
              refine r_iload_n (w_p1 (by decide) (Or.inr rfl) e6217) ?_
              refine r_iconst 2 rfl ?_
              refine r_ics 214 rfl (fun c6249 => ?_) (fun c6249 => ?_)
              · have c6249_ : a1.toInt ≥ 2 := en_i_ge_t c6249
                refine At.enter rfl ?_
                refine r_lconst 1 rfl ?_
                refine Ar.fall 222 rfl ?_
                refine At.enter rfl ?_
                refine r_lstore _ rfl ?_
                refine Ar.fall 224 rfl ?_
                refine At.enter rfl ?_
                refine q_iinc (w_p2 (by decide) (by decide) (Or.inr rfl) (w_p1 (by decide) (Or.inr rfl) e6225)) (x6208.toInt + 1) rfl (by omega) (fun v6250 hv6250 => ?_)
                refine r_goto ?_
                exact ih6214 (12 - v6250.toInt) _ _ ⟨1, v6250, by first | rfl | omega, hI6210, hF6211, e6215, (w_p1 (by decide) (Or.inr rfl) (w_p2 (by decide) (by decide) (Or.inr rfl) (w_p1 (by decide) (Or.inr rfl) e6216))), (w_p1 (by decide) (Or.inr rfl) (w_p2 (by decide) (by decide) (Or.inr rfl) (w_p1 (by decide) (Or.inr rfl) e6217))), (w_p1 (by decide) (Or.inr rfl) (w_p2 (by decide) (by decide) (Or.inr rfl) (w_p1 (by decide) (Or.inr rfl) e6218))), (w_p1 (by decide) (Or.inr rfl) (w_p2 (by decide) (by decide) (Or.inr rfl) (w_p1 (by decide) (Or.inr rfl) e6219))), (w_p1 (by decide) (Or.inr rfl) (w_p2 (by decide) (by decide) (Or.inr rfl) (w_p1 (by decide) (Or.inr rfl) e6220))), (w_p1 (by decide) (Or.inr rfl) (w_p2 (by decide) (by decide) (Or.inr rfl) (w_p1 (by decide) (Or.inr rfl) e6221))), (w_p1 (by decide) (Or.inl (by decide)) (w_p2 (by decide) (by decide) (Or.inl (by decide)) (w_p1 (by decide) (Or.inl (by decide)) e6222))), (w_p1 (by decide) (Or.inr rfl) (w_p2 (by decide) (by decide) (Or.inr rfl) (w_p1 (by decide) (Or.inr rfl) e6223))), (w_p1 (by decide) (Or.inl (by decide)) (w_e2 _ _ _)), (w_e1 _ _ _), by omega⟩ ⟨by omega, by omega⟩
              · have c6249_ : a1.toInt < 2 := en_i_ge_f c6249
                refine At.enter rfl ?_
                refine r_aload_n (w_p1 (by decide) (Or.inr rfl) e6216) ?_
                refine q_getJ (Sh.long hI6210.1 kx_231 rfl) (fun v6251 => ?_)
                refine r_goto ?_
                refine At.enter rfl ?_
                refine r_lstore _ rfl ?_
                refine Ar.fall 224 rfl ?_
                refine At.enter rfl ?_
                refine q_iinc (w_p2 (by decide) (by decide) (Or.inr rfl) (w_p1 (by decide) (Or.inr rfl) e6225)) (x6208.toInt + 1) rfl (by omega) (fun v6252 hv6252 => ?_)
                refine r_goto ?_
                exact ih6214 (12 - v6252.toInt) _ _ ⟨v6251, v6252, by first | rfl | omega, hI6210, hF6211, e6215, (w_p1 (by decide) (Or.inr rfl) (w_p2 (by decide) (by decide) (Or.inr rfl) (w_p1 (by decide) (Or.inr rfl) e6216))), (w_p1 (by decide) (Or.inr rfl) (w_p2 (by decide) (by decide) (Or.inr rfl) (w_p1 (by decide) (Or.inr rfl) e6217))), (w_p1 (by decide) (Or.inr rfl) (w_p2 (by decide) (by decide) (Or.inr rfl) (w_p1 (by decide) (Or.inr rfl) e6218))), (w_p1 (by decide) (Or.inr rfl) (w_p2 (by decide) (by decide) (Or.inr rfl) (w_p1 (by decide) (Or.inr rfl) e6219))), (w_p1 (by decide) (Or.inr rfl) (w_p2 (by decide) (by decide) (Or.inr rfl) (w_p1 (by decide) (Or.inr rfl) e6220))), (w_p1 (by decide) (Or.inr rfl) (w_p2 (by decide) (by decide) (Or.inr rfl) (w_p1 (by decide) (Or.inr rfl) e6221))), (w_p1 (by decide) (Or.inl (by decide)) (w_p2 (by decide) (by decide) (Or.inl (by decide)) (w_p1 (by decide) (Or.inl (by decide)) e6222))), (w_p1 (by decide) (Or.inr rfl) (w_p2 (by decide) (by decide) (Or.inr rfl) (w_p1 (by decide) (Or.inr rfl) e6223))), (w_p1 (by decide) (Or.inl (by decide)) (w_e2 _ _ _)), (w_e1 _ _ _), by omega⟩ ⟨by omega, by omega⟩
            · have c6248_ : v6238.toInt < 2 := en_i_ge_f c6248
              refine At.enter rfl ?_
              refine r_aload_n rfl ?_
              refine r_aload_n rfl ?_
              refine q_getR (Sh.ref hI6210.1 kx_231 rfl) ?_
              refine r_iload_n rfl ?_
              refine r_iconst 3 rfl ?_
              refine q_iadd (v6237.toInt + 3) rfl (by omega) (fun v6253 hv6253 => ?_)
              obtain ⟨v6254, hv6254⟩ : ∃ v, eA g0 233 (900 * v5391.toInt + 8 * x6208.toInt + 115) = v := ⟨_, rfl⟩
              refine q_iald (Sh.arr hI6210.1 ka_233) (900 * v5391.toInt + 8 * x6208.toInt + 115) (by omega) (by omega) v6254 ((eA_c (hF6211.2.1 233 (by decide))).trans hv6254) ?_
              refine r_aload_n rfl ?_
              refine q_getR (Sh.ref hI6210.1 kx_231 rfl) ?_
              refine r_iload_n rfl ?_
              refine r_iconst 4 rfl ?_
              refine q_iadd (v6237.toInt + 4) rfl (by omega) (fun v6255 hv6255 => ?_)
              obtain ⟨v6256, hv6256⟩ : ∃ v, eA g0 233 (900 * v5391.toInt + 8 * x6208.toInt + 116) = v := ⟨_, rfl⟩
              refine q_iald (Sh.arr hI6210.1 ka_233) (900 * v5391.toInt + 8 * x6208.toInt + 116) (by omega) (by omega) v6256 ((eA_c (hF6211.2.1 233 (by decide))).trans hv6256) ?_
              refine r_callV 89 rfl [.ref 231, .int v6254, .int v6256] [] (Nat.le_of_ble_eq_true rfl) rfl (T_X11_reckonAll_231 _ hI6210 v6254 v6256 (HI.code hI0 (j := v5391.toInt) (c := x6208.toInt) ⟨by omega, by omega⟩ (hF6211.2.1 233 (by decide)) (by rw [e6215]; omega) (i := (900 * v5391.toInt + 111)) (by omega) (congrArg Int32.toInt hv6231) ⟨by omega, by omega⟩ (i3 := (900 * v5391.toInt + 8 * x6208.toInt + 115)) (i4 := (900 * v5391.toInt + 8 * x6208.toInt + 116)) 3 (by decide) (by omega) (by omega) (congrArg Int32.toInt hv6254) (congrArg Int32.toInt hv6256))) ?_
              rintro _ _ ⟨g6257, rfl, hI6258, hF6259, rfl⟩
              refine At.stn ?_
              have hF6262 := Fr.tr hF6211 hF6259 rfl rfl
              refine At.enter rfl ?_
              refine r_aload_n rfl ?_
              refine r_aload_n rfl ?_
              refine q_getJ (Sh.long hI6258.1 kx_231 rfl) (fun v6263 => ?_)
              refine q_putJ (Sh.long hI6258.1 kx_231 rfl) rfl ?_
              have hI6264 := HI.wJ hI6258 kx_231 rfl (p := 231) (b := 32) (v := v6263)
              have hF6265 := Fr.wJ (p := 231) (b := 32) (v := v6263) hF6262 rfl
              refine r_aload_n rfl ?_
              obtain ⟨v6266, hv6266⟩ : ∃ v, gI g6257 231 30 = v := ⟨_, rfl⟩
              refine q_getI (Sh.int hI6264.1 kx_231 rfl) v6266 ((gI_sJ_ne (by decide)).trans hv6266) ?_
              refine r_ifs 104 rfl (fun c6267 => ?_) (fun c6267 => ?_)
              · have c6267_ : v6266.toInt ≠ 0 := en_k_ne_t c6267
                refine At.enter rfl ?_
                refine r_iconst 0 rfl ?_
                refine Ar.fall 109 rfl ?_
                refine At.enter rfl ?_
                refine q_iretz (by decide) ?_
                refine At.enter rfl ?_
                refine r_ift (by decide) ?_
                refine At.enter rfl ?_
                refine q_iinc (w_p1 (by decide) (Or.inr rfl) e6225) (x6208.toInt + 1) rfl (by omega) (fun v6268 hv6268 => ?_)
                refine r_goto ?_
                exact ih6214 (12 - v6268.toInt) _ _ ⟨x6207, v6268, by first | rfl | omega, hI6264, hF6265, (((gI_sJ_ne (by decide)).trans (hF6259.1 231 27 (by decide))).trans e6215), (w_p1 (by decide) (Or.inr rfl) (w_p1 (by decide) (Or.inr rfl) e6216)), (w_p1 (by decide) (Or.inr rfl) (w_p1 (by decide) (Or.inr rfl) e6217)), (w_p1 (by decide) (Or.inr rfl) (w_p1 (by decide) (Or.inr rfl) e6218)), (w_p1 (by decide) (Or.inr rfl) (w_p1 (by decide) (Or.inr rfl) e6219)), (w_p1 (by decide) (Or.inr rfl) (w_p1 (by decide) (Or.inr rfl) e6220)), (w_p1 (by decide) (Or.inr rfl) (w_p1 (by decide) (Or.inr rfl) e6221)), (w_p1 (by decide) (Or.inl (by decide)) (w_p1 (by decide) (Or.inl (by decide)) e6222)), (w_p1 (by decide) (Or.inr rfl) (w_p1 (by decide) (Or.inr rfl) e6223)), (w_p1 (by decide) (Or.inl (by decide)) (w_p1 (by decide) (Or.inl (by decide)) e6224)), (w_e1 _ _ _), by omega⟩ ⟨by omega, by omega⟩
              · have c6267_ : v6266.toInt = 0 := en_k_ne_f c6267
                refine At.enter rfl ?_
                refine r_iconst 1 rfl ?_
                refine r_goto ?_
                refine At.enter rfl ?_
                refine q_iretz (by decide) ?_
                refine At.enter rfl ?_
                refine r_iff 209 rfl (by decide) ?_
                refine At.enter rfl ?_
                refine r_iload_n (w_p1 (by decide) (Or.inr rfl) e6217) ?_
                refine r_iconst 2 rfl ?_
                refine r_ics 214 rfl (fun c6269 => ?_) (fun c6269 => ?_)
                · have c6269_ : a1.toInt ≥ 2 := en_i_ge_t c6269
                  refine At.enter rfl ?_
                  refine r_lconst 1 rfl ?_
                  refine Ar.fall 222 rfl ?_
                  refine At.enter rfl ?_
                  refine r_lstore _ rfl ?_
                  refine Ar.fall 224 rfl ?_
                  refine At.enter rfl ?_
                  refine q_iinc (w_p2 (by decide) (by decide) (Or.inr rfl) (w_p1 (by decide) (Or.inr rfl) e6225)) (x6208.toInt + 1) rfl (by omega) (fun v6270 hv6270 => ?_)
                  refine r_goto ?_
                  exact ih6214 (12 - v6270.toInt) _ _ ⟨1, v6270, by first | rfl | omega, hI6264, hF6265, (((gI_sJ_ne (by decide)).trans (hF6259.1 231 27 (by decide))).trans e6215), (w_p1 (by decide) (Or.inr rfl) (w_p2 (by decide) (by decide) (Or.inr rfl) (w_p1 (by decide) (Or.inr rfl) e6216))), (w_p1 (by decide) (Or.inr rfl) (w_p2 (by decide) (by decide) (Or.inr rfl) (w_p1 (by decide) (Or.inr rfl) e6217))), (w_p1 (by decide) (Or.inr rfl) (w_p2 (by decide) (by decide) (Or.inr rfl) (w_p1 (by decide) (Or.inr rfl) e6218))), (w_p1 (by decide) (Or.inr rfl) (w_p2 (by decide) (by decide) (Or.inr rfl) (w_p1 (by decide) (Or.inr rfl) e6219))), (w_p1 (by decide) (Or.inr rfl) (w_p2 (by decide) (by decide) (Or.inr rfl) (w_p1 (by decide) (Or.inr rfl) e6220))), (w_p1 (by decide) (Or.inr rfl) (w_p2 (by decide) (by decide) (Or.inr rfl) (w_p1 (by decide) (Or.inr rfl) e6221))), (w_p1 (by decide) (Or.inl (by decide)) (w_p2 (by decide) (by decide) (Or.inl (by decide)) (w_p1 (by decide) (Or.inl (by decide)) e6222))), (w_p1 (by decide) (Or.inr rfl) (w_p2 (by decide) (by decide) (Or.inr rfl) (w_p1 (by decide) (Or.inr rfl) e6223))), (w_p1 (by decide) (Or.inl (by decide)) (w_e2 _ _ _)), (w_e1 _ _ _), by omega⟩ ⟨by omega, by omega⟩
                · have c6269_ : a1.toInt < 2 := en_i_ge_f c6269
                  refine At.enter rfl ?_
                  refine r_aload_n (w_p1 (by decide) (Or.inr rfl) e6216) ?_
                  refine q_getJ (Sh.long hI6264.1 kx_231 rfl) (fun v6271 => ?_)
                  refine r_goto ?_
                  refine At.enter rfl ?_
                  refine r_lstore _ rfl ?_
                  refine Ar.fall 224 rfl ?_
                  refine At.enter rfl ?_
                  refine q_iinc (w_p2 (by decide) (by decide) (Or.inr rfl) (w_p1 (by decide) (Or.inr rfl) e6225)) (x6208.toInt + 1) rfl (by omega) (fun v6272 hv6272 => ?_)
                  refine r_goto ?_
                  exact ih6214 (12 - v6272.toInt) _ _ ⟨v6271, v6272, by first | rfl | omega, hI6264, hF6265, (((gI_sJ_ne (by decide)).trans (hF6259.1 231 27 (by decide))).trans e6215), (w_p1 (by decide) (Or.inr rfl) (w_p2 (by decide) (by decide) (Or.inr rfl) (w_p1 (by decide) (Or.inr rfl) e6216))), (w_p1 (by decide) (Or.inr rfl) (w_p2 (by decide) (by decide) (Or.inr rfl) (w_p1 (by decide) (Or.inr rfl) e6217))), (w_p1 (by decide) (Or.inr rfl) (w_p2 (by decide) (by decide) (Or.inr rfl) (w_p1 (by decide) (Or.inr rfl) e6218))), (w_p1 (by decide) (Or.inr rfl) (w_p2 (by decide) (by decide) (Or.inr rfl) (w_p1 (by decide) (Or.inr rfl) e6219))), (w_p1 (by decide) (Or.inr rfl) (w_p2 (by decide) (by decide) (Or.inr rfl) (w_p1 (by decide) (Or.inr rfl) e6220))), (w_p1 (by decide) (Or.inr rfl) (w_p2 (by decide) (by decide) (Or.inr rfl) (w_p1 (by decide) (Or.inr rfl) e6221))), (w_p1 (by decide) (Or.inl (by decide)) (w_p2 (by decide) (by decide) (Or.inl (by decide)) (w_p1 (by decide) (Or.inl (by decide)) e6222))), (w_p1 (by decide) (Or.inr rfl) (w_p2 (by decide) (by decide) (Or.inr rfl) (w_p1 (by decide) (Or.inr rfl) e6223))), (w_p1 (by decide) (Or.inl (by decide)) (w_e2 _ _ _)), (w_e1 _ _ _), by omega⟩ ⟨by omega, by omega⟩
          · have c6245_ : v6242.toInt < v6244.toInt := en_i_ge_f c6245
            refine At.enter rfl ?_
            refine r_aload_n rfl ?_
            refine r_aload_n rfl ?_
            refine q_getR (Sh.ref hI6210.1 kx_231 rfl) ?_
            refine r_iload_n rfl ?_
            refine r_iconst 5 rfl ?_
            refine q_iadd (v6237.toInt + 5) rfl (by omega) (fun v6273 hv6273 => ?_)
            refine q_iald (Sh.arr hI6210.1 ka_233) (900 * v5391.toInt + 8 * x6208.toInt + 117) (by omega) (by omega) v6242 ((eA_c (hF6211.2.1 233 (by decide))).trans hv6242) ?_
            refine r_aload_n rfl ?_
            refine q_getR (Sh.ref hI6210.1 kx_231 rfl) ?_
            refine r_iload_n rfl ?_
            refine r_bipush 6 rfl ?_
            refine q_iadd (v6237.toInt + 6) rfl (by omega) (fun v6274 hv6274 => ?_)
            refine q_iald (Sh.arr hI6210.1 ka_233) (900 * v5391.toInt + 8 * x6208.toInt + 118) (by omega) (by omega) v6244 ((eA_c (hF6211.2.1 233 (by decide))).trans hv6244) ?_
            refine r_callV 41 rfl [.ref 231, .int v6242, .int v6244] [] (Nat.le_of_ble_eq_true rfl) rfl (T_X11_reckonAll_231 _ hI6210 v6242 v6244 (HI.code hI0 (j := v5391.toInt) (c := x6208.toInt) ⟨by omega, by omega⟩ (hF6211.2.1 233 (by decide)) (by rw [e6215]; omega) (i := (900 * v5391.toInt + 111)) (by omega) (congrArg Int32.toInt hv6231) ⟨by omega, by omega⟩ (i3 := (900 * v5391.toInt + 8 * x6208.toInt + 117)) (i4 := (900 * v5391.toInt + 8 * x6208.toInt + 118)) 5 (by decide) (by omega) (by omega) (congrArg Int32.toInt hv6242) (congrArg Int32.toInt hv6244))) ?_
            rintro _ _ ⟨g6275, rfl, hI6276, hF6277, rfl⟩
            refine At.stn ?_
            have hF6280 := Fr.tr hF6211 hF6277 rfl rfl
            refine At.enter rfl ?_
            refine r_aload_n rfl ?_
            obtain ⟨v6281, hv6281⟩ : ∃ v, gI g6275 231 30 = v := ⟨_, rfl⟩
            refine q_getI (Sh.int hI6276.1 kx_231 rfl) v6281 hv6281 ?_
            refine r_ifs 48 rfl (fun c6282 => ?_) (fun c6282 => ?_)
            · have c6282_ : v6281.toInt ≠ 0 := en_k_ne_t c6282
              refine At.enter rfl ?_
              refine r_iconst 0 rfl ?_
              refine q_iretz (by decide) ?_
              refine At.enter rfl ?_
              refine r_ift (by decide) ?_
              refine At.enter rfl ?_
              refine q_iinc (w_p1 (by decide) (Or.inr rfl) e6225) (x6208.toInt + 1) rfl (by omega) (fun v6283 hv6283 => ?_)
              refine r_goto ?_
              exact ih6214 (12 - v6283.toInt) _ _ ⟨x6207, v6283, by first | rfl | omega, hI6276, hF6280, ((hF6277.1 231 27 (by decide)).trans e6215), (w_p1 (by decide) (Or.inr rfl) (w_p1 (by decide) (Or.inr rfl) e6216)), (w_p1 (by decide) (Or.inr rfl) (w_p1 (by decide) (Or.inr rfl) e6217)), (w_p1 (by decide) (Or.inr rfl) (w_p1 (by decide) (Or.inr rfl) e6218)), (w_p1 (by decide) (Or.inr rfl) (w_p1 (by decide) (Or.inr rfl) e6219)), (w_p1 (by decide) (Or.inr rfl) (w_p1 (by decide) (Or.inr rfl) e6220)), (w_p1 (by decide) (Or.inr rfl) (w_p1 (by decide) (Or.inr rfl) e6221)), (w_p1 (by decide) (Or.inl (by decide)) (w_p1 (by decide) (Or.inl (by decide)) e6222)), (w_p1 (by decide) (Or.inr rfl) (w_p1 (by decide) (Or.inr rfl) e6223)), (w_p1 (by decide) (Or.inl (by decide)) (w_p1 (by decide) (Or.inl (by decide)) e6224)), (w_e1 _ _ _), by omega⟩ ⟨by omega, by omega⟩
            · have c6282_ : v6281.toInt = 0 := en_k_ne_f c6282
              refine At.enter rfl ?_
              refine r_aload_n rfl ?_
              refine q_getJ (Sh.long hI6276.1 kx_231 rfl) (fun v6284 => ?_)
              refine r_lconst 0 rfl ?_
              refine r_lcmp _ rfl ?_
              refine r_ifs 57 rfl (fun c6285 => ?_) (fun c6285 => ?_)
              · have c6285_ : v6284.toInt ≠ 0 := en_j_ne_t c6285
                refine At.enter rfl ?_
                refine r_aload_n rfl ?_
                refine q_getR (Sh.ref hI6276.1 kx_231 rfl) ?_
                refine r_iload_n rfl ?_
                refine q_iald (Sh.arr hI6276.1 ka_233) (900 * v5391.toInt + 8 * x6208.toInt + 112) (by omega) (by omega) v6238 ((eA_c ((hF6277.2.1 233 (by decide)).trans (hF6211.2.1 233 (by decide)))).trans hv6238) ?_
                refine r_iconst 2 rfl ?_
                refine r_ics 69 rfl (fun c6286 => ?_) (fun c6286 => ?_)
                · have c6286_ : v6238.toInt ≥ 2 := en_i_ge_t c6286
                  refine At.enter rfl ?_
                  refine r_iconst 1 rfl ?_
                  refine q_iretz (by decide) ?_
                  refine At.enter rfl ?_
                  refine r_iff 209 rfl (by decide) ?_
                  refine At.enter rfl ?_
                  refine r_iload_n (w_p1 (by decide) (Or.inr rfl) e6217) ?_
                  refine r_iconst 2 rfl ?_
                  refine r_ics 214 rfl (fun c6287 => ?_) (fun c6287 => ?_)
                  · have c6287_ : a1.toInt ≥ 2 := en_i_ge_t c6287
                    refine At.enter rfl ?_
                    refine r_lconst 1 rfl ?_
                    refine Ar.fall 222 rfl ?_
                    refine At.enter rfl ?_
                    refine r_lstore _ rfl ?_
                    refine Ar.fall 224 rfl ?_
                    refine At.enter rfl ?_
                    refine q_iinc (w_p2 (by decide) (by decide) (Or.inr rfl) (w_p1 (by decide) (Or.inr rfl) e6225)) (x6208.toInt + 1) rfl (by omega) (fun v6288 hv6288 => ?_)
                    refine r_goto ?_
                    exact ih6214 (12 - v6288.toInt) _ _ ⟨1, v6288, by first | rfl | omega, hI6276, hF6280, ((hF6277.1 231 27 (by decide)).trans e6215), (w_p1 (by decide) (Or.inr rfl) (w_p2 (by decide) (by decide) (Or.inr rfl) (w_p1 (by decide) (Or.inr rfl) e6216))), (w_p1 (by decide) (Or.inr rfl) (w_p2 (by decide) (by decide) (Or.inr rfl) (w_p1 (by decide) (Or.inr rfl) e6217))), (w_p1 (by decide) (Or.inr rfl) (w_p2 (by decide) (by decide) (Or.inr rfl) (w_p1 (by decide) (Or.inr rfl) e6218))), (w_p1 (by decide) (Or.inr rfl) (w_p2 (by decide) (by decide) (Or.inr rfl) (w_p1 (by decide) (Or.inr rfl) e6219))), (w_p1 (by decide) (Or.inr rfl) (w_p2 (by decide) (by decide) (Or.inr rfl) (w_p1 (by decide) (Or.inr rfl) e6220))), (w_p1 (by decide) (Or.inr rfl) (w_p2 (by decide) (by decide) (Or.inr rfl) (w_p1 (by decide) (Or.inr rfl) e6221))), (w_p1 (by decide) (Or.inl (by decide)) (w_p2 (by decide) (by decide) (Or.inl (by decide)) (w_p1 (by decide) (Or.inl (by decide)) e6222))), (w_p1 (by decide) (Or.inr rfl) (w_p2 (by decide) (by decide) (Or.inr rfl) (w_p1 (by decide) (Or.inr rfl) e6223))), (w_p1 (by decide) (Or.inl (by decide)) (w_e2 _ _ _)), (w_e1 _ _ _), by omega⟩ ⟨by omega, by omega⟩
                  · have c6287_ : a1.toInt < 2 := en_i_ge_f c6287
                    refine At.enter rfl ?_
                    refine r_aload_n (w_p1 (by decide) (Or.inr rfl) e6216) ?_
                    refine q_getJ (Sh.long hI6276.1 kx_231 rfl) (fun v6289 => ?_)
                    refine r_goto ?_
                    refine At.enter rfl ?_
                    refine r_lstore _ rfl ?_
                    refine Ar.fall 224 rfl ?_
                    refine At.enter rfl ?_
                    refine q_iinc (w_p2 (by decide) (by decide) (Or.inr rfl) (w_p1 (by decide) (Or.inr rfl) e6225)) (x6208.toInt + 1) rfl (by omega) (fun v6290 hv6290 => ?_)
                    refine r_goto ?_
                    exact ih6214 (12 - v6290.toInt) _ _ ⟨v6289, v6290, by first | rfl | omega, hI6276, hF6280, ((hF6277.1 231 27 (by decide)).trans e6215), (w_p1 (by decide) (Or.inr rfl) (w_p2 (by decide) (by decide) (Or.inr rfl) (w_p1 (by decide) (Or.inr rfl) e6216))), (w_p1 (by decide) (Or.inr rfl) (w_p2 (by decide) (by decide) (Or.inr rfl) (w_p1 (by decide) (Or.inr rfl) e6217))), (w_p1 (by decide) (Or.inr rfl) (w_p2 (by decide) (by decide) (Or.inr rfl) (w_p1 (by decide) (Or.inr rfl) e6218))), (w_p1 (by decide) (Or.inr rfl) (w_p2 (by decide) (by decide) (Or.inr rfl) (w_p1 (by decide) (Or.inr rfl) e6219))), (w_p1 (by decide) (Or.inr rfl) (w_p2 (by decide) (by decide) (Or.inr rfl) (w_p1 (by decide) (Or.inr rfl) e6220))), (w_p1 (by decide) (Or.inr rfl) (w_p2 (by decide) (by decide) (Or.inr rfl) (w_p1 (by decide) (Or.inr rfl) e6221))), (w_p1 (by decide) (Or.inl (by decide)) (w_p2 (by decide) (by decide) (Or.inl (by decide)) (w_p1 (by decide) (Or.inl (by decide)) e6222))), (w_p1 (by decide) (Or.inr rfl) (w_p2 (by decide) (by decide) (Or.inr rfl) (w_p1 (by decide) (Or.inr rfl) e6223))), (w_p1 (by decide) (Or.inl (by decide)) (w_e2 _ _ _)), (w_e1 _ _ _), by omega⟩ ⟨by omega, by omega⟩
                · have c6286_ : v6238.toInt < 2 := en_i_ge_f c6286
                  refine At.enter rfl ?_
                  refine r_aload_n rfl ?_
                  refine r_aload_n rfl ?_
                  refine q_getR (Sh.ref hI6276.1 kx_231 rfl) ?_
                  refine r_iload_n rfl ?_
                  refine r_iconst 3 rfl ?_
                  refine q_iadd (v6237.toInt + 3) rfl (by omega) (fun v6291 hv6291 => ?_)
                  obtain ⟨v6292, hv6292⟩ : ∃ v, eA g0 233 (900 * v5391.toInt + 8 * x6208.toInt + 115) = v := ⟨_, rfl⟩
                  refine q_iald (Sh.arr hI6276.1 ka_233) (900 * v5391.toInt + 8 * x6208.toInt + 115) (by omega) (by omega) v6292 ((eA_c ((hF6277.2.1 233 (by decide)).trans (hF6211.2.1 233 (by decide)))).trans hv6292) ?_
                  refine r_aload_n rfl ?_
                  refine q_getR (Sh.ref hI6276.1 kx_231 rfl) ?_
                  refine r_iload_n rfl ?_
                  refine r_iconst 4 rfl ?_
                  refine q_iadd (v6237.toInt + 4) rfl (by omega) (fun v6293 hv6293 => ?_)
                  obtain ⟨v6294, hv6294⟩ : ∃ v, eA g0 233 (900 * v5391.toInt + 8 * x6208.toInt + 116) = v := ⟨_, rfl⟩
                  refine q_iald (Sh.arr hI6276.1 ka_233) (900 * v5391.toInt + 8 * x6208.toInt + 116) (by omega) (by omega) v6294 ((eA_c ((hF6277.2.1 233 (by decide)).trans (hF6211.2.1 233 (by decide)))).trans hv6294) ?_
                  refine r_callV 89 rfl [.ref 231, .int v6292, .int v6294] [] (Nat.le_of_ble_eq_true rfl) rfl (T_X11_reckonAll_231 _ hI6276 v6292 v6294 (HI.code hI0 (j := v5391.toInt) (c := x6208.toInt) ⟨by omega, by omega⟩ ((hF6277.2.1 233 (by decide)).trans (hF6211.2.1 233 (by decide))) (by rw [((hF6277.1 231 27 (by decide)).trans e6215)]; omega) (i := (900 * v5391.toInt + 111)) (by omega) (congrArg Int32.toInt hv6231) ⟨by omega, by omega⟩ (i3 := (900 * v5391.toInt + 8 * x6208.toInt + 115)) (i4 := (900 * v5391.toInt + 8 * x6208.toInt + 116)) 3 (by decide) (by omega) (by omega) (congrArg Int32.toInt hv6292) (congrArg Int32.toInt hv6294))) ?_
                  rintro _ _ ⟨g6295, rfl, hI6296, hF6297, rfl⟩
                  refine At.stn ?_
                  have hF6300 := Fr.tr hF6280 hF6297 rfl rfl
                  refine At.enter rfl ?_
                  refine r_aload_n rfl ?_
                  refine r_aload_n rfl ?_
                  refine q_getJ (Sh.long hI6296.1 kx_231 rfl) (fun v6301 => ?_)
                  refine q_putJ (Sh.long hI6296.1 kx_231 rfl) rfl ?_
                  have hI6302 := HI.wJ hI6296 kx_231 rfl (p := 231) (b := 32) (v := v6301)
                  have hF6303 := Fr.wJ (p := 231) (b := 32) (v := v6301) hF6300 rfl
                  refine r_aload_n rfl ?_
                  obtain ⟨v6304, hv6304⟩ : ∃ v, gI g6295 231 30 = v := ⟨_, rfl⟩
                  refine q_getI (Sh.int hI6302.1 kx_231 rfl) v6304 ((gI_sJ_ne (by decide)).trans hv6304) ?_
                  refine r_ifs 104 rfl (fun c6305 => ?_) (fun c6305 => ?_)
                  · have c6305_ : v6304.toInt ≠ 0 := en_k_ne_t c6305
                    refine At.enter rfl ?_
                    refine r_iconst 0 rfl ?_
                    refine Ar.fall 109 rfl ?_
                    refine At.enter rfl ?_
                    refine q_iretz (by decide) ?_
                    refine At.enter rfl ?_
                    refine r_ift (by decide) ?_
                    refine At.enter rfl ?_
                    refine q_iinc (w_p1 (by decide) (Or.inr rfl) e6225) (x6208.toInt + 1) rfl (by omega) (fun v6306 hv6306 => ?_)
                    refine r_goto ?_
                    exact ih6214 (12 - v6306.toInt) _ _ ⟨x6207, v6306, by first | rfl | omega, hI6302, hF6303, (((gI_sJ_ne (by decide)).trans ((hF6297.1 231 27 (by decide)).trans (hF6277.1 231 27 (by decide)))).trans e6215), (w_p1 (by decide) (Or.inr rfl) (w_p1 (by decide) (Or.inr rfl) e6216)), (w_p1 (by decide) (Or.inr rfl) (w_p1 (by decide) (Or.inr rfl) e6217)), (w_p1 (by decide) (Or.inr rfl) (w_p1 (by decide) (Or.inr rfl) e6218)), (w_p1 (by decide) (Or.inr rfl) (w_p1 (by decide) (Or.inr rfl) e6219)), (w_p1 (by decide) (Or.inr rfl) (w_p1 (by decide) (Or.inr rfl) e6220)), (w_p1 (by decide) (Or.inr rfl) (w_p1 (by decide) (Or.inr rfl) e6221)), (w_p1 (by decide) (Or.inl (by decide)) (w_p1 (by decide) (Or.inl (by decide)) e6222)), (w_p1 (by decide) (Or.inr rfl) (w_p1 (by decide) (Or.inr rfl) e6223)), (w_p1 (by decide) (Or.inl (by decide)) (w_p1 (by decide) (Or.inl (by decide)) e6224)), (w_e1 _ _ _), by omega⟩ ⟨by omega, by omega⟩
                  · have c6305_ : v6304.toInt = 0 := en_k_ne_f c6305
                    refine At.enter rfl ?_
                    refine r_iconst 1 rfl ?_
                    refine r_goto ?_
                    refine At.enter rfl ?_
                    refine q_iretz (by decide) ?_
                    refine At.enter rfl ?_
                    refine r_iff 209 rfl (by decide) ?_
                    refine At.enter rfl ?_
                    refine r_iload_n (w_p1 (by decide) (Or.inr rfl) e6217) ?_
                    refine r_iconst 2 rfl ?_
                    refine r_ics 214 rfl (fun c6307 => ?_) (fun c6307 => ?_)
                    · have c6307_ : a1.toInt ≥ 2 := en_i_ge_t c6307
                      refine At.enter rfl ?_
                      refine r_lconst 1 rfl ?_
                      refine Ar.fall 222 rfl ?_
                      refine At.enter rfl ?_
                      refine r_lstore _ rfl ?_
                      refine Ar.fall 224 rfl ?_
                      refine At.enter rfl ?_
                      refine q_iinc (w_p2 (by decide) (by decide) (Or.inr rfl) (w_p1 (by decide) (Or.inr rfl) e6225)) (x6208.toInt + 1) rfl (by omega) (fun v6308 hv6308 => ?_)
                      refine r_goto ?_
                      exact ih6214 (12 - v6308.toInt) _ _ ⟨1, v6308, by first | rfl | omega, hI6302, hF6303, (((gI_sJ_ne (by decide)).trans ((hF6297.1 231 27 (by decide)).trans (hF6277.1 231 27 (by decide)))).trans e6215), (w_p1 (by decide) (Or.inr rfl) (w_p2 (by decide) (by decide) (Or.inr rfl) (w_p1 (by decide) (Or.inr rfl) e6216))), (w_p1 (by decide) (Or.inr rfl) (w_p2 (by decide) (by decide) (Or.inr rfl) (w_p1 (by decide) (Or.inr rfl) e6217))), (w_p1 (by decide) (Or.inr rfl) (w_p2 (by decide) (by decide) (Or.inr rfl) (w_p1 (by decide) (Or.inr rfl) e6218))), (w_p1 (by decide) (Or.inr rfl) (w_p2 (by decide) (by decide) (Or.inr rfl) (w_p1 (by decide) (Or.inr rfl) e6219))), (w_p1 (by decide) (Or.inr rfl) (w_p2 (by decide) (by decide) (Or.inr rfl) (w_p1 (by decide) (Or.inr rfl) e6220))), (w_p1 (by decide) (Or.inr rfl) (w_p2 (by decide) (by decide) (Or.inr rfl) (w_p1 (by decide) (Or.inr rfl) e6221))), (w_p1 (by decide) (Or.inl (by decide)) (w_p2 (by decide) (by decide) (Or.inl (by decide)) (w_p1 (by decide) (Or.inl (by decide)) e6222))), (w_p1 (by decide) (Or.inr rfl) (w_p2 (by decide) (by decide) (Or.inr rfl) (w_p1 (by decide) (Or.inr rfl) e6223))), (w_p1 (by decide) (Or.inl (by decide)) (w_e2 _ _ _)), (w_e1 _ _ _), by omega⟩ ⟨by omega, by omega⟩
                    · have c6307_ : a1.toInt < 2 := en_i_ge_f c6307
                      refine At.enter rfl ?_
                      refine r_aload_n (w_p1 (by decide) (Or.inr rfl) e6216) ?_
                      refine q_getJ (Sh.long hI6302.1 kx_231 rfl) (fun v6309 => ?_)
                      refine r_goto ?_
                      refine At.enter rfl ?_
                      refine r_lstore _ rfl ?_
                      refine Ar.fall 224 rfl ?_
                      refine At.enter rfl ?_
                      refine q_iinc (w_p2 (by decide) (by decide) (Or.inr rfl) (w_p1 (by decide) (Or.inr rfl) e6225)) (x6208.toInt + 1) rfl (by omega) (fun v6310 hv6310 => ?_)
                      refine r_goto ?_
                      exact ih6214 (12 - v6310.toInt) _ _ ⟨v6309, v6310, by first | rfl | omega, hI6302, hF6303, (((gI_sJ_ne (by decide)).trans ((hF6297.1 231 27 (by decide)).trans (hF6277.1 231 27 (by decide)))).trans e6215), (w_p1 (by decide) (Or.inr rfl) (w_p2 (by decide) (by decide) (Or.inr rfl) (w_p1 (by decide) (Or.inr rfl) e6216))), (w_p1 (by decide) (Or.inr rfl) (w_p2 (by decide) (by decide) (Or.inr rfl) (w_p1 (by decide) (Or.inr rfl) e6217))), (w_p1 (by decide) (Or.inr rfl) (w_p2 (by decide) (by decide) (Or.inr rfl) (w_p1 (by decide) (Or.inr rfl) e6218))), (w_p1 (by decide) (Or.inr rfl) (w_p2 (by decide) (by decide) (Or.inr rfl) (w_p1 (by decide) (Or.inr rfl) e6219))), (w_p1 (by decide) (Or.inr rfl) (w_p2 (by decide) (by decide) (Or.inr rfl) (w_p1 (by decide) (Or.inr rfl) e6220))), (w_p1 (by decide) (Or.inr rfl) (w_p2 (by decide) (by decide) (Or.inr rfl) (w_p1 (by decide) (Or.inr rfl) e6221))), (w_p1 (by decide) (Or.inl (by decide)) (w_p2 (by decide) (by decide) (Or.inl (by decide)) (w_p1 (by decide) (Or.inl (by decide)) e6222))), (w_p1 (by decide) (Or.inr rfl) (w_p2 (by decide) (by decide) (Or.inr rfl) (w_p1 (by decide) (Or.inr rfl) e6223))), (w_p1 (by decide) (Or.inl (by decide)) (w_e2 _ _ _)), (w_e1 _ _ _), by omega⟩ ⟨by omega, by omega⟩
              · have c6285_ : v6284.toInt = 0 := en_j_ne_f c6285
                refine At.enter rfl ?_
                refine r_iconst 0 rfl ?_
                refine q_iretz (by decide) ?_
                refine At.enter rfl ?_
                refine r_ift (by decide) ?_
                refine At.enter rfl ?_
                refine q_iinc (w_p1 (by decide) (Or.inr rfl) e6225) (x6208.toInt + 1) rfl (by omega) (fun v6311 hv6311 => ?_)
                refine r_goto ?_
                exact ih6214 (12 - v6311.toInt) _ _ ⟨x6207, v6311, by first | rfl | omega, hI6276, hF6280, ((hF6277.1 231 27 (by decide)).trans e6215), (w_p1 (by decide) (Or.inr rfl) (w_p1 (by decide) (Or.inr rfl) e6216)), (w_p1 (by decide) (Or.inr rfl) (w_p1 (by decide) (Or.inr rfl) e6217)), (w_p1 (by decide) (Or.inr rfl) (w_p1 (by decide) (Or.inr rfl) e6218)), (w_p1 (by decide) (Or.inr rfl) (w_p1 (by decide) (Or.inr rfl) e6219)), (w_p1 (by decide) (Or.inr rfl) (w_p1 (by decide) (Or.inr rfl) e6220)), (w_p1 (by decide) (Or.inr rfl) (w_p1 (by decide) (Or.inr rfl) e6221)), (w_p1 (by decide) (Or.inl (by decide)) (w_p1 (by decide) (Or.inl (by decide)) e6222)), (w_p1 (by decide) (Or.inr rfl) (w_p1 (by decide) (Or.inr rfl) e6223)), (w_p1 (by decide) (Or.inl (by decide)) (w_p1 (by decide) (Or.inl (by decide)) e6224)), (w_e1 _ _ _), by omega⟩ ⟨by omega, by omega⟩
    · have c5425_ : v5421.toInt ≥ 0 := en_j_lt_f c5425
      refine At.enter rfl ?_
      refine r_lload_n rfl ?_
      refine r_lload rfl ?_
      refine r_lcmp _ rfl ?_
      refine r_ifs 13 rfl (fun c6312 => ?_) (fun c6312 => ?_)
      · have c6312_ : v5421.toInt > v5424.toInt := en_j_gt_t c6312
        refine At.enter rfl ?_
        refine r_iconst 0 rfl ?_
        refine Ar.fall 18 rfl ?_
        refine At.enter rfl ?_
        refine q_iretz (by decide) ?_
        refine At.enter rfl ?_
        refine q_iretz (by decide) ?_
        refine At.enter rfl ?_
        refine r_ift (by decide) ?_
        refine At.enter rfl ?_
        refine r_ldc2 (-1) rfl ?_
        refine Ar.fall 103 rfl ?_
        refine At.enter rfl ?_
        refine q_last (Sh.lar hI5419.1 ka_244) (5) rfl (by decide) ?_
        have hI6313 := HI.wK hI5419 ka_244 (5) ((-1))
        have hF6314 := Fr.wK (p := 244) (j := 5) (v := (-1)) hF5420
        refine r_aload_n rfl ?_
        refine q_getR (Sh.ref hI6313.1 kx_231 rfl) ?_
        refine r_bipush 6 rfl ?_
        refine r_iload rfl ?_
        refine q_i2l (fun v6315 hv6315 => ?_)
        refine q_last (Sh.lar hI6313.1 ka_244) (6) rfl (by decide) ?_
        have hI6316 := HI.wK hI6313 ka_244 (6) (v6315)
        have hF6317 := Fr.wK (p := 244) (j := 6) (v := v6315) hF6314
        refine r_aload_n rfl ?_
        refine q_getR (Sh.ref hI6316.1 kx_231 rfl) ?_
        refine r_bipush 7 rfl ?_
        refine r_iload rfl ?_
        refine q_i2l (fun v6318 hv6318 => ?_)
        refine q_last (Sh.lar hI6316.1 ka_244) (7) rfl (by decide) ?_
        have hI6319 := HI.wK hI6316 ka_244 (7) (v6318)
        have hF6320 := Fr.wK (p := 244) (j := 7) (v := v6318) hF6317
        refine r_aload_n rfl ?_
        refine q_getR (Sh.ref hI6319.1 kx_231 rfl) ?_
        refine r_bipush 8 rfl ?_
        refine r_aload_n rfl ?_
        refine q_getR (Sh.ref hI6319.1 kx_231 rfl) ?_
        refine r_iload_n rfl ?_
        obtain ⟨v6321, hv6321⟩ : ∃ v, eA g0 246 a3.toInt = v := ⟨_, rfl⟩
        refine q_iald (Sh.arr hI6319.1 ka_246) a3.toInt rfl (by omega) v6321 ((eA_c ((gA_sX).trans ((gA_sX).trans ((gA_sX).trans ((gA_sX).trans ((gA_sX).trans ((gA_sX).trans ((gA_sX).trans (gA_sI))))))))).trans hv6321) ?_
        refine q_i2l (fun v6322 hv6322 => ?_)
        refine q_last (Sh.lar hI6319.1 ka_244) (8) rfl (by decide) ?_
        have hI6323 := HI.wK hI6319 ka_244 (8) (v6322)
        have hF6324 := Fr.wK (p := 244) (j := 8) (v := v6322) hF6320
        refine r_aload_n rfl ?_
        refine q_getR (Sh.ref hI6323.1 kx_231 rfl) ?_
        refine r_bipush 9 rfl ?_
        refine r_aload_n rfl ?_
        refine q_getR (Sh.ref hI6323.1 kx_231 rfl) ?_
        refine r_iload_n rfl ?_
        obtain ⟨v6325, hv6325⟩ : ∃ v, eA g0 247 a3.toInt = v := ⟨_, rfl⟩
        refine q_iald (Sh.arr hI6323.1 ka_247) a3.toInt rfl (by omega) v6325 ((eA_c ((gA_sX).trans ((gA_sX).trans ((gA_sX).trans ((gA_sX).trans ((gA_sX).trans ((gA_sX).trans ((gA_sX).trans ((gA_sX).trans (gA_sI)))))))))).trans hv6325) ?_
        refine q_i2l (fun v6326 hv6326 => ?_)
        refine q_last (Sh.lar hI6323.1 ka_244) (9) rfl (by decide) ?_
        have hI6327 := HI.wK hI6323 ka_244 (9) (v6326)
        have hF6328 := Fr.wK (p := 244) (j := 9) (v := v6326) hF6324
        refine r_lload rfl ?_
        refine r_lstore ([(9, .long a6), (8, .int v5400), (0, .ref 231), (1, .int a1), (2, .int a2), (3, .int a3), (4, .int a4), (5, .int a5), (6, .long a6)]) rfl ?_
        refine r_iconst 0 rfl ?_
        refine r_istore ([(11, .int 0), (9, .long a6), (8, .int v5400), (0, .ref 231), (1, .int a1), (2, .int a2), (3, .int a3), (4, .int a4), (5, .int a5), (6, .long a6)]) rfl ?_
        refine Ar.fall 159 rfl ?_
        have z_7114 : (0 : Int32).toInt = 0 := rfl
        refine w_loopI (fun n_ l_ g_ => ∃ x7094 : Int64, ∃ x7095 : Int32, n_ = 12 - x7095.toInt ∧ HI g_ ∧ Fr F_X11_tells_231 A_X11_tells_231 g0 g_ ∧ gI g_ 231 27 = v5394 ∧ en_get 0 l_ = some (.ref 231) ∧ en_get 1 l_ = some (.int a1) ∧ en_get 2 l_ = some (.int a2) ∧ en_get 3 l_ = some (.int a3) ∧ en_get 4 l_ = some (.int a4) ∧ en_get 5 l_ = some (.int a5) ∧ en_get 6 l_ = some (.long a6) ∧ en_get 8 l_ = some (.int v5400) ∧ en_get 9 l_ = some (.long x7094) ∧ en_get 11 l_ = some (.int x7095) ∧ (0 ≤ x7095.toInt ∧ x7095.toInt ≤ 12)) ?_ (12 - 0) ⟨a6, 0, by first | rfl | omega, hI6327, hF6328, ((gI_sX).trans ((gI_sX).trans ((gI_sX).trans ((gI_sX).trans ((gI_sX).trans ((gI_sX).trans ((gI_sX).trans ((gI_sX).trans ((gI_sX).trans (gI_sI_eq hI0.1 kx_231 rfl _)))))))))), rfl, rfl, rfl, rfl, rfl, rfl, rfl, rfl, rfl, rfl, by decide⟩
        rintro n7100 l7099 g7096 ⟨x7094, x7095, hm7115, hI7097, hF7098, e7102, e7103, e7104, e7105, e7106, e7107, e7108, e7109, e7110, e7111, e7112, r7113⟩ ih7101
        have tv7116 := congrArg Int32.toInt e7102
        refine At.enter rfl ?_
        refine r_iload e7112 ?_
        refine r_aload_n e7103 ?_
        refine q_getR (Sh.ref hI7097.1 kx_231 rfl) ?_
        refine r_aload_n e7103 ?_
        refine q_getI (Sh.int hI7097.1 kx_231 rfl) v5394 e7102 ?_
        refine r_iconst 1 rfl ?_
        refine q_iadd (v5394.toInt + 1) rfl (by omega) (fun v7117 hv7117 => ?_)
        obtain ⟨v7118, hv7118⟩ : ∃ v, eA g0 233 (900 * v5391.toInt + 111) = v := ⟨_, rfl⟩
        have wv7118 := HI.lawn hI0 (j := v5391.toInt) (i := (900 * v5391.toInt + 111)) ⟨by omega, by omega⟩ (by omega)
        rw [hv7118] at wv7118
        refine q_iald (Sh.arr hI7097.1 ka_233) (900 * v5391.toInt + 111) (by omega) (by omega) v7118 ((eA_c (hF7098.2.1 233 (by decide))).trans hv7118) ?_
        have bv7120 := q_bnd x7095
        have bv7121 := q_bnd v7118
        refine r_ics 175 rfl (fun c7119 => ?_) (fun c7119 => ?_)
        · have c7119_ : x7095.toInt ≥ v7118.toInt := en_i_ge_t c7119
          refine At.enter rfl ?_
          refine r_lload e7111 ?_
          refine r_lret ?_
          exact ⟨_, rfl, hI7097, hF7098, _, rfl, trivial⟩
        · have c7119_ : x7095.toInt < v7118.toInt := en_i_ge_f c7119
          refine At.enter rfl ?_
          refine r_aload_n e7103 ?_
          refine q_getI (Sh.int hI7097.1 kx_231 rfl) v5394 e7102 ?_
          refine r_iconst 2 rfl ?_
          refine q_iadd (v5394.toInt + 2) rfl (by omega) (fun v7122 hv7122 => ?_)
          refine r_bipush 8 rfl ?_
          refine r_iload e7112 ?_
          refine q_imul (8 * x7095.toInt) rfl (by omega) (fun v7123 hv7123 => ?_)
          refine q_iadd (v7122.toInt + v7123.toInt) rfl (by omega) (fun v7124 hv7124 => ?_)
          refine r_istore _ rfl ?_
          refine r_aload_n (w_p1 (by decide) (Or.inr rfl) e7103) ?_
          refine q_getR (Sh.ref hI7097.1 kx_231 rfl) ?_
          refine r_iload (w_e1 _ _ _) ?_
          obtain ⟨v7125, hv7125⟩ : ∃ v, eA g0 233 (900 * v5391.toInt + 8 * x7095.toInt + 112) = v := ⟨_, rfl⟩
          refine q_iald (Sh.arr hI7097.1 ka_233) (900 * v5391.toInt + 8 * x7095.toInt + 112) (by omega) (by omega) v7125 ((eA_c (hF7098.2.1 233 (by decide))).trans hv7125) ?_
          refine r_iload_n (w_p1 (by decide) (Or.inr rfl) e7104) ?_
          refine r_ics 200 rfl (fun c7126 => ?_) (fun c7126 => ?_)
          · have c7126_ : v7125.toInt ≠ a1.toInt := en_i_ne_t c7126
            refine At.enter rfl ?_
            refine q_iinc (w_p1 (by decide) (Or.inr rfl) e7112) (x7095.toInt + 1) rfl (by omega) (fun v7127 hv7127 => ?_)
            refine r_goto ?_
            exact ih7101 (12 - v7127.toInt) _ _ ⟨x7094, v7127, by first | rfl | omega, hI7097, hF7098, e7102, (w_p1 (by decide) (Or.inr rfl) (w_p1 (by decide) (Or.inr rfl) e7103)), (w_p1 (by decide) (Or.inr rfl) (w_p1 (by decide) (Or.inr rfl) e7104)), (w_p1 (by decide) (Or.inr rfl) (w_p1 (by decide) (Or.inr rfl) e7105)), (w_p1 (by decide) (Or.inr rfl) (w_p1 (by decide) (Or.inr rfl) e7106)), (w_p1 (by decide) (Or.inr rfl) (w_p1 (by decide) (Or.inr rfl) e7107)), (w_p1 (by decide) (Or.inr rfl) (w_p1 (by decide) (Or.inr rfl) e7108)), (w_p1 (by decide) (Or.inl (by decide)) (w_p1 (by decide) (Or.inl (by decide)) e7109)), (w_p1 (by decide) (Or.inr rfl) (w_p1 (by decide) (Or.inr rfl) e7110)), (w_p1 (by decide) (Or.inl (by decide)) (w_p1 (by decide) (Or.inl (by decide)) e7111)), (w_e1 _ _ _), by omega⟩ ⟨by omega, by omega⟩
          · have c7126_ : v7125.toInt = a1.toInt := en_i_ne_f c7126
            refine At.enter rfl ?_
            refine r_aload_n (w_p1 (by decide) (Or.inr rfl) e7103) ?_
            refine r_iload (w_e1 _ _ _) ?_
            refine q_inlV 206 rfl [.ref 231, .int v7124] [] (Nat.le_of_ble_eq_true rfl) rfl ?_
            refine Ev.mk rfl rfl ⟨Nat.le_of_ble_eq_true rfl, Or.inr (q_rc hI7097.1 kx_231 rfl)⟩ ?_
            show At _ none _ _ (0, [(0, .ref 231), (1, .int v7124)], [], (_, _)) _
            refine At.enter rfl ?_
            refine r_aload_n rfl ?_
            refine q_getR (Sh.ref hI7097.1 kx_231 rfl) ?_
            refine r_iload_n rfl ?_
            refine r_iconst 5 rfl ?_
            refine q_iadd (v7124.toInt + 5) rfl (by omega) (fun v7128 hv7128 => ?_)
            obtain ⟨v7129, hv7129⟩ : ∃ v, eA g0 233 (900 * v5391.toInt + 8 * x7095.toInt + 117) = v := ⟨_, rfl⟩
            refine q_iald (Sh.arr hI7097.1 ka_233) (900 * v5391.toInt + 8 * x7095.toInt + 117) (by omega) (by omega) v7129 ((eA_c (hF7098.2.1 233 (by decide))).trans hv7129) ?_
            refine r_aload_n rfl ?_
            refine q_getR (Sh.ref hI7097.1 kx_231 rfl) ?_
            refine r_iload_n rfl ?_
            refine r_bipush 6 rfl ?_
            refine q_iadd (v7124.toInt + 6) rfl (by omega) (fun v7130 hv7130 => ?_)
            obtain ⟨v7131, hv7131⟩ : ∃ v, eA g0 233 (900 * v5391.toInt + 8 * x7095.toInt + 118) = v := ⟨_, rfl⟩
            refine q_iald (Sh.arr hI7097.1 ka_233) (900 * v5391.toInt + 8 * x7095.toInt + 118) (by omega) (by omega) v7131 ((eA_c (hF7098.2.1 233 (by decide))).trans hv7131) ?_
            have bv7133 := q_bnd v7129
            have bv7134 := q_bnd v7131
            refine r_ics 20 rfl (fun c7132 => ?_) (fun c7132 => ?_)
            · have c7132_ : v7129.toInt ≥ v7131.toInt := en_i_ge_t c7132
              refine At.enter rfl ?_
              refine r_aload_n rfl ?_
              refine q_getR (Sh.ref hI7097.1 kx_231 rfl) ?_
              refine r_iload_n rfl ?_
              refine q_iald (Sh.arr hI7097.1 ka_233) (900 * v5391.toInt + 8 * x7095.toInt + 112) (by omega) (by omega) v7125 ((eA_c (hF7098.2.1 233 (by decide))).trans hv7125) ?_
              refine r_iconst 2 rfl ?_
              refine r_ics 69 rfl (fun c7135 => ?_) (fun c7135 => ?_)
              · have c7135_ : v7125.toInt ≥ 2 := en_i_ge_t c7135
                refine At.enter rfl ?_
                refine r_iconst 1 rfl ?_
                refine q_iretz (by decide) ?_
                refine At.enter rfl ?_
                refine r_iff 209 rfl (by decide) ?_
                refine At.enter rfl ?_
                refine r_iload_n (w_p1 (by decide) (Or.inr rfl) e7104) ?_
                refine r_iconst 2 rfl ?_
                refine r_ics 214 rfl (fun c7136 => ?_) (fun c7136 => ?_)
                · have c7136_ : a1.toInt ≥ 2 := en_i_ge_t c7136
                  refine At.enter rfl ?_
                  refine r_lconst 1 rfl ?_
                  refine Ar.fall 222 rfl ?_
                  refine At.enter rfl ?_
                  refine r_lstore _ rfl ?_
                  refine Ar.fall 224 rfl ?_
                  refine At.enter rfl ?_
                  refine q_iinc (w_p2 (by decide) (by decide) (Or.inr rfl) (w_p1 (by decide) (Or.inr rfl) e7112)) (x7095.toInt + 1) rfl (by omega) (fun v7137 hv7137 => ?_)
                  refine r_goto ?_
                  exact ih7101 (12 - v7137.toInt) _ _ ⟨1, v7137, by first | rfl | omega, hI7097, hF7098, e7102, (w_p1 (by decide) (Or.inr rfl) (w_p2 (by decide) (by decide) (Or.inr rfl) (w_p1 (by decide) (Or.inr rfl) e7103))), (w_p1 (by decide) (Or.inr rfl) (w_p2 (by decide) (by decide) (Or.inr rfl) (w_p1 (by decide) (Or.inr rfl) e7104))), (w_p1 (by decide) (Or.inr rfl) (w_p2 (by decide) (by decide) (Or.inr rfl) (w_p1 (by decide) (Or.inr rfl) e7105))), (w_p1 (by decide) (Or.inr rfl) (w_p2 (by decide) (by decide) (Or.inr rfl) (w_p1 (by decide) (Or.inr rfl) e7106))), (w_p1 (by decide) (Or.inr rfl) (w_p2 (by decide) (by decide) (Or.inr rfl) (w_p1 (by decide) (Or.inr rfl) e7107))), (w_p1 (by decide) (Or.inr rfl) (w_p2 (by decide) (by decide) (Or.inr rfl) (w_p1 (by decide) (Or.inr rfl) e7108))), (w_p1 (by decide) (Or.inl (by decide)) (w_p2 (by decide) (by decide) (Or.inl (by decide)) (w_p1 (by decide) (Or.inl (by decide)) e7109))), (w_p1 (by decide) (Or.inr rfl) (w_p2 (by decide) (by decide) (Or.inr rfl) (w_p1 (by decide) (Or.inr rfl) e7110))), (w_p1 (by decide) (Or.inl (by decide)) (w_e2 _ _ _)), (w_e1 _ _ _), by omega⟩ ⟨by omega, by omega⟩
                · have c7136_ : a1.toInt < 2 := en_i_ge_f c7136
                  refine At.enter rfl ?_
                  refine r_aload_n (w_p1 (by decide) (Or.inr rfl) e7103) ?_
                  refine q_getJ (Sh.long hI7097.1 kx_231 rfl) (fun v7138 => ?_)
                  refine r_goto ?_
                  refine At.enter rfl ?_
                  refine r_lstore _ rfl ?_
                  refine Ar.fall 224 rfl ?_
                  refine At.enter rfl ?_
                  refine q_iinc (w_p2 (by decide) (by decide) (Or.inr rfl) (w_p1 (by decide) (Or.inr rfl) e7112)) (x7095.toInt + 1) rfl (by omega) (fun v7139 hv7139 => ?_)
                  refine r_goto ?_
                  exact ih7101 (12 - v7139.toInt) _ _ ⟨v7138, v7139, by first | rfl | omega, hI7097, hF7098, e7102, (w_p1 (by decide) (Or.inr rfl) (w_p2 (by decide) (by decide) (Or.inr rfl) (w_p1 (by decide) (Or.inr rfl) e7103))), (w_p1 (by decide) (Or.inr rfl) (w_p2 (by decide) (by decide) (Or.inr rfl) (w_p1 (by decide) (Or.inr rfl) e7104))), (w_p1 (by decide) (Or.inr rfl) (w_p2 (by decide) (by decide) (Or.inr rfl) (w_p1 (by decide) (Or.inr rfl) e7105))), (w_p1 (by decide) (Or.inr rfl) (w_p2 (by decide) (by decide) (Or.inr rfl) (w_p1 (by decide) (Or.inr rfl) e7106))), (w_p1 (by decide) (Or.inr rfl) (w_p2 (by decide) (by decide) (Or.inr rfl) (w_p1 (by decide) (Or.inr rfl) e7107))), (w_p1 (by decide) (Or.inr rfl) (w_p2 (by decide) (by decide) (Or.inr rfl) (w_p1 (by decide) (Or.inr rfl) e7108))), (w_p1 (by decide) (Or.inl (by decide)) (w_p2 (by decide) (by decide) (Or.inl (by decide)) (w_p1 (by decide) (Or.inl (by decide)) e7109))), (w_p1 (by decide) (Or.inr rfl) (w_p2 (by decide) (by decide) (Or.inr rfl) (w_p1 (by decide) (Or.inr rfl) e7110))), (w_p1 (by decide) (Or.inl (by decide)) (w_e2 _ _ _)), (w_e1 _ _ _), by omega⟩ ⟨by omega, by omega⟩
              · have c7135_ : v7125.toInt < 2 := en_i_ge_f c7135
                refine At.enter rfl ?_
                refine r_aload_n rfl ?_
                refine r_aload_n rfl ?_
                refine q_getR (Sh.ref hI7097.1 kx_231 rfl) ?_
                refine r_iload_n rfl ?_
                refine r_iconst 3 rfl ?_
                refine q_iadd (v7124.toInt + 3) rfl (by omega) (fun v7140 hv7140 => ?_)
                obtain ⟨v7141, hv7141⟩ : ∃ v, eA g0 233 (900 * v5391.toInt + 8 * x7095.toInt + 115) = v := ⟨_, rfl⟩
                refine q_iald (Sh.arr hI7097.1 ka_233) (900 * v5391.toInt + 8 * x7095.toInt + 115) (by omega) (by omega) v7141 ((eA_c (hF7098.2.1 233 (by decide))).trans hv7141) ?_
                refine r_aload_n rfl ?_
                refine q_getR (Sh.ref hI7097.1 kx_231 rfl) ?_
                refine r_iload_n rfl ?_
                refine r_iconst 4 rfl ?_
                refine q_iadd (v7124.toInt + 4) rfl (by omega) (fun v7142 hv7142 => ?_)
                obtain ⟨v7143, hv7143⟩ : ∃ v, eA g0 233 (900 * v5391.toInt + 8 * x7095.toInt + 116) = v := ⟨_, rfl⟩
                refine q_iald (Sh.arr hI7097.1 ka_233) (900 * v5391.toInt + 8 * x7095.toInt + 116) (by omega) (by omega) v7143 ((eA_c (hF7098.2.1 233 (by decide))).trans hv7143) ?_
                refine r_callV 89 rfl [.ref 231, .int v7141, .int v7143] [] (Nat.le_of_ble_eq_true rfl) rfl (T_X11_reckonAll_231 _ hI7097 v7141 v7143 (HI.code hI0 (j := v5391.toInt) (c := x7095.toInt) ⟨by omega, by omega⟩ (hF7098.2.1 233 (by decide)) (by rw [e7102]; omega) (i := (900 * v5391.toInt + 111)) (by omega) (congrArg Int32.toInt hv7118) ⟨by omega, by omega⟩ (i3 := (900 * v5391.toInt + 8 * x7095.toInt + 115)) (i4 := (900 * v5391.toInt + 8 * x7095.toInt + 116)) 3 (by decide) (by omega) (by omega) (congrArg Int32.toInt hv7141) (congrArg Int32.toInt hv7143))) ?_
                rintro _ _ ⟨g7144, rfl, hI7145, hF7146, rfl⟩
                refine At.stn ?_
                have hF7149 := Fr.tr hF7098 hF7146 rfl rfl
                refine At.enter rfl ?_
                refine r_aload_n rfl ?_
                refine r_aload_n rfl ?_
                refine q_getJ (Sh.long hI7145.1 kx_231 rfl) (fun v7150 => ?_)
                refine q_putJ (Sh.long hI7145.1 kx_231 rfl) rfl ?_
                have hI7151 := HI.wJ hI7145 kx_231 rfl (p := 231) (b := 32) (v := v7150)
                have hF7152 := Fr.wJ (p := 231) (b := 32) (v := v7150) hF7149 rfl
                refine r_aload_n rfl ?_
                obtain ⟨v7153, hv7153⟩ : ∃ v, gI g7144 231 30 = v := ⟨_, rfl⟩
                refine q_getI (Sh.int hI7151.1 kx_231 rfl) v7153 ((gI_sJ_ne (by decide)).trans hv7153) ?_
                refine r_ifs 104 rfl (fun c7154 => ?_) (fun c7154 => ?_)
                · have c7154_ : v7153.toInt ≠ 0 := en_k_ne_t c7154
                  refine At.enter rfl ?_
                  refine r_iconst 0 rfl ?_
                  refine Ar.fall 109 rfl ?_
                  refine At.enter rfl ?_
                  refine q_iretz (by decide) ?_
                  refine At.enter rfl ?_
                  refine r_ift (by decide) ?_
                  refine At.enter rfl ?_
                  refine q_iinc (w_p1 (by decide) (Or.inr rfl) e7112) (x7095.toInt + 1) rfl (by omega) (fun v7155 hv7155 => ?_)
                  refine r_goto ?_
                  exact ih7101 (12 - v7155.toInt) _ _ ⟨x7094, v7155, by first | rfl | omega, hI7151, hF7152, (((gI_sJ_ne (by decide)).trans (hF7146.1 231 27 (by decide))).trans e7102), (w_p1 (by decide) (Or.inr rfl) (w_p1 (by decide) (Or.inr rfl) e7103)), (w_p1 (by decide) (Or.inr rfl) (w_p1 (by decide) (Or.inr rfl) e7104)), (w_p1 (by decide) (Or.inr rfl) (w_p1 (by decide) (Or.inr rfl) e7105)), (w_p1 (by decide) (Or.inr rfl) (w_p1 (by decide) (Or.inr rfl) e7106)), (w_p1 (by decide) (Or.inr rfl) (w_p1 (by decide) (Or.inr rfl) e7107)), (w_p1 (by decide) (Or.inr rfl) (w_p1 (by decide) (Or.inr rfl) e7108)), (w_p1 (by decide) (Or.inl (by decide)) (w_p1 (by decide) (Or.inl (by decide)) e7109)), (w_p1 (by decide) (Or.inr rfl) (w_p1 (by decide) (Or.inr rfl) e7110)), (w_p1 (by decide) (Or.inl (by decide)) (w_p1 (by decide) (Or.inl (by decide)) e7111)), (w_e1 _ _ _), by omega⟩ ⟨by omega, by omega⟩
                · have c7154_ : v7153.toInt = 0 := en_k_ne_f c7154
                  refine At.enter rfl ?_
                  refine r_iconst 1 rfl ?_
                  refine r_goto ?_
                  refine At.enter rfl ?_
                  refine q_iretz (by decide) ?_
                  refine At.enter rfl ?_
                  refine r_iff 209 rfl (by decide) ?_
                  refine At.enter rfl ?_
                  refine r_iload_n (w_p1 (by decide) (Or.inr rfl) e7104) ?_
                  refine r_iconst 2 rfl ?_
                  refine r_ics 214 rfl (fun c7156 => ?_) (fun c7156 => ?_)
                  · have c7156_ : a1.toInt ≥ 2 := en_i_ge_t c7156
                    refine At.enter rfl ?_
                    refine r_lconst 1 rfl ?_
                    refine Ar.fall 222 rfl ?_
                    refine At.enter rfl ?_
                    refine r_lstore _ rfl ?_
                    refine Ar.fall 224 rfl ?_
                    refine At.enter rfl ?_
                    refine q_iinc (w_p2 (by decide) (by decide) (Or.inr rfl) (w_p1 (by decide) (Or.inr rfl) e7112)) (x7095.toInt + 1) rfl (by omega) (fun v7157 hv7157 => ?_)
                    refine r_goto ?_
                    exact ih7101 (12 - v7157.toInt) _ _ ⟨1, v7157, by first | rfl | omega, hI7151, hF7152, (((gI_sJ_ne (by decide)).trans (hF7146.1 231 27 (by decide))).trans e7102), (w_p1 (by decide) (Or.inr rfl) (w_p2 (by decide) (by decide) (Or.inr rfl) (w_p1 (by decide) (Or.inr rfl) e7103))), (w_p1 (by decide) (Or.inr rfl) (w_p2 (by decide) (by decide) (Or.inr rfl) (w_p1 (by decide) (Or.inr rfl) e7104))), (w_p1 (by decide) (Or.inr rfl) (w_p2 (by decide) (by decide) (Or.inr rfl) (w_p1 (by decide) (Or.inr rfl) e7105))), (w_p1 (by decide) (Or.inr rfl) (w_p2 (by decide) (by decide) (Or.inr rfl) (w_p1 (by decide) (Or.inr rfl) e7106))), (w_p1 (by decide) (Or.inr rfl) (w_p2 (by decide) (by decide) (Or.inr rfl) (w_p1 (by decide) (Or.inr rfl) e7107))), (w_p1 (by decide) (Or.inr rfl) (w_p2 (by decide) (by decide) (Or.inr rfl) (w_p1 (by decide) (Or.inr rfl) e7108))), (w_p1 (by decide) (Or.inl (by decide)) (w_p2 (by decide) (by decide) (Or.inl (by decide)) (w_p1 (by decide) (Or.inl (by decide)) e7109))), (w_p1 (by decide) (Or.inr rfl) (w_p2 (by decide) (by decide) (Or.inr rfl) (w_p1 (by decide) (Or.inr rfl) e7110))), (w_p1 (by decide) (Or.inl (by decide)) (w_e2 _ _ _)), (w_e1 _ _ _), by omega⟩ ⟨by omega, by omega⟩
                  · have c7156_ : a1.toInt < 2 := en_i_ge_f c7156
                    refine At.enter rfl ?_
                    refine r_aload_n (w_p1 (by decide) (Or.inr rfl) e7103) ?_
                    refine q_getJ (Sh.long hI7151.1 kx_231 rfl) (fun v7158 => ?_)
                    refine r_goto ?_
                    refine At.enter rfl ?_
                    refine r_lstore _ rfl ?_
                    refine Ar.fall 224 rfl ?_
                    refine At.enter rfl ?_
                    refine q_iinc (w_p2 (by decide) (by decide) (Or.inr rfl) (w_p1 (by decide) (Or.inr rfl) e7112)) (x7095.toInt + 1) rfl (by omega) (fun v7159 hv7159 => ?_)
                    refine r_goto ?_
                    exact ih7101 (12 - v7159.toInt) _ _ ⟨v7158, v7159, by first | rfl | omega, hI7151, hF7152, (((gI_sJ_ne (by decide)).trans (hF7146.1 231 27 (by decide))).trans e7102), (w_p1 (by decide) (Or.inr rfl) (w_p2 (by decide) (by decide) (Or.inr rfl) (w_p1 (by decide) (Or.inr rfl) e7103))), (w_p1 (by decide) (Or.inr rfl) (w_p2 (by decide) (by decide) (Or.inr rfl) (w_p1 (by decide) (Or.inr rfl) e7104))), (w_p1 (by decide) (Or.inr rfl) (w_p2 (by decide) (by decide) (Or.inr rfl) (w_p1 (by decide) (Or.inr rfl) e7105))), (w_p1 (by decide) (Or.inr rfl) (w_p2 (by decide) (by decide) (Or.inr rfl) (w_p1 (by decide) (Or.inr rfl) e7106))), (w_p1 (by decide) (Or.inr rfl) (w_p2 (by decide) (by decide) (Or.inr rfl) (w_p1 (by decide) (Or.inr rfl) e7107))), (w_p1 (by decide) (Or.inr rfl) (w_p2 (by decide) (by decide) (Or.inr rfl) (w_p1 (by decide) (Or.inr rfl) e7108))), (w_p1 (by decide) (Or.inl (by decide)) (w_p2 (by decide) (by decide) (Or.inl (by decide)) (w_p1 (by decide) (Or.inl (by decide)) e7109))), (w_p1 (by decide) (Or.inr rfl) (w_p2 (by decide) (by decide) (Or.inr rfl) (w_p1 (by decide) (Or.inr rfl) e7110))), (w_p1 (by decide) (Or.inl (by decide)) (w_e2 _ _ _)), (w_e1 _ _ _), by omega⟩ ⟨by omega, by omega⟩
            · have c7132_ : v7129.toInt < v7131.toInt := en_i_ge_f c7132
              refine At.enter rfl ?_
              refine r_aload_n rfl ?_
              refine r_aload_n rfl ?_
              refine q_getR (Sh.ref hI7097.1 kx_231 rfl) ?_
              refine r_iload_n rfl ?_
              refine r_iconst 5 rfl ?_
              refine q_iadd (v7124.toInt + 5) rfl (by omega) (fun v7160 hv7160 => ?_)
              refine q_iald (Sh.arr hI7097.1 ka_233) (900 * v5391.toInt + 8 * x7095.toInt + 117) (by omega) (by omega) v7129 ((eA_c (hF7098.2.1 233 (by decide))).trans hv7129) ?_
              refine r_aload_n rfl ?_
              refine q_getR (Sh.ref hI7097.1 kx_231 rfl) ?_
              refine r_iload_n rfl ?_
              refine r_bipush 6 rfl ?_
              refine q_iadd (v7124.toInt + 6) rfl (by omega) (fun v7161 hv7161 => ?_)
              refine q_iald (Sh.arr hI7097.1 ka_233) (900 * v5391.toInt + 8 * x7095.toInt + 118) (by omega) (by omega) v7131 ((eA_c (hF7098.2.1 233 (by decide))).trans hv7131) ?_
              refine r_callV 41 rfl [.ref 231, .int v7129, .int v7131] [] (Nat.le_of_ble_eq_true rfl) rfl (T_X11_reckonAll_231 _ hI7097 v7129 v7131 (HI.code hI0 (j := v5391.toInt) (c := x7095.toInt) ⟨by omega, by omega⟩ (hF7098.2.1 233 (by decide)) (by rw [e7102]; omega) (i := (900 * v5391.toInt + 111)) (by omega) (congrArg Int32.toInt hv7118) ⟨by omega, by omega⟩ (i3 := (900 * v5391.toInt + 8 * x7095.toInt + 117)) (i4 := (900 * v5391.toInt + 8 * x7095.toInt + 118)) 5 (by decide) (by omega) (by omega) (congrArg Int32.toInt hv7129) (congrArg Int32.toInt hv7131))) ?_
              rintro _ _ ⟨g7162, rfl, hI7163, hF7164, rfl⟩
              refine At.stn ?_
              have hF7167 := Fr.tr hF7098 hF7164 rfl rfl
              refine At.enter rfl ?_
              refine r_aload_n rfl ?_
              obtain ⟨v7168, hv7168⟩ : ∃ v, gI g7162 231 30 = v := ⟨_, rfl⟩
              refine q_getI (Sh.int hI7163.1 kx_231 rfl) v7168 hv7168 ?_
              refine r_ifs 48 rfl (fun c7169 => ?_) (fun c7169 => ?_)
              · have c7169_ : v7168.toInt ≠ 0 := en_k_ne_t c7169
                refine At.enter rfl ?_
                refine r_iconst 0 rfl ?_
                refine q_iretz (by decide) ?_
                refine At.enter rfl ?_
                refine r_ift (by decide) ?_
                refine At.enter rfl ?_
                refine q_iinc (w_p1 (by decide) (Or.inr rfl) e7112) (x7095.toInt + 1) rfl (by omega) (fun v7170 hv7170 => ?_)
                refine r_goto ?_
                exact ih7101 (12 - v7170.toInt) _ _ ⟨x7094, v7170, by first | rfl | omega, hI7163, hF7167, ((hF7164.1 231 27 (by decide)).trans e7102), (w_p1 (by decide) (Or.inr rfl) (w_p1 (by decide) (Or.inr rfl) e7103)), (w_p1 (by decide) (Or.inr rfl) (w_p1 (by decide) (Or.inr rfl) e7104)), (w_p1 (by decide) (Or.inr rfl) (w_p1 (by decide) (Or.inr rfl) e7105)), (w_p1 (by decide) (Or.inr rfl) (w_p1 (by decide) (Or.inr rfl) e7106)), (w_p1 (by decide) (Or.inr rfl) (w_p1 (by decide) (Or.inr rfl) e7107)), (w_p1 (by decide) (Or.inr rfl) (w_p1 (by decide) (Or.inr rfl) e7108)), (w_p1 (by decide) (Or.inl (by decide)) (w_p1 (by decide) (Or.inl (by decide)) e7109)), (w_p1 (by decide) (Or.inr rfl) (w_p1 (by decide) (Or.inr rfl) e7110)), (w_p1 (by decide) (Or.inl (by decide)) (w_p1 (by decide) (Or.inl (by decide)) e7111)), (w_e1 _ _ _), by omega⟩ ⟨by omega, by omega⟩
              · have c7169_ : v7168.toInt = 0 := en_k_ne_f c7169
                refine At.enter rfl ?_
                refine r_aload_n rfl ?_
                refine q_getJ (Sh.long hI7163.1 kx_231 rfl) (fun v7171 => ?_)
                refine r_lconst 0 rfl ?_
                refine r_lcmp _ rfl ?_
                refine r_ifs 57 rfl (fun c7172 => ?_) (fun c7172 => ?_)
                · have c7172_ : v7171.toInt ≠ 0 := en_j_ne_t c7172
                  refine At.enter rfl ?_
                  refine r_aload_n rfl ?_
                  refine q_getR (Sh.ref hI7163.1 kx_231 rfl) ?_
                  refine r_iload_n rfl ?_
                  refine q_iald (Sh.arr hI7163.1 ka_233) (900 * v5391.toInt + 8 * x7095.toInt + 112) (by omega) (by omega) v7125 ((eA_c ((hF7164.2.1 233 (by decide)).trans (hF7098.2.1 233 (by decide)))).trans hv7125) ?_
                  refine r_iconst 2 rfl ?_
                  refine r_ics 69 rfl (fun c7173 => ?_) (fun c7173 => ?_)
                  · have c7173_ : v7125.toInt ≥ 2 := en_i_ge_t c7173
                    refine At.enter rfl ?_
                    refine r_iconst 1 rfl ?_
                    refine q_iretz (by decide) ?_
                    refine At.enter rfl ?_
                    refine r_iff 209 rfl (by decide) ?_
                    refine At.enter rfl ?_
                    refine r_iload_n (w_p1 (by decide) (Or.inr rfl) e7104) ?_
                    refine r_iconst 2 rfl ?_
                    refine r_ics 214 rfl (fun c7174 => ?_) (fun c7174 => ?_)
                    · have c7174_ : a1.toInt ≥ 2 := en_i_ge_t c7174
                      refine At.enter rfl ?_
                      refine r_lconst 1 rfl ?_
                      refine Ar.fall 222 rfl ?_
                      refine At.enter rfl ?_
                      refine r_lstore _ rfl ?_
                      refine Ar.fall 224 rfl ?_
                      refine At.enter rfl ?_
                      refine q_iinc (w_p2 (by decide) (by decide) (Or.inr rfl) (w_p1 (by decide) (Or.inr rfl) e7112)) (x7095.toInt + 1) rfl (by omega) (fun v7175 hv7175 => ?_)
                      refine r_goto ?_
                      exact ih7101 (12 - v7175.toInt) _ _ ⟨1, v7175, by first | rfl | omega, hI7163, hF7167, ((hF7164.1 231 27 (by decide)).trans e7102), (w_p1 (by decide) (Or.inr rfl) (w_p2 (by decide) (by decide) (Or.inr rfl) (w_p1 (by decide) (Or.inr rfl) e7103))), (w_p1 (by decide) (Or.inr rfl) (w_p2 (by decide) (by decide) (Or.inr rfl) (w_p1 (by decide) (Or.inr rfl) e7104))), (w_p1 (by decide) (Or.inr rfl) (w_p2 (by decide) (by decide) (Or.inr rfl) (w_p1 (by decide) (Or.inr rfl) e7105))), (w_p1 (by decide) (Or.inr rfl) (w_p2 (by decide) (by decide) (Or.inr rfl) (w_p1 (by decide) (Or.inr rfl) e7106))), (w_p1 (by decide) (Or.inr rfl) (w_p2 (by decide) (by decide) (Or.inr rfl) (w_p1 (by decide) (Or.inr rfl) e7107))), (w_p1 (by decide) (Or.inr rfl) (w_p2 (by decide) (by decide) (Or.inr rfl) (w_p1 (by decide) (Or.inr rfl) e7108))), (w_p1 (by decide) (Or.inl (by decide)) (w_p2 (by decide) (by decide) (Or.inl (by decide)) (w_p1 (by decide) (Or.inl (by decide)) e7109))), (w_p1 (by decide) (Or.inr rfl) (w_p2 (by decide) (by decide) (Or.inr rfl) (w_p1 (by decide) (Or.inr rfl) e7110))), (w_p1 (by decide) (Or.inl (by decide)) (w_e2 _ _ _)), (w_e1 _ _ _), by omega⟩ ⟨by omega, by omega⟩
                    · have c7174_ : a1.toInt < 2 := en_i_ge_f c7174
                      refine At.enter rfl ?_
                      refine r_aload_n (w_p1 (by decide) (Or.inr rfl) e7103) ?_
                      refine q_getJ (Sh.long hI7163.1 kx_231 rfl) (fun v7176 => ?_)
                      refine r_goto ?_
                      refine At.enter rfl ?_
                      refine r_lstore _ rfl ?_
                      refine Ar.fall 224 rfl ?_
                      refine At.enter rfl ?_
                      refine q_iinc (w_p2 (by decide) (by decide) (Or.inr rfl) (w_p1 (by decide) (Or.inr rfl) e7112)) (x7095.toInt + 1) rfl (by omega) (fun v7177 hv7177 => ?_)
                      refine r_goto ?_
                      exact ih7101 (12 - v7177.toInt) _ _ ⟨v7176, v7177, by first | rfl | omega, hI7163, hF7167, ((hF7164.1 231 27 (by decide)).trans e7102), (w_p1 (by decide) (Or.inr rfl) (w_p2 (by decide) (by decide) (Or.inr rfl) (w_p1 (by decide) (Or.inr rfl) e7103))), (w_p1 (by decide) (Or.inr rfl) (w_p2 (by decide) (by decide) (Or.inr rfl) (w_p1 (by decide) (Or.inr rfl) e7104))), (w_p1 (by decide) (Or.inr rfl) (w_p2 (by decide) (by decide) (Or.inr rfl) (w_p1 (by decide) (Or.inr rfl) e7105))), (w_p1 (by decide) (Or.inr rfl) (w_p2 (by decide) (by decide) (Or.inr rfl) (w_p1 (by decide) (Or.inr rfl) e7106))), (w_p1 (by decide) (Or.inr rfl) (w_p2 (by decide) (by decide) (Or.inr rfl) (w_p1 (by decide) (Or.inr rfl) e7107))), (w_p1 (by decide) (Or.inr rfl) (w_p2 (by decide) (by decide) (Or.inr rfl) (w_p1 (by decide) (Or.inr rfl) e7108))), (w_p1 (by decide) (Or.inl (by decide)) (w_p2 (by decide) (by decide) (Or.inl (by decide)) (w_p1 (by decide) (Or.inl (by decide)) e7109))), (w_p1 (by decide) (Or.inr rfl) (w_p2 (by decide) (by decide) (Or.inr rfl) (w_p1 (by decide) (Or.inr rfl) e7110))), (w_p1 (by decide) (Or.inl (by decide)) (w_e2 _ _ _)), (w_e1 _ _ _), by omega⟩ ⟨by omega, by omega⟩
                  · have c7173_ : v7125.toInt < 2 := en_i_ge_f c7173
                    refine At.enter rfl ?_
                    refine r_aload_n rfl ?_
                    refine r_aload_n rfl ?_
                    refine q_getR (Sh.ref hI7163.1 kx_231 rfl) ?_
                    refine r_iload_n rfl ?_
                    refine r_iconst 3 rfl ?_
                    refine q_iadd (v7124.toInt + 3) rfl (by omega) (fun v7178 hv7178 => ?_)
                    obtain ⟨v7179, hv7179⟩ : ∃ v, eA g0 233 (900 * v5391.toInt + 8 * x7095.toInt + 115) = v := ⟨_, rfl⟩
                    refine q_iald (Sh.arr hI7163.1 ka_233) (900 * v5391.toInt + 8 * x7095.toInt + 115) (by omega) (by omega) v7179 ((eA_c ((hF7164.2.1 233 (by decide)).trans (hF7098.2.1 233 (by decide)))).trans hv7179) ?_
                    refine r_aload_n rfl ?_
                    refine q_getR (Sh.ref hI7163.1 kx_231 rfl) ?_
                    refine r_iload_n rfl ?_
                    refine r_iconst 4 rfl ?_
                    refine q_iadd (v7124.toInt + 4) rfl (by omega) (fun v7180 hv7180 => ?_)
                    obtain ⟨v7181, hv7181⟩ : ∃ v, eA g0 233 (900 * v5391.toInt + 8 * x7095.toInt + 116) = v := ⟨_, rfl⟩
                    refine q_iald (Sh.arr hI7163.1 ka_233) (900 * v5391.toInt + 8 * x7095.toInt + 116) (by omega) (by omega) v7181 ((eA_c ((hF7164.2.1 233 (by decide)).trans (hF7098.2.1 233 (by decide)))).trans hv7181) ?_
                    refine r_callV 89 rfl [.ref 231, .int v7179, .int v7181] [] (Nat.le_of_ble_eq_true rfl) rfl (T_X11_reckonAll_231 _ hI7163 v7179 v7181 (HI.code hI0 (j := v5391.toInt) (c := x7095.toInt) ⟨by omega, by omega⟩ ((hF7164.2.1 233 (by decide)).trans (hF7098.2.1 233 (by decide))) (by rw [((hF7164.1 231 27 (by decide)).trans e7102)]; omega) (i := (900 * v5391.toInt + 111)) (by omega) (congrArg Int32.toInt hv7118) ⟨by omega, by omega⟩ (i3 := (900 * v5391.toInt + 8 * x7095.toInt + 115)) (i4 := (900 * v5391.toInt + 8 * x7095.toInt + 116)) 3 (by decide) (by omega) (by omega) (congrArg Int32.toInt hv7179) (congrArg Int32.toInt hv7181))) ?_
                    rintro _ _ ⟨g7182, rfl, hI7183, hF7184, rfl⟩
                    refine At.stn ?_
                    have hF7187 := Fr.tr hF7167 hF7184 rfl rfl
                    refine At.enter rfl ?_
                    refine r_aload_n rfl ?_
                    refine r_aload_n rfl ?_
                    refine q_getJ (Sh.long hI7183.1 kx_231 rfl) (fun v7188 => ?_)
                    refine q_putJ (Sh.long hI7183.1 kx_231 rfl) rfl ?_
                    have hI7189 := HI.wJ hI7183 kx_231 rfl (p := 231) (b := 32) (v := v7188)
                    have hF7190 := Fr.wJ (p := 231) (b := 32) (v := v7188) hF7187 rfl
                    refine r_aload_n rfl ?_
                    obtain ⟨v7191, hv7191⟩ : ∃ v, gI g7182 231 30 = v := ⟨_, rfl⟩
                    refine q_getI (Sh.int hI7189.1 kx_231 rfl) v7191 ((gI_sJ_ne (by decide)).trans hv7191) ?_
                    refine r_ifs 104 rfl (fun c7192 => ?_) (fun c7192 => ?_)
                    · have c7192_ : v7191.toInt ≠ 0 := en_k_ne_t c7192
                      refine At.enter rfl ?_
                      refine r_iconst 0 rfl ?_
                      refine Ar.fall 109 rfl ?_
                      refine At.enter rfl ?_
                      refine q_iretz (by decide) ?_
                      refine At.enter rfl ?_
                      refine r_ift (by decide) ?_
                      refine At.enter rfl ?_
                      refine q_iinc (w_p1 (by decide) (Or.inr rfl) e7112) (x7095.toInt + 1) rfl (by omega) (fun v7193 hv7193 => ?_)
                      refine r_goto ?_
                      exact ih7101 (12 - v7193.toInt) _ _ ⟨x7094, v7193, by first | rfl | omega, hI7189, hF7190, (((gI_sJ_ne (by decide)).trans ((hF7184.1 231 27 (by decide)).trans (hF7164.1 231 27 (by decide)))).trans e7102), (w_p1 (by decide) (Or.inr rfl) (w_p1 (by decide) (Or.inr rfl) e7103)), (w_p1 (by decide) (Or.inr rfl) (w_p1 (by decide) (Or.inr rfl) e7104)), (w_p1 (by decide) (Or.inr rfl) (w_p1 (by decide) (Or.inr rfl) e7105)), (w_p1 (by decide) (Or.inr rfl) (w_p1 (by decide) (Or.inr rfl) e7106)), (w_p1 (by decide) (Or.inr rfl) (w_p1 (by decide) (Or.inr rfl) e7107)), (w_p1 (by decide) (Or.inr rfl) (w_p1 (by decide) (Or.inr rfl) e7108)), (w_p1 (by decide) (Or.inl (by decide)) (w_p1 (by decide) (Or.inl (by decide)) e7109)), (w_p1 (by decide) (Or.inr rfl) (w_p1 (by decide) (Or.inr rfl) e7110)), (w_p1 (by decide) (Or.inl (by decide)) (w_p1 (by decide) (Or.inl (by decide)) e7111)), (w_e1 _ _ _), by omega⟩ ⟨by omega, by omega⟩
                    · have c7192_ : v7191.toInt = 0 := en_k_ne_f c7192
                      refine At.enter rfl ?_
                      refine r_iconst 1 rfl ?_
                      refine r_goto ?_
                      refine At.enter rfl ?_
                      refine q_iretz (by decide) ?_
                      refine At.enter rfl ?_
                      refine r_iff 209 rfl (by decide) ?_
                      refine At.enter rfl ?_
                      refine r_iload_n (w_p1 (by decide) (Or.inr rfl) e7104) ?_
                      refine r_iconst 2 rfl ?_
                      refine r_ics 214 rfl (fun c7194 => ?_) (fun c7194 => ?_)
                      · have c7194_ : a1.toInt ≥ 2 := en_i_ge_t c7194
                        refine At.enter rfl ?_
                        refine r_lconst 1 rfl ?_
                        refine Ar.fall 222 rfl ?_
                        refine At.enter rfl ?_
                        refine r_lstore _ rfl ?_
                        refine Ar.fall 224 rfl ?_
                        refine At.enter rfl ?_
                        refine q_iinc (w_p2 (by decide) (by decide) (Or.inr rfl) (w_p1 (by decide) (Or.inr rfl) e7112)) (x7095.toInt + 1) rfl (by omega) (fun v7195 hv7195 => ?_)
                        refine r_goto ?_
                        exact ih7101 (12 - v7195.toInt) _ _ ⟨1, v7195, by first | rfl | omega, hI7189, hF7190, (((gI_sJ_ne (by decide)).trans ((hF7184.1 231 27 (by decide)).trans (hF7164.1 231 27 (by decide)))).trans e7102), (w_p1 (by decide) (Or.inr rfl) (w_p2 (by decide) (by decide) (Or.inr rfl) (w_p1 (by decide) (Or.inr rfl) e7103))), (w_p1 (by decide) (Or.inr rfl) (w_p2 (by decide) (by decide) (Or.inr rfl) (w_p1 (by decide) (Or.inr rfl) e7104))), (w_p1 (by decide) (Or.inr rfl) (w_p2 (by decide) (by decide) (Or.inr rfl) (w_p1 (by decide) (Or.inr rfl) e7105))), (w_p1 (by decide) (Or.inr rfl) (w_p2 (by decide) (by decide) (Or.inr rfl) (w_p1 (by decide) (Or.inr rfl) e7106))), (w_p1 (by decide) (Or.inr rfl) (w_p2 (by decide) (by decide) (Or.inr rfl) (w_p1 (by decide) (Or.inr rfl) e7107))), (w_p1 (by decide) (Or.inr rfl) (w_p2 (by decide) (by decide) (Or.inr rfl) (w_p1 (by decide) (Or.inr rfl) e7108))), (w_p1 (by decide) (Or.inl (by decide)) (w_p2 (by decide) (by decide) (Or.inl (by decide)) (w_p1 (by decide) (Or.inl (by decide)) e7109))), (w_p1 (by decide) (Or.inr rfl) (w_p2 (by decide) (by decide) (Or.inr rfl) (w_p1 (by decide) (Or.inr rfl) e7110))), (w_p1 (by decide) (Or.inl (by decide)) (w_e2 _ _ _)), (w_e1 _ _ _), by omega⟩ ⟨by omega, by omega⟩
                      · have c7194_ : a1.toInt < 2 := en_i_ge_f c7194
                        refine At.enter rfl ?_
                        refine r_aload_n (w_p1 (by decide) (Or.inr rfl) e7103) ?_
                        refine q_getJ (Sh.long hI7189.1 kx_231 rfl) (fun v7196 => ?_)
                        refine r_goto ?_
                        refine At.enter rfl ?_
                        refine r_lstore _ rfl ?_
                        refine Ar.fall 224 rfl ?_
                        refine At.enter rfl ?_
                        refine q_iinc (w_p2 (by decide) (by decide) (Or.inr rfl) (w_p1 (by decide) (Or.inr rfl) e7112)) (x7095.toInt + 1) rfl (by omega) (fun v7197 hv7197 => ?_)
                        refine r_goto ?_
                        exact ih7101 (12 - v7197.toInt) _ _ ⟨v7196, v7197, by first | rfl | omega, hI7189, hF7190, (((gI_sJ_ne (by decide)).trans ((hF7184.1 231 27 (by decide)).trans (hF7164.1 231 27 (by decide)))).trans e7102), (w_p1 (by decide) (Or.inr rfl) (w_p2 (by decide) (by decide) (Or.inr rfl) (w_p1 (by decide) (Or.inr rfl) e7103))), (w_p1 (by decide) (Or.inr rfl) (w_p2 (by decide) (by decide) (Or.inr rfl) (w_p1 (by decide) (Or.inr rfl) e7104))), (w_p1 (by decide) (Or.inr rfl) (w_p2 (by decide) (by decide) (Or.inr rfl) (w_p1 (by decide) (Or.inr rfl) e7105))), (w_p1 (by decide) (Or.inr rfl) (w_p2 (by decide) (by decide) (Or.inr rfl) (w_p1 (by decide) (Or.inr rfl) e7106))), (w_p1 (by decide) (Or.inr rfl) (w_p2 (by decide) (by decide) (Or.inr rfl) (w_p1 (by decide) (Or.inr rfl) e7107))), (w_p1 (by decide) (Or.inr rfl) (w_p2 (by decide) (by decide) (Or.inr rfl) (w_p1 (by decide) (Or.inr rfl) e7108))), (w_p1 (by decide) (Or.inl (by decide)) (w_p2 (by decide) (by decide) (Or.inl (by decide)) (w_p1 (by decide) (Or.inl (by decide)) e7109))), (w_p1 (by decide) (Or.inr rfl) (w_p2 (by decide) (by decide) (Or.inr rfl) (w_p1 (by decide) (Or.inr rfl) e7110))), (w_p1 (by decide) (Or.inl (by decide)) (w_e2 _ _ _)), (w_e1 _ _ _), by omega⟩ ⟨by omega, by omega⟩
                · have c7172_ : v7171.toInt = 0 := en_j_ne_f c7172
                  refine At.enter rfl ?_
                  refine r_iconst 0 rfl ?_
                  refine q_iretz (by decide) ?_
                  refine At.enter rfl ?_
                  refine r_ift (by decide) ?_
                  refine At.enter rfl ?_
                  refine q_iinc (w_p1 (by decide) (Or.inr rfl) e7112) (x7095.toInt + 1) rfl (by omega) (fun v7198 hv7198 => ?_)
                  refine r_goto ?_
                  exact ih7101 (12 - v7198.toInt) _ _ ⟨x7094, v7198, by first | rfl | omega, hI7163, hF7167, ((hF7164.1 231 27 (by decide)).trans e7102), (w_p1 (by decide) (Or.inr rfl) (w_p1 (by decide) (Or.inr rfl) e7103)), (w_p1 (by decide) (Or.inr rfl) (w_p1 (by decide) (Or.inr rfl) e7104)), (w_p1 (by decide) (Or.inr rfl) (w_p1 (by decide) (Or.inr rfl) e7105)), (w_p1 (by decide) (Or.inr rfl) (w_p1 (by decide) (Or.inr rfl) e7106)), (w_p1 (by decide) (Or.inr rfl) (w_p1 (by decide) (Or.inr rfl) e7107)), (w_p1 (by decide) (Or.inr rfl) (w_p1 (by decide) (Or.inr rfl) e7108)), (w_p1 (by decide) (Or.inl (by decide)) (w_p1 (by decide) (Or.inl (by decide)) e7109)), (w_p1 (by decide) (Or.inr rfl) (w_p1 (by decide) (Or.inr rfl) e7110)), (w_p1 (by decide) (Or.inl (by decide)) (w_p1 (by decide) (Or.inl (by decide)) e7111)), (w_e1 _ _ _), by omega⟩ ⟨by omega, by omega⟩
      · have c6312_ : v5421.toInt ≤ v5424.toInt := en_j_gt_f c6312
        refine At.enter rfl ?_
        refine r_iconst 1 rfl ?_
        refine r_goto ?_
        refine At.enter rfl ?_
        refine q_iretz (by decide) ?_
        refine At.enter rfl ?_
        refine q_iretz (by decide) ?_
        refine At.enter rfl ?_
        refine r_iff 94 rfl (by decide) ?_
        refine At.enter rfl ?_
        refine r_iload rfl ?_
        refine q_i2l (fun v7199 hv7199 => ?_)
        refine r_goto ?_
        refine At.enter rfl ?_
        refine q_last (Sh.lar hI5419.1 ka_244) (5) rfl (by decide) ?_
        have hI7200 := HI.wK hI5419 ka_244 (5) (v7199)
        have hF7201 := Fr.wK (p := 244) (j := 5) (v := v7199) hF5420
        refine r_aload_n rfl ?_
        refine q_getR (Sh.ref hI7200.1 kx_231 rfl) ?_
        refine r_bipush 6 rfl ?_
        refine r_iload rfl ?_
        refine q_i2l (fun v7202 hv7202 => ?_)
        refine q_last (Sh.lar hI7200.1 ka_244) (6) rfl (by decide) ?_
        have hI7203 := HI.wK hI7200 ka_244 (6) (v7202)
        have hF7204 := Fr.wK (p := 244) (j := 6) (v := v7202) hF7201
        refine r_aload_n rfl ?_
        refine q_getR (Sh.ref hI7203.1 kx_231 rfl) ?_
        refine r_bipush 7 rfl ?_
        refine r_iload rfl ?_
        refine q_i2l (fun v7205 hv7205 => ?_)
        refine q_last (Sh.lar hI7203.1 ka_244) (7) rfl (by decide) ?_
        have hI7206 := HI.wK hI7203 ka_244 (7) (v7205)
        have hF7207 := Fr.wK (p := 244) (j := 7) (v := v7205) hF7204
        refine r_aload_n rfl ?_
        refine q_getR (Sh.ref hI7206.1 kx_231 rfl) ?_
        refine r_bipush 8 rfl ?_
        refine r_aload_n rfl ?_
        refine q_getR (Sh.ref hI7206.1 kx_231 rfl) ?_
        refine r_iload_n rfl ?_
        obtain ⟨v7208, hv7208⟩ : ∃ v, eA g0 246 a3.toInt = v := ⟨_, rfl⟩
        refine q_iald (Sh.arr hI7206.1 ka_246) a3.toInt rfl (by omega) v7208 ((eA_c ((gA_sX).trans ((gA_sX).trans ((gA_sX).trans ((gA_sX).trans ((gA_sX).trans ((gA_sX).trans ((gA_sX).trans (gA_sI))))))))).trans hv7208) ?_
        refine q_i2l (fun v7209 hv7209 => ?_)
        refine q_last (Sh.lar hI7206.1 ka_244) (8) rfl (by decide) ?_
        have hI7210 := HI.wK hI7206 ka_244 (8) (v7209)
        have hF7211 := Fr.wK (p := 244) (j := 8) (v := v7209) hF7207
        refine r_aload_n rfl ?_
        refine q_getR (Sh.ref hI7210.1 kx_231 rfl) ?_
        refine r_bipush 9 rfl ?_
        refine r_aload_n rfl ?_
        refine q_getR (Sh.ref hI7210.1 kx_231 rfl) ?_
        refine r_iload_n rfl ?_
        obtain ⟨v7212, hv7212⟩ : ∃ v, eA g0 247 a3.toInt = v := ⟨_, rfl⟩
        refine q_iald (Sh.arr hI7210.1 ka_247) a3.toInt rfl (by omega) v7212 ((eA_c ((gA_sX).trans ((gA_sX).trans ((gA_sX).trans ((gA_sX).trans ((gA_sX).trans ((gA_sX).trans ((gA_sX).trans ((gA_sX).trans (gA_sI)))))))))).trans hv7212) ?_
        refine q_i2l (fun v7213 hv7213 => ?_)
        refine q_last (Sh.lar hI7210.1 ka_244) (9) rfl (by decide) ?_
        have hI7214 := HI.wK hI7210 ka_244 (9) (v7213)
        have hF7215 := Fr.wK (p := 244) (j := 9) (v := v7213) hF7211
        refine r_lload rfl ?_
        refine r_lstore ([(9, .long a6), (8, .int v5400), (0, .ref 231), (1, .int a1), (2, .int a2), (3, .int a3), (4, .int a4), (5, .int a5), (6, .long a6)]) rfl ?_
        refine r_iconst 0 rfl ?_
        refine r_istore ([(11, .int 0), (9, .long a6), (8, .int v5400), (0, .ref 231), (1, .int a1), (2, .int a2), (3, .int a3), (4, .int a4), (5, .int a5), (6, .long a6)]) rfl ?_
        refine Ar.fall 159 rfl ?_
        have z_8001 : (0 : Int32).toInt = 0 := rfl
        refine w_loopI (fun n_ l_ g_ => ∃ x7981 : Int64, ∃ x7982 : Int32, n_ = 12 - x7982.toInt ∧ HI g_ ∧ Fr F_X11_tells_231 A_X11_tells_231 g0 g_ ∧ gI g_ 231 27 = v5394 ∧ en_get 0 l_ = some (.ref 231) ∧ en_get 1 l_ = some (.int a1) ∧ en_get 2 l_ = some (.int a2) ∧ en_get 3 l_ = some (.int a3) ∧ en_get 4 l_ = some (.int a4) ∧ en_get 5 l_ = some (.int a5) ∧ en_get 6 l_ = some (.long a6) ∧ en_get 8 l_ = some (.int v5400) ∧ en_get 9 l_ = some (.long x7981) ∧ en_get 11 l_ = some (.int x7982) ∧ (0 ≤ x7982.toInt ∧ x7982.toInt ≤ 12)) ?_ (12 - 0) ⟨a6, 0, by first | rfl | omega, hI7214, hF7215, ((gI_sX).trans ((gI_sX).trans ((gI_sX).trans ((gI_sX).trans ((gI_sX).trans ((gI_sX).trans ((gI_sX).trans ((gI_sX).trans ((gI_sX).trans (gI_sI_eq hI0.1 kx_231 rfl _)))))))))), rfl, rfl, rfl, rfl, rfl, rfl, rfl, rfl, rfl, rfl, by decide⟩
        rintro n7987 l7986 g7983 ⟨x7981, x7982, hm8002, hI7984, hF7985, e7989, e7990, e7991, e7992, e7993, e7994, e7995, e7996, e7997, e7998, e7999, r8000⟩ ih7988
        have tv8003 := congrArg Int32.toInt e7989
        refine At.enter rfl ?_
        refine r_iload e7999 ?_
        refine r_aload_n e7990 ?_
        refine q_getR (Sh.ref hI7984.1 kx_231 rfl) ?_
        refine r_aload_n e7990 ?_
        refine q_getI (Sh.int hI7984.1 kx_231 rfl) v5394 e7989 ?_
        refine r_iconst 1 rfl ?_
        refine q_iadd (v5394.toInt + 1) rfl (by omega) (fun v8004 hv8004 => ?_)
        obtain ⟨v8005, hv8005⟩ : ∃ v, eA g0 233 (900 * v5391.toInt + 111) = v := ⟨_, rfl⟩
        have wv8005 := HI.lawn hI0 (j := v5391.toInt) (i := (900 * v5391.toInt + 111)) ⟨by omega, by omega⟩ (by omega)
        rw [hv8005] at wv8005
        refine q_iald (Sh.arr hI7984.1 ka_233) (900 * v5391.toInt + 111) (by omega) (by omega) v8005 ((eA_c (hF7985.2.1 233 (by decide))).trans hv8005) ?_
        have bv8007 := q_bnd x7982
        have bv8008 := q_bnd v8005
        refine r_ics 175 rfl (fun c8006 => ?_) (fun c8006 => ?_)
        · have c8006_ : x7982.toInt ≥ v8005.toInt := en_i_ge_t c8006
          refine At.enter rfl ?_
          refine r_lload e7998 ?_
          refine r_lret ?_
          exact ⟨_, rfl, hI7984, hF7985, _, rfl, trivial⟩
        · have c8006_ : x7982.toInt < v8005.toInt := en_i_ge_f c8006
          refine At.enter rfl ?_
          refine r_aload_n e7990 ?_
          refine q_getI (Sh.int hI7984.1 kx_231 rfl) v5394 e7989 ?_
          refine r_iconst 2 rfl ?_
          refine q_iadd (v5394.toInt + 2) rfl (by omega) (fun v8009 hv8009 => ?_)
          refine r_bipush 8 rfl ?_
          refine r_iload e7999 ?_
          refine q_imul (8 * x7982.toInt) rfl (by omega) (fun v8010 hv8010 => ?_)
          refine q_iadd (v8009.toInt + v8010.toInt) rfl (by omega) (fun v8011 hv8011 => ?_)
          refine r_istore _ rfl ?_
          refine r_aload_n (w_p1 (by decide) (Or.inr rfl) e7990) ?_
          refine q_getR (Sh.ref hI7984.1 kx_231 rfl) ?_
          refine r_iload (w_e1 _ _ _) ?_
          obtain ⟨v8012, hv8012⟩ : ∃ v, eA g0 233 (900 * v5391.toInt + 8 * x7982.toInt + 112) = v := ⟨_, rfl⟩
          refine q_iald (Sh.arr hI7984.1 ka_233) (900 * v5391.toInt + 8 * x7982.toInt + 112) (by omega) (by omega) v8012 ((eA_c (hF7985.2.1 233 (by decide))).trans hv8012) ?_
          refine r_iload_n (w_p1 (by decide) (Or.inr rfl) e7991) ?_
          refine r_ics 200 rfl (fun c8013 => ?_) (fun c8013 => ?_)
          · have c8013_ : v8012.toInt ≠ a1.toInt := en_i_ne_t c8013
            refine At.enter rfl ?_
            refine q_iinc (w_p1 (by decide) (Or.inr rfl) e7999) (x7982.toInt + 1) rfl (by omega) (fun v8014 hv8014 => ?_)
            refine r_goto ?_
            exact ih7988 (12 - v8014.toInt) _ _ ⟨x7981, v8014, by first | rfl | omega, hI7984, hF7985, e7989, (w_p1 (by decide) (Or.inr rfl) (w_p1 (by decide) (Or.inr rfl) e7990)), (w_p1 (by decide) (Or.inr rfl) (w_p1 (by decide) (Or.inr rfl) e7991)), (w_p1 (by decide) (Or.inr rfl) (w_p1 (by decide) (Or.inr rfl) e7992)), (w_p1 (by decide) (Or.inr rfl) (w_p1 (by decide) (Or.inr rfl) e7993)), (w_p1 (by decide) (Or.inr rfl) (w_p1 (by decide) (Or.inr rfl) e7994)), (w_p1 (by decide) (Or.inr rfl) (w_p1 (by decide) (Or.inr rfl) e7995)), (w_p1 (by decide) (Or.inl (by decide)) (w_p1 (by decide) (Or.inl (by decide)) e7996)), (w_p1 (by decide) (Or.inr rfl) (w_p1 (by decide) (Or.inr rfl) e7997)), (w_p1 (by decide) (Or.inl (by decide)) (w_p1 (by decide) (Or.inl (by decide)) e7998)), (w_e1 _ _ _), by omega⟩ ⟨by omega, by omega⟩
          · have c8013_ : v8012.toInt = a1.toInt := en_i_ne_f c8013
            refine At.enter rfl ?_
            refine r_aload_n (w_p1 (by decide) (Or.inr rfl) e7990) ?_
            refine r_iload (w_e1 _ _ _) ?_
            refine q_inlV 206 rfl [.ref 231, .int v8011] [] (Nat.le_of_ble_eq_true rfl) rfl ?_
            refine Ev.mk rfl rfl ⟨Nat.le_of_ble_eq_true rfl, Or.inr (q_rc hI7984.1 kx_231 rfl)⟩ ?_
            show At _ none _ _ (0, [(0, .ref 231), (1, .int v8011)], [], (_, _)) _
            refine At.enter rfl ?_
            refine r_aload_n rfl ?_
            refine q_getR (Sh.ref hI7984.1 kx_231 rfl) ?_
            refine r_iload_n rfl ?_
            refine r_iconst 5 rfl ?_
            refine q_iadd (v8011.toInt + 5) rfl (by omega) (fun v8015 hv8015 => ?_)
            obtain ⟨v8016, hv8016⟩ : ∃ v, eA g0 233 (900 * v5391.toInt + 8 * x7982.toInt + 117) = v := ⟨_, rfl⟩
            refine q_iald (Sh.arr hI7984.1 ka_233) (900 * v5391.toInt + 8 * x7982.toInt + 117) (by omega) (by omega) v8016 ((eA_c (hF7985.2.1 233 (by decide))).trans hv8016) ?_
            refine r_aload_n rfl ?_
            refine q_getR (Sh.ref hI7984.1 kx_231 rfl) ?_
            refine r_iload_n rfl ?_
            refine r_bipush 6 rfl ?_
            refine q_iadd (v8011.toInt + 6) rfl (by omega) (fun v8017 hv8017 => ?_)
            obtain ⟨v8018, hv8018⟩ : ∃ v, eA g0 233 (900 * v5391.toInt + 8 * x7982.toInt + 118) = v := ⟨_, rfl⟩
            refine q_iald (Sh.arr hI7984.1 ka_233) (900 * v5391.toInt + 8 * x7982.toInt + 118) (by omega) (by omega) v8018 ((eA_c (hF7985.2.1 233 (by decide))).trans hv8018) ?_
            have bv8020 := q_bnd v8016
            have bv8021 := q_bnd v8018
            refine r_ics 20 rfl (fun c8019 => ?_) (fun c8019 => ?_)
            · have c8019_ : v8016.toInt ≥ v8018.toInt := en_i_ge_t c8019
              refine At.enter rfl ?_
              refine r_aload_n rfl ?_
              refine q_getR (Sh.ref hI7984.1 kx_231 rfl) ?_
              refine r_iload_n rfl ?_
              refine q_iald (Sh.arr hI7984.1 ka_233) (900 * v5391.toInt + 8 * x7982.toInt + 112) (by omega) (by omega) v8012 ((eA_c (hF7985.2.1 233 (by decide))).trans hv8012) ?_
              refine r_iconst 2 rfl ?_
              refine r_ics 69 rfl (fun c8022 => ?_) (fun c8022 => ?_)
              · have c8022_ : v8012.toInt ≥ 2 := en_i_ge_t c8022
                refine At.enter rfl ?_
                refine r_iconst 1 rfl ?_
                refine q_iretz (by decide) ?_
                refine At.enter rfl ?_
                refine r_iff 209 rfl (by decide) ?_
                refine At.enter rfl ?_
                refine r_iload_n (w_p1 (by decide) (Or.inr rfl) e7991) ?_
                refine r_iconst 2 rfl ?_
                refine r_ics 214 rfl (fun c8023 => ?_) (fun c8023 => ?_)
                · have c8023_ : a1.toInt ≥ 2 := en_i_ge_t c8023
                  refine At.enter rfl ?_
                  refine r_lconst 1 rfl ?_
                  refine Ar.fall 222 rfl ?_
                  refine At.enter rfl ?_
                  refine r_lstore _ rfl ?_
                  refine Ar.fall 224 rfl ?_
                  refine At.enter rfl ?_
                  refine q_iinc (w_p2 (by decide) (by decide) (Or.inr rfl) (w_p1 (by decide) (Or.inr rfl) e7999)) (x7982.toInt + 1) rfl (by omega) (fun v8024 hv8024 => ?_)
                  refine r_goto ?_
                  exact ih7988 (12 - v8024.toInt) _ _ ⟨1, v8024, by first | rfl | omega, hI7984, hF7985, e7989, (w_p1 (by decide) (Or.inr rfl) (w_p2 (by decide) (by decide) (Or.inr rfl) (w_p1 (by decide) (Or.inr rfl) e7990))), (w_p1 (by decide) (Or.inr rfl) (w_p2 (by decide) (by decide) (Or.inr rfl) (w_p1 (by decide) (Or.inr rfl) e7991))), (w_p1 (by decide) (Or.inr rfl) (w_p2 (by decide) (by decide) (Or.inr rfl) (w_p1 (by decide) (Or.inr rfl) e7992))), (w_p1 (by decide) (Or.inr rfl) (w_p2 (by decide) (by decide) (Or.inr rfl) (w_p1 (by decide) (Or.inr rfl) e7993))), (w_p1 (by decide) (Or.inr rfl) (w_p2 (by decide) (by decide) (Or.inr rfl) (w_p1 (by decide) (Or.inr rfl) e7994))), (w_p1 (by decide) (Or.inr rfl) (w_p2 (by decide) (by decide) (Or.inr rfl) (w_p1 (by decide) (Or.inr rfl) e7995))), (w_p1 (by decide) (Or.inl (by decide)) (w_p2 (by decide) (by decide) (Or.inl (by decide)) (w_p1 (by decide) (Or.inl (by decide)) e7996))), (w_p1 (by decide) (Or.inr rfl) (w_p2 (by decide) (by decide) (Or.inr rfl) (w_p1 (by decide) (Or.inr rfl) e7997))), (w_p1 (by decide) (Or.inl (by decide)) (w_e2 _ _ _)), (w_e1 _ _ _), by omega⟩ ⟨by omega, by omega⟩
                · have c8023_ : a1.toInt < 2 := en_i_ge_f c8023
                  refine At.enter rfl ?_
                  refine r_aload_n (w_p1 (by decide) (Or.inr rfl) e7990) ?_
                  refine q_getJ (Sh.long hI7984.1 kx_231 rfl) (fun v8025 => ?_)
                  refine r_goto ?_
                  refine At.enter rfl ?_
                  refine r_lstore _ rfl ?_
                  refine Ar.fall 224 rfl ?_
                  refine At.enter rfl ?_
                  refine q_iinc (w_p2 (by decide) (by decide) (Or.inr rfl) (w_p1 (by decide) (Or.inr rfl) e7999)) (x7982.toInt + 1) rfl (by omega) (fun v8026 hv8026 => ?_)
                  refine r_goto ?_
                  exact ih7988 (12 - v8026.toInt) _ _ ⟨v8025, v8026, by first | rfl | omega, hI7984, hF7985, e7989, (w_p1 (by decide) (Or.inr rfl) (w_p2 (by decide) (by decide) (Or.inr rfl) (w_p1 (by decide) (Or.inr rfl) e7990))), (w_p1 (by decide) (Or.inr rfl) (w_p2 (by decide) (by decide) (Or.inr rfl) (w_p1 (by decide) (Or.inr rfl) e7991))), (w_p1 (by decide) (Or.inr rfl) (w_p2 (by decide) (by decide) (Or.inr rfl) (w_p1 (by decide) (Or.inr rfl) e7992))), (w_p1 (by decide) (Or.inr rfl) (w_p2 (by decide) (by decide) (Or.inr rfl) (w_p1 (by decide) (Or.inr rfl) e7993))), (w_p1 (by decide) (Or.inr rfl) (w_p2 (by decide) (by decide) (Or.inr rfl) (w_p1 (by decide) (Or.inr rfl) e7994))), (w_p1 (by decide) (Or.inr rfl) (w_p2 (by decide) (by decide) (Or.inr rfl) (w_p1 (by decide) (Or.inr rfl) e7995))), (w_p1 (by decide) (Or.inl (by decide)) (w_p2 (by decide) (by decide) (Or.inl (by decide)) (w_p1 (by decide) (Or.inl (by decide)) e7996))), (w_p1 (by decide) (Or.inr rfl) (w_p2 (by decide) (by decide) (Or.inr rfl) (w_p1 (by decide) (Or.inr rfl) e7997))), (w_p1 (by decide) (Or.inl (by decide)) (w_e2 _ _ _)), (w_e1 _ _ _), by omega⟩ ⟨by omega, by omega⟩
              · have c8022_ : v8012.toInt < 2 := en_i_ge_f c8022
                refine At.enter rfl ?_
                refine r_aload_n rfl ?_
                refine r_aload_n rfl ?_
                refine q_getR (Sh.ref hI7984.1 kx_231 rfl) ?_
                refine r_iload_n rfl ?_
                refine r_iconst 3 rfl ?_
                refine q_iadd (v8011.toInt + 3) rfl (by omega) (fun v8027 hv8027 => ?_)
                obtain ⟨v8028, hv8028⟩ : ∃ v, eA g0 233 (900 * v5391.toInt + 8 * x7982.toInt + 115) = v := ⟨_, rfl⟩
                refine q_iald (Sh.arr hI7984.1 ka_233) (900 * v5391.toInt + 8 * x7982.toInt + 115) (by omega) (by omega) v8028 ((eA_c (hF7985.2.1 233 (by decide))).trans hv8028) ?_
                refine r_aload_n rfl ?_
                refine q_getR (Sh.ref hI7984.1 kx_231 rfl) ?_
                refine r_iload_n rfl ?_
                refine r_iconst 4 rfl ?_
                refine q_iadd (v8011.toInt + 4) rfl (by omega) (fun v8029 hv8029 => ?_)
                obtain ⟨v8030, hv8030⟩ : ∃ v, eA g0 233 (900 * v5391.toInt + 8 * x7982.toInt + 116) = v := ⟨_, rfl⟩
                refine q_iald (Sh.arr hI7984.1 ka_233) (900 * v5391.toInt + 8 * x7982.toInt + 116) (by omega) (by omega) v8030 ((eA_c (hF7985.2.1 233 (by decide))).trans hv8030) ?_
                refine r_callV 89 rfl [.ref 231, .int v8028, .int v8030] [] (Nat.le_of_ble_eq_true rfl) rfl (T_X11_reckonAll_231 _ hI7984 v8028 v8030 (HI.code hI0 (j := v5391.toInt) (c := x7982.toInt) ⟨by omega, by omega⟩ (hF7985.2.1 233 (by decide)) (by rw [e7989]; omega) (i := (900 * v5391.toInt + 111)) (by omega) (congrArg Int32.toInt hv8005) ⟨by omega, by omega⟩ (i3 := (900 * v5391.toInt + 8 * x7982.toInt + 115)) (i4 := (900 * v5391.toInt + 8 * x7982.toInt + 116)) 3 (by decide) (by omega) (by omega) (congrArg Int32.toInt hv8028) (congrArg Int32.toInt hv8030))) ?_
                rintro _ _ ⟨g8031, rfl, hI8032, hF8033, rfl⟩
                refine At.stn ?_
                have hF8036 := Fr.tr hF7985 hF8033 rfl rfl
                refine At.enter rfl ?_
                refine r_aload_n rfl ?_
                refine r_aload_n rfl ?_
                refine q_getJ (Sh.long hI8032.1 kx_231 rfl) (fun v8037 => ?_)
                refine q_putJ (Sh.long hI8032.1 kx_231 rfl) rfl ?_
                have hI8038 := HI.wJ hI8032 kx_231 rfl (p := 231) (b := 32) (v := v8037)
                have hF8039 := Fr.wJ (p := 231) (b := 32) (v := v8037) hF8036 rfl
                refine r_aload_n rfl ?_
                obtain ⟨v8040, hv8040⟩ : ∃ v, gI g8031 231 30 = v := ⟨_, rfl⟩
                refine q_getI (Sh.int hI8038.1 kx_231 rfl) v8040 ((gI_sJ_ne (by decide)).trans hv8040) ?_
                refine r_ifs 104 rfl (fun c8041 => ?_) (fun c8041 => ?_)
                · have c8041_ : v8040.toInt ≠ 0 := en_k_ne_t c8041
                  refine At.enter rfl ?_
                  refine r_iconst 0 rfl ?_
                  refine Ar.fall 109 rfl ?_
                  refine At.enter rfl ?_
                  refine q_iretz (by decide) ?_
                  refine At.enter rfl ?_
                  refine r_ift (by decide) ?_
                  refine At.enter rfl ?_
                  refine q_iinc (w_p1 (by decide) (Or.inr rfl) e7999) (x7982.toInt + 1) rfl (by omega) (fun v8042 hv8042 => ?_)
                  refine r_goto ?_
                  exact ih7988 (12 - v8042.toInt) _ _ ⟨x7981, v8042, by first | rfl | omega, hI8038, hF8039, (((gI_sJ_ne (by decide)).trans (hF8033.1 231 27 (by decide))).trans e7989), (w_p1 (by decide) (Or.inr rfl) (w_p1 (by decide) (Or.inr rfl) e7990)), (w_p1 (by decide) (Or.inr rfl) (w_p1 (by decide) (Or.inr rfl) e7991)), (w_p1 (by decide) (Or.inr rfl) (w_p1 (by decide) (Or.inr rfl) e7992)), (w_p1 (by decide) (Or.inr rfl) (w_p1 (by decide) (Or.inr rfl) e7993)), (w_p1 (by decide) (Or.inr rfl) (w_p1 (by decide) (Or.inr rfl) e7994)), (w_p1 (by decide) (Or.inr rfl) (w_p1 (by decide) (Or.inr rfl) e7995)), (w_p1 (by decide) (Or.inl (by decide)) (w_p1 (by decide) (Or.inl (by decide)) e7996)), (w_p1 (by decide) (Or.inr rfl) (w_p1 (by decide) (Or.inr rfl) e7997)), (w_p1 (by decide) (Or.inl (by decide)) (w_p1 (by decide) (Or.inl (by decide)) e7998)), (w_e1 _ _ _), by omega⟩ ⟨by omega, by omega⟩
                · have c8041_ : v8040.toInt = 0 := en_k_ne_f c8041
                  refine At.enter rfl ?_
                  refine r_iconst 1 rfl ?_
                  refine r_goto ?_
                  refine At.enter rfl ?_
                  refine q_iretz (by decide) ?_
                  refine At.enter rfl ?_
                  refine r_iff 209 rfl (by decide) ?_
                  refine At.enter rfl ?_
                  refine r_iload_n (w_p1 (by decide) (Or.inr rfl) e7991) ?_
                  refine r_iconst 2 rfl ?_
                  refine r_ics 214 rfl (fun c8043 => ?_) (fun c8043 => ?_)
                  · have c8043_ : a1.toInt ≥ 2 := en_i_ge_t c8043
                    refine At.enter rfl ?_
                    refine r_lconst 1 rfl ?_
                    refine Ar.fall 222 rfl ?_
                    refine At.enter rfl ?_
                    refine r_lstore _ rfl ?_
                    refine Ar.fall 224 rfl ?_
                    refine At.enter rfl ?_
                    refine q_iinc (w_p2 (by decide) (by decide) (Or.inr rfl) (w_p1 (by decide) (Or.inr rfl) e7999)) (x7982.toInt + 1) rfl (by omega) (fun v8044 hv8044 => ?_)
                    refine r_goto ?_
                    exact ih7988 (12 - v8044.toInt) _ _ ⟨1, v8044, by first | rfl | omega, hI8038, hF8039, (((gI_sJ_ne (by decide)).trans (hF8033.1 231 27 (by decide))).trans e7989), (w_p1 (by decide) (Or.inr rfl) (w_p2 (by decide) (by decide) (Or.inr rfl) (w_p1 (by decide) (Or.inr rfl) e7990))), (w_p1 (by decide) (Or.inr rfl) (w_p2 (by decide) (by decide) (Or.inr rfl) (w_p1 (by decide) (Or.inr rfl) e7991))), (w_p1 (by decide) (Or.inr rfl) (w_p2 (by decide) (by decide) (Or.inr rfl) (w_p1 (by decide) (Or.inr rfl) e7992))), (w_p1 (by decide) (Or.inr rfl) (w_p2 (by decide) (by decide) (Or.inr rfl) (w_p1 (by decide) (Or.inr rfl) e7993))), (w_p1 (by decide) (Or.inr rfl) (w_p2 (by decide) (by decide) (Or.inr rfl) (w_p1 (by decide) (Or.inr rfl) e7994))), (w_p1 (by decide) (Or.inr rfl) (w_p2 (by decide) (by decide) (Or.inr rfl) (w_p1 (by decide) (Or.inr rfl) e7995))), (w_p1 (by decide) (Or.inl (by decide)) (w_p2 (by decide) (by decide) (Or.inl (by decide)) (w_p1 (by decide) (Or.inl (by decide)) e7996))), (w_p1 (by decide) (Or.inr rfl) (w_p2 (by decide) (by decide) (Or.inr rfl) (w_p1 (by decide) (Or.inr rfl) e7997))), (w_p1 (by decide) (Or.inl (by decide)) (w_e2 _ _ _)), (w_e1 _ _ _), by omega⟩ ⟨by omega, by omega⟩
                  · have c8043_ : a1.toInt < 2 := en_i_ge_f c8043
                    refine At.enter rfl ?_
                    refine r_aload_n (w_p1 (by decide) (Or.inr rfl) e7990) ?_
                    refine q_getJ (Sh.long hI8038.1 kx_231 rfl) (fun v8045 => ?_)
                    refine r_goto ?_
                    refine At.enter rfl ?_
                    refine r_lstore _ rfl ?_
                    refine Ar.fall 224 rfl ?_
                    refine At.enter rfl ?_
                    refine q_iinc (w_p2 (by decide) (by decide) (Or.inr rfl) (w_p1 (by decide) (Or.inr rfl) e7999)) (x7982.toInt + 1) rfl (by omega) (fun v8046 hv8046 => ?_)
                    refine r_goto ?_
                    exact ih7988 (12 - v8046.toInt) _ _ ⟨v8045, v8046, by first | rfl | omega, hI8038, hF8039, (((gI_sJ_ne (by decide)).trans (hF8033.1 231 27 (by decide))).trans e7989), (w_p1 (by decide) (Or.inr rfl) (w_p2 (by decide) (by decide) (Or.inr rfl) (w_p1 (by decide) (Or.inr rfl) e7990))), (w_p1 (by decide) (Or.inr rfl) (w_p2 (by decide) (by decide) (Or.inr rfl) (w_p1 (by decide) (Or.inr rfl) e7991))), (w_p1 (by decide) (Or.inr rfl) (w_p2 (by decide) (by decide) (Or.inr rfl) (w_p1 (by decide) (Or.inr rfl) e7992))), (w_p1 (by decide) (Or.inr rfl) (w_p2 (by decide) (by decide) (Or.inr rfl) (w_p1 (by decide) (Or.inr rfl) e7993))), (w_p1 (by decide) (Or.inr rfl) (w_p2 (by decide) (by decide) (Or.inr rfl) (w_p1 (by decide) (Or.inr rfl) e7994))), (w_p1 (by decide) (Or.inr rfl) (w_p2 (by decide) (by decide) (Or.inr rfl) (w_p1 (by decide) (Or.inr rfl) e7995))), (w_p1 (by decide) (Or.inl (by decide)) (w_p2 (by decide) (by decide) (Or.inl (by decide)) (w_p1 (by decide) (Or.inl (by decide)) e7996))), (w_p1 (by decide) (Or.inr rfl) (w_p2 (by decide) (by decide) (Or.inr rfl) (w_p1 (by decide) (Or.inr rfl) e7997))), (w_p1 (by decide) (Or.inl (by decide)) (w_e2 _ _ _)), (w_e1 _ _ _), by omega⟩ ⟨by omega, by omega⟩
            · have c8019_ : v8016.toInt < v8018.toInt := en_i_ge_f c8019
              refine At.enter rfl ?_
              refine r_aload_n rfl ?_
              refine r_aload_n rfl ?_
              refine q_getR (Sh.ref hI7984.1 kx_231 rfl) ?_
              refine r_iload_n rfl ?_
              refine r_iconst 5 rfl ?_
              refine q_iadd (v8011.toInt + 5) rfl (by omega) (fun v8047 hv8047 => ?_)
              refine q_iald (Sh.arr hI7984.1 ka_233) (900 * v5391.toInt + 8 * x7982.toInt + 117) (by omega) (by omega) v8016 ((eA_c (hF7985.2.1 233 (by decide))).trans hv8016) ?_
              refine r_aload_n rfl ?_
              refine q_getR (Sh.ref hI7984.1 kx_231 rfl) ?_
              refine r_iload_n rfl ?_
              refine r_bipush 6 rfl ?_
              refine q_iadd (v8011.toInt + 6) rfl (by omega) (fun v8048 hv8048 => ?_)
              refine q_iald (Sh.arr hI7984.1 ka_233) (900 * v5391.toInt + 8 * x7982.toInt + 118) (by omega) (by omega) v8018 ((eA_c (hF7985.2.1 233 (by decide))).trans hv8018) ?_
              refine r_callV 41 rfl [.ref 231, .int v8016, .int v8018] [] (Nat.le_of_ble_eq_true rfl) rfl (T_X11_reckonAll_231 _ hI7984 v8016 v8018 (HI.code hI0 (j := v5391.toInt) (c := x7982.toInt) ⟨by omega, by omega⟩ (hF7985.2.1 233 (by decide)) (by rw [e7989]; omega) (i := (900 * v5391.toInt + 111)) (by omega) (congrArg Int32.toInt hv8005) ⟨by omega, by omega⟩ (i3 := (900 * v5391.toInt + 8 * x7982.toInt + 117)) (i4 := (900 * v5391.toInt + 8 * x7982.toInt + 118)) 5 (by decide) (by omega) (by omega) (congrArg Int32.toInt hv8016) (congrArg Int32.toInt hv8018))) ?_
              rintro _ _ ⟨g8049, rfl, hI8050, hF8051, rfl⟩
              refine At.stn ?_
              have hF8054 := Fr.tr hF7985 hF8051 rfl rfl
              refine At.enter rfl ?_
              refine r_aload_n rfl ?_
              obtain ⟨v8055, hv8055⟩ : ∃ v, gI g8049 231 30 = v := ⟨_, rfl⟩
              refine q_getI (Sh.int hI8050.1 kx_231 rfl) v8055 hv8055 ?_
              refine r_ifs 48 rfl (fun c8056 => ?_) (fun c8056 => ?_)
              · have c8056_ : v8055.toInt ≠ 0 := en_k_ne_t c8056
                refine At.enter rfl ?_
                refine r_iconst 0 rfl ?_
                refine q_iretz (by decide) ?_
                refine At.enter rfl ?_
                refine r_ift (by decide) ?_
                refine At.enter rfl ?_
                refine q_iinc (w_p1 (by decide) (Or.inr rfl) e7999) (x7982.toInt + 1) rfl (by omega) (fun v8057 hv8057 => ?_)
                refine r_goto ?_
                exact ih7988 (12 - v8057.toInt) _ _ ⟨x7981, v8057, by first | rfl | omega, hI8050, hF8054, ((hF8051.1 231 27 (by decide)).trans e7989), (w_p1 (by decide) (Or.inr rfl) (w_p1 (by decide) (Or.inr rfl) e7990)), (w_p1 (by decide) (Or.inr rfl) (w_p1 (by decide) (Or.inr rfl) e7991)), (w_p1 (by decide) (Or.inr rfl) (w_p1 (by decide) (Or.inr rfl) e7992)), (w_p1 (by decide) (Or.inr rfl) (w_p1 (by decide) (Or.inr rfl) e7993)), (w_p1 (by decide) (Or.inr rfl) (w_p1 (by decide) (Or.inr rfl) e7994)), (w_p1 (by decide) (Or.inr rfl) (w_p1 (by decide) (Or.inr rfl) e7995)), (w_p1 (by decide) (Or.inl (by decide)) (w_p1 (by decide) (Or.inl (by decide)) e7996)), (w_p1 (by decide) (Or.inr rfl) (w_p1 (by decide) (Or.inr rfl) e7997)), (w_p1 (by decide) (Or.inl (by decide)) (w_p1 (by decide) (Or.inl (by decide)) e7998)), (w_e1 _ _ _), by omega⟩ ⟨by omega, by omega⟩
              · have c8056_ : v8055.toInt = 0 := en_k_ne_f c8056
                refine At.enter rfl ?_
                refine r_aload_n rfl ?_
                refine q_getJ (Sh.long hI8050.1 kx_231 rfl) (fun v8058 => ?_)
                refine r_lconst 0 rfl ?_
                refine r_lcmp _ rfl ?_
                refine r_ifs 57 rfl (fun c8059 => ?_) (fun c8059 => ?_)
                · have c8059_ : v8058.toInt ≠ 0 := en_j_ne_t c8059
                  refine At.enter rfl ?_
                  refine r_aload_n rfl ?_
                  refine q_getR (Sh.ref hI8050.1 kx_231 rfl) ?_
                  refine r_iload_n rfl ?_
                  refine q_iald (Sh.arr hI8050.1 ka_233) (900 * v5391.toInt + 8 * x7982.toInt + 112) (by omega) (by omega) v8012 ((eA_c ((hF8051.2.1 233 (by decide)).trans (hF7985.2.1 233 (by decide)))).trans hv8012) ?_
                  refine r_iconst 2 rfl ?_
                  refine r_ics 69 rfl (fun c8060 => ?_) (fun c8060 => ?_)
                  · have c8060_ : v8012.toInt ≥ 2 := en_i_ge_t c8060
                    refine At.enter rfl ?_
                    refine r_iconst 1 rfl ?_
                    refine q_iretz (by decide) ?_
                    refine At.enter rfl ?_
                    refine r_iff 209 rfl (by decide) ?_
                    refine At.enter rfl ?_
                    refine r_iload_n (w_p1 (by decide) (Or.inr rfl) e7991) ?_
                    refine r_iconst 2 rfl ?_
                    refine r_ics 214 rfl (fun c8061 => ?_) (fun c8061 => ?_)
                    · have c8061_ : a1.toInt ≥ 2 := en_i_ge_t c8061
                      refine At.enter rfl ?_
                      refine r_lconst 1 rfl ?_
                      refine Ar.fall 222 rfl ?_
                      refine At.enter rfl ?_
                      refine r_lstore _ rfl ?_
                      refine Ar.fall 224 rfl ?_
                      refine At.enter rfl ?_
                      refine q_iinc (w_p2 (by decide) (by decide) (Or.inr rfl) (w_p1 (by decide) (Or.inr rfl) e7999)) (x7982.toInt + 1) rfl (by omega) (fun v8062 hv8062 => ?_)
                      refine r_goto ?_
                      exact ih7988 (12 - v8062.toInt) _ _ ⟨1, v8062, by first | rfl | omega, hI8050, hF8054, ((hF8051.1 231 27 (by decide)).trans e7989), (w_p1 (by decide) (Or.inr rfl) (w_p2 (by decide) (by decide) (Or.inr rfl) (w_p1 (by decide) (Or.inr rfl) e7990))), (w_p1 (by decide) (Or.inr rfl) (w_p2 (by decide) (by decide) (Or.inr rfl) (w_p1 (by decide) (Or.inr rfl) e7991))), (w_p1 (by decide) (Or.inr rfl) (w_p2 (by decide) (by decide) (Or.inr rfl) (w_p1 (by decide) (Or.inr rfl) e7992))), (w_p1 (by decide) (Or.inr rfl) (w_p2 (by decide) (by decide) (Or.inr rfl) (w_p1 (by decide) (Or.inr rfl) e7993))), (w_p1 (by decide) (Or.inr rfl) (w_p2 (by decide) (by decide) (Or.inr rfl) (w_p1 (by decide) (Or.inr rfl) e7994))), (w_p1 (by decide) (Or.inr rfl) (w_p2 (by decide) (by decide) (Or.inr rfl) (w_p1 (by decide) (Or.inr rfl) e7995))), (w_p1 (by decide) (Or.inl (by decide)) (w_p2 (by decide) (by decide) (Or.inl (by decide)) (w_p1 (by decide) (Or.inl (by decide)) e7996))), (w_p1 (by decide) (Or.inr rfl) (w_p2 (by decide) (by decide) (Or.inr rfl) (w_p1 (by decide) (Or.inr rfl) e7997))), (w_p1 (by decide) (Or.inl (by decide)) (w_e2 _ _ _)), (w_e1 _ _ _), by omega⟩ ⟨by omega, by omega⟩
                    · have c8061_ : a1.toInt < 2 := en_i_ge_f c8061
                      refine At.enter rfl ?_
                      refine r_aload_n (w_p1 (by decide) (Or.inr rfl) e7990) ?_
                      refine q_getJ (Sh.long hI8050.1 kx_231 rfl) (fun v8063 => ?_)
                      refine r_goto ?_
                      refine At.enter rfl ?_
                      refine r_lstore _ rfl ?_
                      refine Ar.fall 224 rfl ?_
                      refine At.enter rfl ?_
                      refine q_iinc (w_p2 (by decide) (by decide) (Or.inr rfl) (w_p1 (by decide) (Or.inr rfl) e7999)) (x7982.toInt + 1) rfl (by omega) (fun v8064 hv8064 => ?_)
                      refine r_goto ?_
                      exact ih7988 (12 - v8064.toInt) _ _ ⟨v8063, v8064, by first | rfl | omega, hI8050, hF8054, ((hF8051.1 231 27 (by decide)).trans e7989), (w_p1 (by decide) (Or.inr rfl) (w_p2 (by decide) (by decide) (Or.inr rfl) (w_p1 (by decide) (Or.inr rfl) e7990))), (w_p1 (by decide) (Or.inr rfl) (w_p2 (by decide) (by decide) (Or.inr rfl) (w_p1 (by decide) (Or.inr rfl) e7991))), (w_p1 (by decide) (Or.inr rfl) (w_p2 (by decide) (by decide) (Or.inr rfl) (w_p1 (by decide) (Or.inr rfl) e7992))), (w_p1 (by decide) (Or.inr rfl) (w_p2 (by decide) (by decide) (Or.inr rfl) (w_p1 (by decide) (Or.inr rfl) e7993))), (w_p1 (by decide) (Or.inr rfl) (w_p2 (by decide) (by decide) (Or.inr rfl) (w_p1 (by decide) (Or.inr rfl) e7994))), (w_p1 (by decide) (Or.inr rfl) (w_p2 (by decide) (by decide) (Or.inr rfl) (w_p1 (by decide) (Or.inr rfl) e7995))), (w_p1 (by decide) (Or.inl (by decide)) (w_p2 (by decide) (by decide) (Or.inl (by decide)) (w_p1 (by decide) (Or.inl (by decide)) e7996))), (w_p1 (by decide) (Or.inr rfl) (w_p2 (by decide) (by decide) (Or.inr rfl) (w_p1 (by decide) (Or.inr rfl) e7997))), (w_p1 (by decide) (Or.inl (by decide)) (w_e2 _ _ _)), (w_e1 _ _ _), by omega⟩ ⟨by omega, by omega⟩
                  · have c8060_ : v8012.toInt < 2 := en_i_ge_f c8060
                    refine At.enter rfl ?_
                    refine r_aload_n rfl ?_
                    refine r_aload_n rfl ?_
                    refine q_getR (Sh.ref hI8050.1 kx_231 rfl) ?_
                    refine r_iload_n rfl ?_
                    refine r_iconst 3 rfl ?_
                    refine q_iadd (v8011.toInt + 3) rfl (by omega) (fun v8065 hv8065 => ?_)
                    obtain ⟨v8066, hv8066⟩ : ∃ v, eA g0 233 (900 * v5391.toInt + 8 * x7982.toInt + 115) = v := ⟨_, rfl⟩
                    refine q_iald (Sh.arr hI8050.1 ka_233) (900 * v5391.toInt + 8 * x7982.toInt + 115) (by omega) (by omega) v8066 ((eA_c ((hF8051.2.1 233 (by decide)).trans (hF7985.2.1 233 (by decide)))).trans hv8066) ?_
                    refine r_aload_n rfl ?_
                    refine q_getR (Sh.ref hI8050.1 kx_231 rfl) ?_
                    refine r_iload_n rfl ?_
                    refine r_iconst 4 rfl ?_
                    refine q_iadd (v8011.toInt + 4) rfl (by omega) (fun v8067 hv8067 => ?_)
                    obtain ⟨v8068, hv8068⟩ : ∃ v, eA g0 233 (900 * v5391.toInt + 8 * x7982.toInt + 116) = v := ⟨_, rfl⟩
                    refine q_iald (Sh.arr hI8050.1 ka_233) (900 * v5391.toInt + 8 * x7982.toInt + 116) (by omega) (by omega) v8068 ((eA_c ((hF8051.2.1 233 (by decide)).trans (hF7985.2.1 233 (by decide)))).trans hv8068) ?_
                    refine r_callV 89 rfl [.ref 231, .int v8066, .int v8068] [] (Nat.le_of_ble_eq_true rfl) rfl (T_X11_reckonAll_231 _ hI8050 v8066 v8068 (HI.code hI0 (j := v5391.toInt) (c := x7982.toInt) ⟨by omega, by omega⟩ ((hF8051.2.1 233 (by decide)).trans (hF7985.2.1 233 (by decide))) (by rw [((hF8051.1 231 27 (by decide)).trans e7989)]; omega) (i := (900 * v5391.toInt + 111)) (by omega) (congrArg Int32.toInt hv8005) ⟨by omega, by omega⟩ (i3 := (900 * v5391.toInt + 8 * x7982.toInt + 115)) (i4 := (900 * v5391.toInt + 8 * x7982.toInt + 116)) 3 (by decide) (by omega) (by omega) (congrArg Int32.toInt hv8066) (congrArg Int32.toInt hv8068))) ?_
                    rintro _ _ ⟨g8069, rfl, hI8070, hF8071, rfl⟩
                    refine At.stn ?_
                    have hF8074 := Fr.tr hF8054 hF8071 rfl rfl
                    refine At.enter rfl ?_
                    refine r_aload_n rfl ?_
                    refine r_aload_n rfl ?_
                    refine q_getJ (Sh.long hI8070.1 kx_231 rfl) (fun v8075 => ?_)
                    refine q_putJ (Sh.long hI8070.1 kx_231 rfl) rfl ?_
                    have hI8076 := HI.wJ hI8070 kx_231 rfl (p := 231) (b := 32) (v := v8075)
                    have hF8077 := Fr.wJ (p := 231) (b := 32) (v := v8075) hF8074 rfl
                    refine r_aload_n rfl ?_
                    obtain ⟨v8078, hv8078⟩ : ∃ v, gI g8069 231 30 = v := ⟨_, rfl⟩
                    refine q_getI (Sh.int hI8076.1 kx_231 rfl) v8078 ((gI_sJ_ne (by decide)).trans hv8078) ?_
                    refine r_ifs 104 rfl (fun c8079 => ?_) (fun c8079 => ?_)
                    · have c8079_ : v8078.toInt ≠ 0 := en_k_ne_t c8079
                      refine At.enter rfl ?_
                      refine r_iconst 0 rfl ?_
                      refine Ar.fall 109 rfl ?_
                      refine At.enter rfl ?_
                      refine q_iretz (by decide) ?_
                      refine At.enter rfl ?_
                      refine r_ift (by decide) ?_
                      refine At.enter rfl ?_
                      refine q_iinc (w_p1 (by decide) (Or.inr rfl) e7999) (x7982.toInt + 1) rfl (by omega) (fun v8080 hv8080 => ?_)
                      refine r_goto ?_
                      exact ih7988 (12 - v8080.toInt) _ _ ⟨x7981, v8080, by first | rfl | omega, hI8076, hF8077, (((gI_sJ_ne (by decide)).trans ((hF8071.1 231 27 (by decide)).trans (hF8051.1 231 27 (by decide)))).trans e7989), (w_p1 (by decide) (Or.inr rfl) (w_p1 (by decide) (Or.inr rfl) e7990)), (w_p1 (by decide) (Or.inr rfl) (w_p1 (by decide) (Or.inr rfl) e7991)), (w_p1 (by decide) (Or.inr rfl) (w_p1 (by decide) (Or.inr rfl) e7992)), (w_p1 (by decide) (Or.inr rfl) (w_p1 (by decide) (Or.inr rfl) e7993)), (w_p1 (by decide) (Or.inr rfl) (w_p1 (by decide) (Or.inr rfl) e7994)), (w_p1 (by decide) (Or.inr rfl) (w_p1 (by decide) (Or.inr rfl) e7995)), (w_p1 (by decide) (Or.inl (by decide)) (w_p1 (by decide) (Or.inl (by decide)) e7996)), (w_p1 (by decide) (Or.inr rfl) (w_p1 (by decide) (Or.inr rfl) e7997)), (w_p1 (by decide) (Or.inl (by decide)) (w_p1 (by decide) (Or.inl (by decide)) e7998)), (w_e1 _ _ _), by omega⟩ ⟨by omega, by omega⟩
                    · have c8079_ : v8078.toInt = 0 := en_k_ne_f c8079
                      refine At.enter rfl ?_
                      refine r_iconst 1 rfl ?_
                      refine r_goto ?_
                      refine At.enter rfl ?_
                      refine q_iretz (by decide) ?_
                      refine At.enter rfl ?_
                      refine r_iff 209 rfl (by decide) ?_
                      refine At.enter rfl ?_
                      refine r_iload_n (w_p1 (by decide) (Or.inr rfl) e7991) ?_
                      refine r_iconst 2 rfl ?_
                      refine r_ics 214 rfl (fun c8081 => ?_) (fun c8081 => ?_)
                      · have c8081_ : a1.toInt ≥ 2 := en_i_ge_t c8081
                        refine At.enter rfl ?_
                        refine r_lconst 1 rfl ?_
                        refine Ar.fall 222 rfl ?_
                        refine At.enter rfl ?_
                        refine r_lstore _ rfl ?_
                        refine Ar.fall 224 rfl ?_
                        refine At.enter rfl ?_
                        refine q_iinc (w_p2 (by decide) (by decide) (Or.inr rfl) (w_p1 (by decide) (Or.inr rfl) e7999)) (x7982.toInt + 1) rfl (by omega) (fun v8082 hv8082 => ?_)
                        refine r_goto ?_
                        exact ih7988 (12 - v8082.toInt) _ _ ⟨1, v8082, by first | rfl | omega, hI8076, hF8077, (((gI_sJ_ne (by decide)).trans ((hF8071.1 231 27 (by decide)).trans (hF8051.1 231 27 (by decide)))).trans e7989), (w_p1 (by decide) (Or.inr rfl) (w_p2 (by decide) (by decide) (Or.inr rfl) (w_p1 (by decide) (Or.inr rfl) e7990))), (w_p1 (by decide) (Or.inr rfl) (w_p2 (by decide) (by decide) (Or.inr rfl) (w_p1 (by decide) (Or.inr rfl) e7991))), (w_p1 (by decide) (Or.inr rfl) (w_p2 (by decide) (by decide) (Or.inr rfl) (w_p1 (by decide) (Or.inr rfl) e7992))), (w_p1 (by decide) (Or.inr rfl) (w_p2 (by decide) (by decide) (Or.inr rfl) (w_p1 (by decide) (Or.inr rfl) e7993))), (w_p1 (by decide) (Or.inr rfl) (w_p2 (by decide) (by decide) (Or.inr rfl) (w_p1 (by decide) (Or.inr rfl) e7994))), (w_p1 (by decide) (Or.inr rfl) (w_p2 (by decide) (by decide) (Or.inr rfl) (w_p1 (by decide) (Or.inr rfl) e7995))), (w_p1 (by decide) (Or.inl (by decide)) (w_p2 (by decide) (by decide) (Or.inl (by decide)) (w_p1 (by decide) (Or.inl (by decide)) e7996))), (w_p1 (by decide) (Or.inr rfl) (w_p2 (by decide) (by decide) (Or.inr rfl) (w_p1 (by decide) (Or.inr rfl) e7997))), (w_p1 (by decide) (Or.inl (by decide)) (w_e2 _ _ _)), (w_e1 _ _ _), by omega⟩ ⟨by omega, by omega⟩
                      · have c8081_ : a1.toInt < 2 := en_i_ge_f c8081
                        refine At.enter rfl ?_
                        refine r_aload_n (w_p1 (by decide) (Or.inr rfl) e7990) ?_
                        refine q_getJ (Sh.long hI8076.1 kx_231 rfl) (fun v8083 => ?_)
                        refine r_goto ?_
                        refine At.enter rfl ?_
                        refine r_lstore _ rfl ?_
                        refine Ar.fall 224 rfl ?_
                        refine At.enter rfl ?_
                        refine q_iinc (w_p2 (by decide) (by decide) (Or.inr rfl) (w_p1 (by decide) (Or.inr rfl) e7999)) (x7982.toInt + 1) rfl (by omega) (fun v8084 hv8084 => ?_)
                        refine r_goto ?_
                        exact ih7988 (12 - v8084.toInt) _ _ ⟨v8083, v8084, by first | rfl | omega, hI8076, hF8077, (((gI_sJ_ne (by decide)).trans ((hF8071.1 231 27 (by decide)).trans (hF8051.1 231 27 (by decide)))).trans e7989), (w_p1 (by decide) (Or.inr rfl) (w_p2 (by decide) (by decide) (Or.inr rfl) (w_p1 (by decide) (Or.inr rfl) e7990))), (w_p1 (by decide) (Or.inr rfl) (w_p2 (by decide) (by decide) (Or.inr rfl) (w_p1 (by decide) (Or.inr rfl) e7991))), (w_p1 (by decide) (Or.inr rfl) (w_p2 (by decide) (by decide) (Or.inr rfl) (w_p1 (by decide) (Or.inr rfl) e7992))), (w_p1 (by decide) (Or.inr rfl) (w_p2 (by decide) (by decide) (Or.inr rfl) (w_p1 (by decide) (Or.inr rfl) e7993))), (w_p1 (by decide) (Or.inr rfl) (w_p2 (by decide) (by decide) (Or.inr rfl) (w_p1 (by decide) (Or.inr rfl) e7994))), (w_p1 (by decide) (Or.inr rfl) (w_p2 (by decide) (by decide) (Or.inr rfl) (w_p1 (by decide) (Or.inr rfl) e7995))), (w_p1 (by decide) (Or.inl (by decide)) (w_p2 (by decide) (by decide) (Or.inl (by decide)) (w_p1 (by decide) (Or.inl (by decide)) e7996))), (w_p1 (by decide) (Or.inr rfl) (w_p2 (by decide) (by decide) (Or.inr rfl) (w_p1 (by decide) (Or.inr rfl) e7997))), (w_p1 (by decide) (Or.inl (by decide)) (w_e2 _ _ _)), (w_e1 _ _ _), by omega⟩ ⟨by omega, by omega⟩
                · have c8059_ : v8058.toInt = 0 := en_j_ne_f c8059
                  refine At.enter rfl ?_
                  refine r_iconst 0 rfl ?_
                  refine q_iretz (by decide) ?_
                  refine At.enter rfl ?_
                  refine r_ift (by decide) ?_
                  refine At.enter rfl ?_
                  refine q_iinc (w_p1 (by decide) (Or.inr rfl) e7999) (x7982.toInt + 1) rfl (by omega) (fun v8085 hv8085 => ?_)
                  refine r_goto ?_
                  exact ih7988 (12 - v8085.toInt) _ _ ⟨x7981, v8085, by first | rfl | omega, hI8050, hF8054, ((hF8051.1 231 27 (by decide)).trans e7989), (w_p1 (by decide) (Or.inr rfl) (w_p1 (by decide) (Or.inr rfl) e7990)), (w_p1 (by decide) (Or.inr rfl) (w_p1 (by decide) (Or.inr rfl) e7991)), (w_p1 (by decide) (Or.inr rfl) (w_p1 (by decide) (Or.inr rfl) e7992)), (w_p1 (by decide) (Or.inr rfl) (w_p1 (by decide) (Or.inr rfl) e7993)), (w_p1 (by decide) (Or.inr rfl) (w_p1 (by decide) (Or.inr rfl) e7994)), (w_p1 (by decide) (Or.inr rfl) (w_p1 (by decide) (Or.inr rfl) e7995)), (w_p1 (by decide) (Or.inl (by decide)) (w_p1 (by decide) (Or.inl (by decide)) e7996)), (w_p1 (by decide) (Or.inr rfl) (w_p1 (by decide) (Or.inr rfl) e7997)), (w_p1 (by decide) (Or.inl (by decide)) (w_p1 (by decide) (Or.inl (by decide)) e7998)), (w_e1 _ _ _), by omega⟩ ⟨by omega, by omega⟩
  · have c5392_ : v5391.toInt = (-1) := en_i_ne_f c5392
    refine At.enter rfl ?_
    refine r_lload rfl ?_
    refine r_lret ?_
    exact ⟨_, rfl, hI0, hF0, _, rfl, trivial⟩
