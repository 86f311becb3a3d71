def F_X11_tell_231 : List (Nat × Nat) := [(231, 1)]
def A_X11_tell_231 : List Nat := [232]
set_option maxRecDepth 100000 in
set_option maxHeartbeats 4000000 in
theorem T_X11_tell_231 (d : Nat) {N : Nat} {g0 : List en_E} (hI0 : HI g0) (a1 : Int32) (h_a1 : (-6) ≤ a1.toInt ∧ a1.toInt ≤ 2147483647) : Ev (d + 1) 162 [.ref 231, .int a1] (g0, N) (fun w h' => ∃ g', h' = (g', N) ∧ HI g' ∧ Fr F_X11_tell_231 A_X11_tell_231 g0 g' ∧ ∃ r : Int32, w = some (.int r) ∧ ((-6) ≤ r.toInt) ∧ (r.toInt = a1.toInt)) := by
  have hF0 : Fr F_X11_tell_231 A_X11_tell_231 g0 g0 := Fr.rf
  refine Ev.mk rfl rfl ⟨Nat.le_of_ble_eq_true rfl, Or.inr (q_rc hI0.1 kx_231 rfl)⟩ ?_
  show At _ none _ _ (0, [(0, .ref 231), (1, .int a1)], [], (_, _)) _
  refine At.enter rfl ?_
  refine r_aload_n rfl ?_
  refine r_iload_n rfl ?_
  refine r_ifs 5 rfl (fun c25 => ?_) (fun c25 => ?_)
  · have c25_ : a1.toInt ≥ 0 := en_k_ge_t c25
    refine At.enter rfl ?_
    refine r_iconst 0 rfl ?_
    refine Ar.fall 10 rfl ?_
    refine At.enter rfl ?_
    refine q_putI (Sh.int hI0.1 kx_231 rfl) rfl ?_
    have hI26 := HI.wI0 hI0 kx_231 rfl (p := 231) (b := 1) (v := 0) rfl
    have hF27 := Fr.wI (p := 231) (b := 1) (v := 0) hF0 rfl
    refine r_iload_n rfl ?_
    refine r_ifs 17 rfl (fun c28 => ?_) (fun c28 => ?_)
    · have c28_ : a1.toInt ≥ 0 := en_k_ge_t c28
      refine At.enter rfl ?_
      refine r_iload_n rfl ?_
      refine r_ireti ?_
      exact ⟨_, rfl, hI26, hF27, _, rfl, by omega, (by omega)⟩
    · have c28_ : a1.toInt < 0 := en_k_ge_f c28
      exfalso; omega
  · have c25_ : a1.toInt < 0 := en_k_ge_f c25
    refine At.enter rfl ?_
    refine r_iload_n rfl ?_
    refine r_goto ?_
    refine At.enter rfl ?_
    refine q_putI (Sh.int hI0.1 kx_231 rfl) rfl ?_
    have hI29 := HI.wI0 hI0 kx_231 rfl (p := 231) (b := 1) (v := a1) rfl
    have hF30 := Fr.wI (p := 231) (b := 1) (v := a1) hF0 rfl
    refine r_iload_n rfl ?_
    refine r_ifs 17 rfl (fun c31 => ?_) (fun c31 => ?_)
    · have c31_ : a1.toInt ≥ 0 := en_k_ge_t c31
      exfalso; omega
    · have c31_ : a1.toInt < 0 := en_k_ge_f c31
      refine At.enter rfl ?_
      refine r_aload_n rfl ?_
      refine q_getR (Sh.ref hI29.1 kx_231 rfl) ?_
      refine r_iload_n rfl ?_
      refine q_ineg (-a1.toInt) rfl (by omega) (fun v32 hv32 => ?_)
      refine r_dup2 ⟨rfl, rfl⟩ ?_
      obtain ⟨v33, hv33⟩ : ∃ v, eA g0 232 ((-1) * a1.toInt) = v := ⟨_, rfl⟩
      refine q_iald (Sh.arr hI29.1 ka_232) ((-1) * a1.toInt) (by omega) (by omega) v33 ((eA_c (gA_sI)).trans hv33) ?_
      refine r_iconst 1 rfl ?_
      refine q_iaddO (fun v34 _ => ?_)
      refine q_iast (Sh.arr hI29.1 ka_232) (((-1) * a1.toInt)) (by omega) (by omega) ?_
      have hI35 := HI.wA0 hI29 ka_232 (p := 232) rfl rfl (((-1) * a1.toInt)) (v34)
      have hF36 := Fr.wA (p := 232) (j := ((-1) * a1.toInt)) (v := v34) hF30 rfl
      refine Ar.fall 28 rfl ?_
      refine At.enter rfl ?_
      refine r_iload_n rfl ?_
      refine r_ireti ?_
      exact ⟨_, rfl, hI35, hF36, _, rfl, by omega, (by omega)⟩

def F_X11_is_hb : List (Nat × Nat) := []
def A_X11_is_hb : List Nat := []
set_option maxRecDepth 100000 in
set_option maxHeartbeats 4000000 in
theorem T_X11_is_hb (d : Nat) {N : Nat} {g0 : List en_E} (hI0 : HI g0) (a0 : Int32) (a1 : Int32) : Ev (d + 1) 160 [.int a0, .int a1] (g0, N) (fun w h' => ∃ g', h' = (g', N) ∧ HI g' ∧ Fr F_X11_is_hb A_X11_is_hb g0 g' ∧ ∃ r : Int32, w = some (.int r) ∧ (0 ≤ r.toInt ∧ r.toInt ≤ 1) ∧ (BL (hbI a0 a1.toInt) r.toInt)) := by
  have hF0 : Fr F_X11_is_hb A_X11_is_hb g0 g0 := Fr.rf
  refine Ev.mk rfl rfl ⟨Nat.le_of_ble_eq_true rfl, Or.inl rfl⟩ ?_
  show At _ none _ _ (0, [(0, .int a0), (1, .int a1)], [], (_, _)) _
  refine At.enter rfl ?_
  refine r_iload_n rfl ?_
  refine r_iload_n rfl ?_
  refine q_ishrO (fun v7 hv7 => ?_)
  refine r_iconst 1 rfl ?_
  refine q_iandO (fun v8 hv8 => ?_)
  refine r_iconst 1 rfl ?_
  refine r_ics 9 rfl (fun c9 => ?_) (fun c9 => ?_)
  · have c9_ : v8.toInt ≠ 1 := en_i_ne_t c9
    refine At.enter rfl ?_
    refine r_iconst 0 rfl ?_
    refine Ar.fall 14 rfl ?_
    refine At.enter rfl ?_
    refine r_iretz (by decide) ?_
    have zv10 : (0 : Int32).toInt = 0 := rfl
    exact ⟨_, rfl, hI0, hF0, _, rfl, by decide, (Or.inr ⟨by omega, fun f => by first | exact absurd ((hbI.mk (by assumption) hv8).1.mpr f) (by omega) | exact absurd ((hbI.mk (by assumption) hv8).2.mpr f) (by omega)⟩)⟩
  · have c9_ : v8.toInt = 1 := en_i_ne_f c9
    refine At.enter rfl ?_
    refine r_iconst 1 rfl ?_
    refine r_goto ?_
    refine At.enter rfl ?_
    refine r_iretz (by decide) ?_
    have zv11 : (1 : Int32).toInt = 1 := rfl
    exact ⟨_, rfl, hI0, hF0, _, rfl, by decide, (Or.inl ⟨by omega, (hbI.mk (by assumption) hv8).1.mp (by omega)⟩)⟩

def F_X11_bits : List (Nat × Nat) := []
def A_X11_bits : List Nat := []
set_option maxRecDepth 100000 in
set_option maxHeartbeats 4000000 in
theorem T_X11_bits (d : Nat) {N : Nat} {g0 : List en_E} (hI0 : HI g0) (a0 : Int32) : Ev (d + 1) 161 [.int a0] (g0, N) (fun w h' => ∃ g', h' = (g', N) ∧ HI g' ∧ Fr F_X11_bits A_X11_bits g0 g' ∧ ∃ r : Int32, w = some (.int r) ∧ True) := by
  have hF0 : Fr F_X11_bits A_X11_bits g0 g0 := Fr.rf
  refine Ev.mk rfl rfl ⟨Nat.le_of_ble_eq_true rfl, Or.inl rfl⟩ ?_
  show At _ none _ _ (0, [(0, .int a0)], [], (_, _)) _
  refine At.enter rfl ?_
  refine r_iconst 0 rfl ?_
  refine r_istore_n ([(1, .int 0), (0, .int a0)]) rfl ?_
  refine r_iconst 0 rfl ?_
  refine r_istore_n ([(2, .int 0), (1, .int 0), (0, .int a0)]) rfl ?_
  refine Ar.fall 4 rfl ?_
  have z_272 : (0 : Int32).toInt = 0 := rfl
  have z_273 : (0 : Int32).toInt = 0 := rfl
  refine w_loopI (fun n_ l_ g_ => ∃ x260 : Int32, ∃ x261 : Int32, n_ = 12 - x261.toInt ∧ HI g_ ∧ Fr F_X11_bits A_X11_bits g0 g_ ∧ en_get 0 l_ = some (.int a0) ∧ en_get 1 l_ = some (.int x260) ∧ en_get 2 l_ = some (.int x261) ∧ (0 ≤ x261.toInt ∧ x261.toInt ≤ 12)) ?_ (12 - 0) ⟨0, 0, by first | rfl | omega, hI0, hF0, rfl, rfl, rfl, by decide⟩
  rintro n266 l265 g262 ⟨x260, x261, hm274, hI263, hF264, e268, e269, e270, r271⟩ ih267
  refine At.enter rfl ?_
  refine r_iload_n e270 ?_
  refine r_bipush 12 rfl ?_
  refine r_ics 10 rfl (fun c275 => ?_) (fun c275 => ?_)
  · have c275_ : x261.toInt ≥ 12 := en_i_ge_t c275
    refine At.enter rfl ?_
    refine r_iload_n e269 ?_
    refine r_ireti ?_
    exact ⟨_, rfl, hI263, hF264, _, rfl, trivial⟩
  · have c275_ : x261.toInt < 12 := en_i_ge_f c275
    refine At.enter rfl ?_
    refine r_iload_n e269 ?_
    refine r_iload_n e268 ?_
    refine r_iload_n e270 ?_
    refine q_ishrO (fun v276 hv276 => ?_)
    refine r_iconst 1 rfl ?_
    refine q_iandO (fun v277 hv277 => ?_)
    refine q_iaddO (fun v278 _ => ?_)
    refine r_istore_n _ rfl ?_
    refine q_iinc (w_p1 (by decide) (Or.inr rfl) e270) (x261.toInt + 1) rfl (by omega) (fun v279 hv279 => ?_)
    refine r_goto ?_
    have bv280 := q_bnd v278
    exact ih267 (12 - v279.toInt) _ _ ⟨v278, v279, by first | rfl | omega, hI263, hF264, (w_p1 (by decide) (Or.inr rfl) (w_p1 (by decide) (Or.inr rfl) e268)), (w_p1 (by decide) (Or.inr rfl) (w_e1 _ _ _)), (w_e1 _ _ _), by omega⟩ ⟨by omega, by omega⟩

def F_X11_nextOf_231 : List (Nat × Nat) := []
def A_X11_nextOf_231 : List Nat := []
set_option maxRecDepth 100000 in
set_option maxHeartbeats 4000000 in
theorem T_X11_nextOf_231 (d : Nat) {N : Nat} {g0 : List en_E} (hI0 : HI g0) (a1 : Int32) (h_a1 : 0 ≤ a1.toInt ∧ a1.toInt ≤ 11) (a2 : Int32) : Ev (d + 3) 174 [.ref 231, .int a1, .int a2] (g0, N) (fun w h' => ∃ g', h' = (g', N) ∧ HI g' ∧ Fr F_X11_nextOf_231 A_X11_nextOf_231 g0 g' ∧ ∃ r : Int32, w = some (.int r) ∧ ((-1) ≤ r.toInt ∧ r.toInt ≤ 11) ∧ (r.toInt = -1 ∨ r.toInt < (eA g0 233 0).toInt)) := by
  have hF0 : Fr F_X11_nextOf_231 A_X11_nextOf_231 g0 g0 := Fr.rf
  refine Ev.mk rfl rfl ⟨Nat.le_of_ble_eq_true rfl, Or.inr (q_rc hI0.1 kx_231 rfl)⟩ ?_
  show At _ none _ _ (0, [(0, .ref 231), (1, .int a1), (2, .int a2)], [], (_, _)) _
  refine At.enter rfl ?_
  refine r_aload_n rfl ?_
  refine r_iload_n rfl ?_
  refine r_iconst 0 rfl ?_
  refine q_inlV 6 rfl [.ref 231, .int a1, .int 0] [] (Nat.le_of_ble_eq_true rfl) rfl ?_
  refine Ev.mk rfl rfl ⟨Nat.le_of_ble_eq_true rfl, Or.inr (q_rc hI0.1 kx_231 rfl)⟩ ?_
  show At _ none _ _ (0, [(0, .ref 231), (1, .int a1), (2, .int 0)], [], (_, _)) _
  refine At.enter rfl ?_
  refine r_aload_n rfl ?_
  refine q_getR (Sh.ref hI0.1 kx_231 rfl) ?_
  refine r_bipush 10 rfl ?_
  refine r_iconst 3 rfl ?_
  refine r_iload_n rfl ?_
  refine q_imul (3 * a1.toInt) rfl (by omega) (fun v433 hv433 => ?_)
  refine q_iadd (10 + v433.toInt) rfl (by omega) (fun v434 hv434 => ?_)
  refine r_iload_n rfl ?_
  refine q_iadd (v434.toInt + 0) rfl (by omega) (fun v435 hv435 => ?_)
  obtain ⟨v436, hv436⟩ : ∃ v, eA g0 233 (3 * a1.toInt + 10) = v := ⟨_, rfl⟩
  have wv436 := HI.s0 hI0 (j := (3 * a1.toInt + 10)) (a1.toInt) (by omega) (by omega)
  rw [hv436] at wv436
  refine q_iald (Sh.arr hI0.1 ka_233) (3 * a1.toInt + 10) (by omega) (by omega) v436 hv436 ?_
  refine q_ireti ?_
  refine At.enter rfl ?_
  refine r_istore_n ([(3, .int v436), (0, .ref 231), (1, .int a1), (2, .int a2)]) rfl ?_
  refine r_iconst 0 rfl ?_
  refine r_istore ([(4, .int 0), (3, .int v436), (0, .ref 231), (1, .int a1), (2, .int a2)]) rfl ?_
  refine Ar.fall 10 rfl ?_
  have z_632 : (0 : Int32).toInt = 0 := rfl
  refine w_loopI (fun n_ l_ g_ => ∃ x617 : Int32, ∃ x618 : Int32, n_ = 13 - x618.toInt ∧ HI g_ ∧ Fr F_X11_nextOf_231 A_X11_nextOf_231 g0 g_ ∧ en_get 0 l_ = some (.ref 231) ∧ en_get 1 l_ = some (.int a1) ∧ en_get 2 l_ = some (.int a2) ∧ en_get 3 l_ = some (.int x617) ∧ en_get 4 l_ = some (.int x618) ∧ ((-1) ≤ x617.toInt ∧ x617.toInt ≤ 11) ∧ (0 ≤ x618.toInt ∧ x618.toInt ≤ 13)) ?_ (13 - 0) ⟨v436, 0, by first | rfl | omega, hI0, hF0, rfl, rfl, rfl, rfl, rfl, by omega, by decide⟩
  rintro n623 l622 g619 ⟨x617, x618, hm633, hI620, hF621, e625, e626, e627, e628, e629, r630, r631⟩ ih624
  refine At.enter rfl ?_
  refine r_iload e629 ?_
  refine r_bipush 13 rfl ?_
  refine r_ics 17 rfl (fun c634 => ?_) (fun c634 => ?_)
  · have c634_ : x618.toInt ≥ 13 := en_i_ge_t c634
    refine At.enter rfl ?_
    refine r_iconst (-1) rfl ?_
    refine r_ireti ?_
    exact ⟨_, rfl, hI620, hF621, _, rfl, by decide, (Or.inl rfl)⟩
  · have c634_ : x618.toInt < 13 := en_i_ge_f c634
    refine At.enter rfl ?_
    refine r_aload_n e625 ?_
    refine r_iload_n e628 ?_
    refine q_inlV 22 rfl [.ref 231, .int x617] [] (Nat.le_of_ble_eq_true rfl) rfl ?_
    refine Ev.mk rfl rfl ⟨Nat.le_of_ble_eq_true rfl, Or.inr (q_rc hI620.1 kx_231 rfl)⟩ ?_
    show At _ none _ _ (0, [(0, .ref 231), (1, .int x617)], [], (_, _)) _
    refine At.enter rfl ?_
    refine r_iload_n rfl ?_
    refine q_i2l (fun v635 hv635 => ?_)
    refine r_lconst 0 rfl ?_
    refine r_aload_n rfl ?_
    refine q_getR (Sh.ref hI620.1 kx_231 rfl) ?_
    refine r_iconst 0 rfl ?_
    obtain ⟨v636, hv636⟩ : ∃ v, eA g0 233 0 = v := ⟨_, rfl⟩
    have tv636 := congrArg Int32.toInt hv636
    have wv636 := HI.t0 hI0
    rw [hv636] at wv636
    refine q_iald (Sh.arr hI620.1 ka_233) 0 rfl (by decide) v636 ((eA_c (hF621.2.1 233 (by decide))).trans hv636) ?_
    refine q_i2l (fun v637 hv637 => ?_)
    refine r_lconst 1 rfl ?_
    refine q_lsub (v637.toInt - 1) rfl (by omega) (fun v638 hv638 => ?_)
    refine q_inlS 15 rfl [.long v635, .long 0, .long v638] [] (Nat.le_of_ble_eq_true rfl) rfl ?_
    refine Ev.mk rfl rfl ⟨Nat.le_of_ble_eq_true rfl, Or.inl rfl⟩ ?_
    show At _ none _ _ (0, [(0, .long v635), (2, .long 0), (4, .long v638)], [], (_, _)) _
    refine At.enter rfl ?_
    refine r_lload_n rfl ?_
    refine r_lload_n rfl ?_
    refine r_lcmp _ rfl ?_
    refine r_ifs 6 rfl (fun c639 => ?_) (fun c639 => ?_)
    · have c639_ : v635.toInt < 0 := en_j_lt_t c639
      refine At.enter rfl ?_
      refine r_iconst 0 rfl ?_
      refine Ar.fall 18 rfl ?_
      refine At.enter rfl ?_
      refine q_iretz (by decide) ?_
      refine At.enter rfl ?_
      refine q_iretz (by decide) ?_
      refine At.enter rfl ?_
      refine r_ift (by decide) ?_
      refine At.enter rfl ?_
      refine r_iconst (-1) rfl ?_
      refine r_ireti ?_
      exact ⟨_, rfl, hI620, hF621, _, rfl, by decide, (Or.inl rfl)⟩
    · have c639_ : v635.toInt ≥ 0 := en_j_lt_f c639
      refine At.enter rfl ?_
      refine r_lload_n rfl ?_
      refine r_lload rfl ?_
      refine r_lcmp _ rfl ?_
      refine r_ifs 13 rfl (fun c640 => ?_) (fun c640 => ?_)
      · have c640_ : v635.toInt > v638.toInt := en_j_gt_t c640
        refine At.enter rfl ?_
        refine r_iconst 0 rfl ?_
        refine Ar.fall 18 rfl ?_
        refine At.enter rfl ?_
        refine q_iretz (by decide) ?_
        refine At.enter rfl ?_
        refine q_iretz (by decide) ?_
        refine At.enter rfl ?_
        refine r_ift (by decide) ?_
        refine At.enter rfl ?_
        refine r_iconst (-1) rfl ?_
        refine r_ireti ?_
        exact ⟨_, rfl, hI620, hF621, _, rfl, by decide, (Or.inl rfl)⟩
      · have c640_ : v635.toInt ≤ v638.toInt := en_j_gt_f c640
        refine At.enter rfl ?_
        refine r_iconst 1 rfl ?_
        refine r_goto ?_
        refine At.enter rfl ?_
        refine q_iretz (by decide) ?_
        refine At.enter rfl ?_
        refine q_iretz (by decide) ?_
        refine At.enter rfl ?_
        refine r_iff 25 rfl (by decide) ?_
        refine At.enter rfl ?_
        refine r_iload_n e627 ?_
        refine r_iload_n e628 ?_
        refine q_inlS 30 rfl [.int a2, .int x617] [] (Nat.le_of_ble_eq_true rfl) rfl ?_
        refine Ev.mk rfl rfl ⟨Nat.le_of_ble_eq_true rfl, Or.inl rfl⟩ ?_
        show At _ none _ _ (0, [(0, .int a2), (1, .int x617)], [], (_, _)) _
        refine At.enter rfl ?_
        refine r_iload_n rfl ?_
        refine r_iload_n rfl ?_
        refine q_ishrO (fun v641 hv641 => ?_)
        refine r_iconst 1 rfl ?_
        refine q_iandO (fun v642 hv642 => ?_)
        refine r_iconst 1 rfl ?_
        refine r_ics 9 rfl (fun c643 => ?_) (fun c643 => ?_)
        · have c643_ : v642.toInt ≠ 1 := en_i_ne_t c643
          refine At.enter rfl ?_
          refine r_iconst 0 rfl ?_
          refine Ar.fall 14 rfl ?_
          refine At.enter rfl ?_
          refine q_iretz (by decide) ?_
          refine At.enter rfl ?_
          refine r_iff 33 rfl (by decide) ?_
          refine At.enter rfl ?_
          refine r_iload_n e628 ?_
          refine r_ireti ?_
          exact ⟨_, rfl, hI620, hF621, _, rfl, by omega, (by omega)⟩
        · have c643_ : v642.toInt = 1 := en_i_ne_f c643
          refine At.enter rfl ?_
          refine r_iconst 1 rfl ?_
          refine r_goto ?_
          refine At.enter rfl ?_
          refine q_iretz (by decide) ?_
          refine At.enter rfl ?_
          refine r_ift (by decide) ?_
          refine At.enter rfl ?_
          refine r_aload_n e625 ?_
          refine r_iload_n e628 ?_
          refine r_iconst 0 rfl ?_
          refine q_inlV 41 rfl [.ref 231, .int x617, .int 0] [] (Nat.le_of_ble_eq_true rfl) rfl ?_
          refine Ev.mk rfl rfl ⟨Nat.le_of_ble_eq_true rfl, Or.inr (q_rc hI620.1 kx_231 rfl)⟩ ?_
          show At _ none _ _ (0, [(0, .ref 231), (1, .int x617), (2, .int 0)], [], (_, _)) _
          refine At.enter rfl ?_
          refine r_aload_n rfl ?_
          refine q_getR (Sh.ref hI620.1 kx_231 rfl) ?_
          refine r_bipush 10 rfl ?_
          refine r_iconst 3 rfl ?_
          refine r_iload_n rfl ?_
          refine q_imul (3 * x617.toInt) rfl (by omega) (fun v644 hv644 => ?_)
          refine q_iadd (10 + v644.toInt) rfl (by omega) (fun v645 hv645 => ?_)
          refine r_iload_n rfl ?_
          refine q_iadd (v645.toInt + 0) rfl (by omega) (fun v646 hv646 => ?_)
          obtain ⟨v647, hv647⟩ : ∃ v, eA g0 233 (3 * x617.toInt + 10) = v := ⟨_, rfl⟩
          have wv647 := HI.s0 hI0 (j := (3 * x617.toInt + 10)) (x617.toInt) (by omega) (by omega)
          rw [hv647] at wv647
          refine q_iald (Sh.arr hI620.1 ka_233) (3 * x617.toInt + 10) (by omega) (by omega) v647 ((eA_c (hF621.2.1 233 (by decide))).trans hv647) ?_
          refine q_ireti ?_
          refine At.enter rfl ?_
          refine r_istore_n _ rfl ?_
          refine q_iinc (w_p1 (by decide) (Or.inr rfl) e629) (x618.toInt + 1) rfl (by omega) (fun v648 hv648 => ?_)
          refine r_goto ?_
          exact ih624 (13 - v648.toInt) _ _ ⟨v647, v648, by first | rfl | omega, hI620, hF621, (w_p1 (by decide) (Or.inr rfl) (w_p1 (by decide) (Or.inr rfl) e625)), (w_p1 (by decide) (Or.inr rfl) (w_p1 (by decide) (Or.inr rfl) e626)), (w_p1 (by decide) (Or.inr rfl) (w_p1 (by decide) (Or.inr rfl) e627)), (w_p1 (by decide) (Or.inr rfl) (w_e1 _ _ _)), (w_e1 _ _ _), by omega, by omega⟩ ⟨by omega, by omega⟩
