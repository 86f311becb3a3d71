def F_X11_row_231 : List (Nat × Nat) := [(231, 0), (231, 1), (231, 6), (231, 8)]
def A_X11_row_231 : List Nat := [232, 233]
set_option maxRecDepth 100000 in
set_option maxHeartbeats 4000000 in
theorem T_X11_row_231 (d : Nat) {N : Nat} {g0 : List en_E} (hI0 : HI g0) : Ev (d + 3) 182 [.ref 231] (g0, N) (fun w h' => ∃ g', h' = (g', N) ∧ HI g' ∧ Fr F_X11_row_231 A_X11_row_231 g0 g' ∧ ∃ r : Int32, w = some (.int r) ∧ ((-6) ≤ r.toInt ∧ r.toInt ≤ 400) ∧ ((gI g' 231 8).toInt = 0 ∧ (eA g' 233 0).toInt = (eA g0 233 0).toInt ∧ (eA g' 233 4).toInt = (eA g0 233 4).toInt ∧ (eA g' 233 5).toInt = (eA g0 233 5).toInt ∧ (eA g' 233 6).toInt = (eA g0 233 6).toInt)) := by
  have hF0 : Fr F_X11_row_231 A_X11_row_231 g0 g0 := Fr.rf
  refine Ev.mk rfl rfl ⟨Nat.le_of_ble_eq_true rfl, Or.inr (q_rc hI0.1 kx_231 rfl)⟩ ?_
  show At _ none _ _ (0, [(0, .ref 231)], [], (_, _)) _
  refine At.enter rfl ?_
  refine r_aload_n rfl ?_
  refine r_iconst 0 rfl ?_
  refine q_putI (Sh.int hI0.1 kx_231 rfl) rfl ?_
  have hI7777 := HI.wI0 hI0 kx_231 rfl (p := 231) (b := 0) (v := 0) rfl
  have hF7778 := Fr.wI (p := 231) (b := 0) (v := 0) hF0 rfl
  refine r_aload_n rfl ?_
  obtain ⟨v7779, hv7779⟩ : ∃ v, gI g0 231 8 = v := ⟨_, rfl⟩
  have rv7779 := RgF.at hI0.2.1 (p := 231) (b := 8) rfl
  rw [hv7779] at rv7779
  dsimp only at rv7779
  refine q_getI (Sh.int hI7777.1 kx_231 rfl) v7779 ((gI_sI_ne (by decide)).trans hv7779) ?_
  refine r_istore_n ([(1, .int v7779), (0, .ref 231)]) rfl ?_
  refine r_aload_n rfl ?_
  refine r_iconst 0 rfl ?_
  refine q_putI (Sh.int hI7777.1 kx_231 rfl) rfl ?_
  have hI7780 := HI.wI1 hI7777 kx_231 rfl (p := 231) (b := 8) (v := 0) rfl (by decide)
  have hF7781 := Fr.wI (p := 231) (b := 8) (v := 0) hF7778 rfl
  refine r_iload_n rfl ?_
  refine r_ifs 19 rfl (fun c7782 => ?_) (fun c7782 => ?_)
  · have c7782_ : v7779.toInt ≠ 0 := en_k_ne_t c7782
    refine At.enter rfl ?_
    refine r_aload_n rfl ?_
    refine r_iconst 0 rfl ?_
    refine q_putI (Sh.int hI7780.1 kx_231 rfl) rfl ?_
    have hI7783 := HI.wI0 hI7780 kx_231 rfl (p := 231) (b := 6) (v := 0) rfl
    have hF7784 := Fr.wI (p := 231) (b := 6) (v := 0) hF7781 rfl
    refine r_iconst 0 rfl ?_
    refine r_istore_n ([(2, .int 0), (1, .int v7779), (0, .ref 231)]) rfl ?_
    refine r_iconst 0 rfl ?_
    refine r_istore_n ([(3, .int 0), (2, .int 0), (1, .int v7779), (0, .ref 231)]) rfl ?_
    refine Ar.fall 35 rfl ?_
    obtain ⟨v7785, hv7785⟩ : ∃ v, eA g0 233 0 = v := ⟨_, rfl⟩
    have tv7785 := congrArg Int32.toInt hv7785
    have wv7785 := HI.t0 hI0
    rw [hv7785] at wv7785
    have tv7785 := congrArg Int32.toInt hv7785
    obtain ⟨v7786, hv7786⟩ : ∃ v, eA g0 233 4 = v := ⟨_, rfl⟩
    have wv7786 := HI.t4 hI0
    rw [hv7786] at wv7786
    have tv7786 := congrArg Int32.toInt hv7786
    obtain ⟨v7787, hv7787⟩ : ∃ v, eA g0 233 5 = v := ⟨_, rfl⟩
    have wv7787 := HI.t5 hI0
    rw [hv7787] at wv7787
    have tv7787 := congrArg Int32.toInt hv7787
    obtain ⟨v7788, hv7788⟩ : ∃ v, eA g0 233 6 = v := ⟨_, rfl⟩
    have wv7788 := HI.t6 hI0
    rw [hv7788] at wv7788
    have tv7788 := congrArg Int32.toInt hv7788
    have z_11499 : (0 : Int32).toInt = 0 := rfl
    have z_11500 : (0 : Int32).toInt = 0 := rfl
    refine w_loopI (fun n_ l_ g_ => ∃ x11479 : Int32, ∃ x11480 : Int32, n_ = 405 - x11480.toInt ∧ HI g_ ∧ Fr F_X11_row_231 A_X11_row_231 g0 g_ ∧ gI g_ 231 8 = 0 ∧ eA g_ 233 0 = v7785 ∧ eA g_ 233 4 = v7786 ∧ eA g_ 233 5 = v7787 ∧ eA g_ 233 6 = v7788 ∧ en_get 0 l_ = some (.ref 231) ∧ en_get 1 l_ = some (.int v7779) ∧ en_get 2 l_ = some (.int x11479) ∧ en_get 3 l_ = some (.int x11480) ∧ (0 ≤ x11479.toInt ∧ x11479.toInt ≤ 400) ∧ (0 ≤ x11480.toInt ∧ x11480.toInt ≤ 405) ∧ (x11479.toInt ≤ x11480.toInt)) ?_ (405 - 0) ⟨0, 0, by first | rfl | omega, hI7783, hF7784, ((gI_sI_ne (by decide)).trans (gI_sI_eq hI7777.1 kx_231 rfl _)), (((eA_c gA_sI).trans ((eA_c gA_sI).trans (eA_c gA_sI))).trans hv7785), (((eA_c gA_sI).trans ((eA_c gA_sI).trans (eA_c gA_sI))).trans hv7786), (((eA_c gA_sI).trans ((eA_c gA_sI).trans (eA_c gA_sI))).trans hv7787), (((eA_c gA_sI).trans ((eA_c gA_sI).trans (eA_c gA_sI))).trans hv7788), rfl, rfl, rfl, rfl, by decide, by decide, by omega⟩
    rintro n11485 l11484 g11481 ⟨x11479, x11480, hm11501, hI11482, hF11483, e11487, e11488, e11489, e11490, e11491, e11492, e11493, e11494, e11495, r11496, r11497, q11498⟩ ih11486
    have tv11502 := congrArg Int32.toInt e11488
    have tv11503 := congrArg Int32.toInt e11489
    have tv11504 := congrArg Int32.toInt e11490
    have tv11505 := congrArg Int32.toInt e11491
    have tv11506 := congrArg Int32.toInt e11487
    refine At.enter rfl ?_
    refine r_iload_n e11495 ?_
    refine r_iload_n e11493 ?_
    have bv11508 := q_bnd x11480
    have bv11509 := q_bnd v7779
    refine r_ics 40 rfl (fun c11507 => ?_) (fun c11507 => ?_)
    · have c11507_ : x11480.toInt ≥ v7779.toInt := en_i_ge_t c11507
      refine At.enter rfl ?_
      refine r_aload_n e11492 ?_
      refine r_iload_n e11494 ?_
      refine r_callV 225 rfl [.ref 231, .int x11479] [] (Nat.le_of_ble_eq_true rfl) rfl (T_X11_tell_231 _ hI11482 x11479 (by omega)) ?_
      rintro _ _ ⟨g11510, rfl, hI11511, hF11512, v11513, rfl, hr11514⟩
      refine At.sti ?_
      have hF11515 := Fr.tr hF11483 hF11512 rfl rfl
      refine At.enter rfl ?_
      refine r_ireti ?_
      have x11516 := HI.eqI hI11511 (p := 231) (b := 8) (((hF11512.1 231 8 (by decide)).trans e11487))
      have zv11517 : (0 : Int32).toInt = 0 := rfl
      have x11518 := HI.eqA hI11511 (p := 233) (j := 0) (((eA_c (hF11512.2.1 233 (by decide))).trans e11488))
      have x11519 := HI.eqA hI11511 (p := 233) (j := 4) (((eA_c (hF11512.2.1 233 (by decide))).trans e11489))
      have x11520 := HI.eqA hI11511 (p := 233) (j := 5) (((eA_c (hF11512.2.1 233 (by decide))).trans e11490))
      have x11521 := HI.eqA hI11511 (p := 233) (j := 6) (((eA_c (hF11512.2.1 233 (by decide))).trans e11491))
      have x11522 := HI.eqA hI0 (p := 233) (j := 0) (hv7785)
      have x11523 := HI.eqA hI0 (p := 233) (j := 4) (hv7786)
      have x11524 := HI.eqA hI0 (p := 233) (j := 5) (hv7787)
      have x11525 := HI.eqA hI0 (p := 233) (j := 6) (hv7788)
      exact ⟨_, rfl, hI11511, hF11515, _, rfl, by omega, ⟨by omega, by omega, by omega, by omega, by omega⟩⟩
    · have c11507_ : x11480.toInt < v7779.toInt := en_i_ge_f c11507
      refine At.enter rfl ?_
      refine r_iload_n e11495 ?_
      refine r_iconst 5 rfl ?_
      refine q_iadd (x11480.toInt + 5) rfl (by omega) (fun v11526 hv11526 => ?_)
      refine r_iload_n e11493 ?_
      have bv11528 := q_bnd v11526
      refine r_ics 47 rfl (fun c11527 => ?_) (fun c11527 => ?_)
      · have c11527_ : v11526.toInt ≥ v7779.toInt := en_i_ge_t c11527
        refine At.enter rfl ?_
        refine r_iconst 0 rfl ?_
        refine Ar.fall 63 rfl ?_
        refine At.enter rfl ?_
        refine r_istore _ rfl ?_
        refine r_iload (w_e1 _ _ _) ?_
        refine r_ift (by decide) ?_
        refine At.enter rfl ?_
        refine r_iconst 0 rfl ?_
        refine Ar.fall 141 rfl ?_
        refine At.enter rfl ?_
        refine r_istore _ rfl ?_
        refine r_iload (w_e1 _ _ _) ?_
        refine r_ift (by decide) ?_
        refine At.enter rfl ?_
        refine r_aload_n (w_p1 (by decide) (Or.inr rfl) (w_p1 (by decide) (Or.inr rfl) e11492)) ?_
        refine r_dup rfl ?_
        obtain ⟨v11529, hv11529⟩ : ∃ v, gI g11481 231 6 = v := ⟨_, rfl⟩
        refine q_getI (Sh.int hI11482.1 kx_231 rfl) v11529 hv11529 ?_
        refine r_iconst 1 rfl ?_
        refine q_iaddO (fun v11530 _ => ?_)
        refine q_putI (Sh.int hI11482.1 kx_231 rfl) rfl ?_
        have hI11531 := HI.wI0 hI11482 kx_231 rfl (p := 231) (b := 6) (v := v11530) rfl
        have hF11532 := Fr.wI (p := 231) (b := 6) (v := v11530) hF11483 rfl
        refine Ar.fall 214 rfl ?_
        refine At.enter rfl ?_
        refine q_iinc (w_p1 (by decide) (Or.inr rfl) (w_p1 (by decide) (Or.inr rfl) e11495)) (x11480.toInt + 6) rfl (by omega) (fun v11533 hv11533 => ?_)
        refine r_goto ?_
        exact ih11486 (405 - v11533.toInt) _ _ ⟨x11479, v11533, by first | rfl | omega, hI11531, hF11532, ((gI_sI_ne (by decide)).trans e11487), ((eA_c gA_sI).trans e11488), ((eA_c gA_sI).trans e11489), ((eA_c gA_sI).trans e11490), ((eA_c gA_sI).trans e11491), (w_p1 (by decide) (Or.inr rfl) (w_p1 (by decide) (Or.inr rfl) (w_p1 (by decide) (Or.inr rfl) e11492))), (w_p1 (by decide) (Or.inr rfl) (w_p1 (by decide) (Or.inr rfl) (w_p1 (by decide) (Or.inr rfl) e11493))), (w_p1 (by decide) (Or.inr rfl) (w_p1 (by decide) (Or.inr rfl) (w_p1 (by decide) (Or.inr rfl) e11494))), (w_e1 _ _ _), by omega, by omega, by omega⟩ ⟨by omega, by omega⟩
      · have c11527_ : v11526.toInt < v7779.toInt := en_i_ge_f c11527
        refine At.enter rfl ?_
        refine r_aload_n e11492 ?_
        refine q_getR (Sh.ref hI11482.1 kx_231 rfl) ?_
        refine r_iconst 1 rfl ?_
        obtain ⟨v11534, hv11534⟩ : ∃ v, eA g11481 233 1 = v := ⟨_, rfl⟩
        have tv11534 := congrArg Int32.toInt hv11534
        have wv11534 := HI.t1 hI11482
        rw [hv11534] at wv11534
        refine q_iald (Sh.arr hI11482.1 ka_233) 1 rfl (by decide) v11534 hv11534 ?_
        refine r_bipush 8 rfl ?_
        refine r_ics 58 rfl (fun c11535 => ?_) (fun c11535 => ?_)
        · have c11535_ : v11534.toInt ≥ 8 := en_i_ge_t c11535
          refine At.enter rfl ?_
          refine r_iconst 0 rfl ?_
          refine Ar.fall 63 rfl ?_
          refine At.enter rfl ?_
          refine r_istore _ rfl ?_
          refine r_iload (w_e1 _ _ _) ?_
          refine r_ift (by decide) ?_
          refine At.enter rfl ?_
          refine r_iconst 0 rfl ?_
          refine Ar.fall 141 rfl ?_
          refine At.enter rfl ?_
          refine r_istore _ rfl ?_
          refine r_iload (w_e1 _ _ _) ?_
          refine r_ift (by decide) ?_
          refine At.enter rfl ?_
          refine r_aload_n (w_p1 (by decide) (Or.inr rfl) (w_p1 (by decide) (Or.inr rfl) e11492)) ?_
          refine r_dup rfl ?_
          obtain ⟨v11536, hv11536⟩ : ∃ v, gI g11481 231 6 = v := ⟨_, rfl⟩
          refine q_getI (Sh.int hI11482.1 kx_231 rfl) v11536 hv11536 ?_
          refine r_iconst 1 rfl ?_
          refine q_iaddO (fun v11537 _ => ?_)
          refine q_putI (Sh.int hI11482.1 kx_231 rfl) rfl ?_
          have hI11538 := HI.wI0 hI11482 kx_231 rfl (p := 231) (b := 6) (v := v11537) rfl
          have hF11539 := Fr.wI (p := 231) (b := 6) (v := v11537) hF11483 rfl
          refine Ar.fall 214 rfl ?_
          refine At.enter rfl ?_
          refine q_iinc (w_p1 (by decide) (Or.inr rfl) (w_p1 (by decide) (Or.inr rfl) e11495)) (x11480.toInt + 6) rfl (by omega) (fun v11540 hv11540 => ?_)
          refine r_goto ?_
          exact ih11486 (405 - v11540.toInt) _ _ ⟨x11479, v11540, by first | rfl | omega, hI11538, hF11539, ((gI_sI_ne (by decide)).trans e11487), ((eA_c gA_sI).trans e11488), ((eA_c gA_sI).trans e11489), ((eA_c gA_sI).trans e11490), ((eA_c gA_sI).trans e11491), (w_p1 (by decide) (Or.inr rfl) (w_p1 (by decide) (Or.inr rfl) (w_p1 (by decide) (Or.inr rfl) e11492))), (w_p1 (by decide) (Or.inr rfl) (w_p1 (by decide) (Or.inr rfl) (w_p1 (by decide) (Or.inr rfl) e11493))), (w_p1 (by decide) (Or.inr rfl) (w_p1 (by decide) (Or.inr rfl) (w_p1 (by decide) (Or.inr rfl) e11494))), (w_e1 _ _ _), by omega, by omega, by omega⟩ ⟨by omega, by omega⟩
        · have c11535_ : v11534.toInt < 8 := en_i_ge_f c11535
          refine At.enter rfl ?_
          refine r_iconst 1 rfl ?_
          refine r_goto ?_
          refine At.enter rfl ?_
          refine r_istore _ rfl ?_
          refine r_iload (w_e1 _ _ _) ?_
          refine r_iff 70 rfl (by decide) ?_
          refine At.enter rfl ?_
          refine r_aload_n (w_p1 (by decide) (Or.inr rfl) e11492) ?_
          refine q_getR (Sh.ref hI11482.1 kx_231 rfl) ?_
          refine r_iload_n (w_p1 (by decide) (Or.inr rfl) e11495) ?_
          obtain ⟨v11541, hv11541⟩ : ∃ v, eA g0 236 x11480.toInt = v := ⟨_, rfl⟩
          refine q_iald (Sh.arr hI11482.1 ka_236) x11480.toInt rfl (by omega) v11541 ((eA_c (hF11483.2.1 236 (by decide))).trans hv11541) ?_
          refine r_aload_n (w_p1 (by decide) (Or.inr rfl) e11492) ?_
          refine q_getR (Sh.ref hI11482.1 kx_231 rfl) ?_
          refine r_iload_n (w_p1 (by decide) (Or.inr rfl) e11495) ?_
          refine r_iconst 3 rfl ?_
          refine q_iadd (x11480.toInt + 3) rfl (by omega) (fun v11542 hv11542 => ?_)
          obtain ⟨v11543, hv11543⟩ : ∃ v, eA g0 236 (x11480.toInt + 3) = v := ⟨_, rfl⟩
          refine q_iald (Sh.arr hI11482.1 ka_236) (x11480.toInt + 3) (by omega) (by omega) v11543 ((eA_c (hF11483.2.1 236 (by decide))).trans hv11543) ?_
          refine r_aload_n (w_p1 (by decide) (Or.inr rfl) e11492) ?_
          refine q_getR (Sh.ref hI11482.1 kx_231 rfl) ?_
          refine r_iload_n (w_p1 (by decide) (Or.inr rfl) e11495) ?_
          refine r_iconst 4 rfl ?_
          refine q_iadd (x11480.toInt + 4) rfl (by omega) (fun v11544 hv11544 => ?_)
          obtain ⟨v11545, hv11545⟩ : ∃ v, eA g0 236 (x11480.toInt + 4) = v := ⟨_, rfl⟩
          refine q_iald (Sh.arr hI11482.1 ka_236) (x11480.toInt + 4) (by omega) (by omega) v11545 ((eA_c (hF11483.2.1 236 (by decide))).trans hv11545) ?_
          refine r_aload_n (w_p1 (by decide) (Or.inr rfl) e11492) ?_
          refine q_getR (Sh.ref hI11482.1 kx_231 rfl) ?_
          refine r_iload_n (w_p1 (by decide) (Or.inr rfl) e11495) ?_
          refine r_iconst 5 rfl ?_
          refine q_iadd (x11480.toInt + 5) rfl (by omega) (fun v11546 hv11546 => ?_)
          obtain ⟨v11547, hv11547⟩ : ∃ v, eA g0 236 (x11480.toInt + 5) = v := ⟨_, rfl⟩
          refine q_iald (Sh.arr hI11482.1 ka_236) (x11480.toInt + 5) (by omega) (by omega) v11547 ((eA_c (hF11483.2.1 236 (by decide))).trans hv11547) ?_
          refine q_inlS 103 rfl [.int v11541, .int v11543, .int v11545, .int v11547] [] (Nat.le_of_ble_eq_true rfl) rfl ?_
          refine Ev.mk rfl rfl ⟨Nat.le_of_ble_eq_true rfl, Or.inl rfl⟩ ?_
          show At _ none _ _ (0, [(0, .int v11541), (1, .int v11543), (2, .int v11545), (3, .int v11547)], [], (_, _)) _
          refine At.enter rfl ?_
          refine r_iload_n rfl ?_
          refine q_i2l (fun v11548 hv11548 => ?_)
          refine r_lconst 1 rfl ?_
          refine r_ldc2 9 rfl ?_
          refine q_inlS 9 rfl [.long v11548, .long 1, .long 9] [] (Nat.le_of_ble_eq_true rfl) rfl ?_
          refine Ev.mk rfl rfl ⟨Nat.le_of_ble_eq_true rfl, Or.inl rfl⟩ ?_
          show At _ none _ _ (0, [(0, .long v11548), (2, .long 1), (4, .long 9)], [], (_, _)) _
          refine At.enter rfl ?_
          refine r_lload_n rfl ?_
          refine r_lload_n rfl ?_
          refine r_lcmp _ rfl ?_
          refine r_ifs 6 rfl (fun c11549 => ?_) (fun c11549 => ?_)
          · have c11549_ : v11548.toInt < 1 := en_j_lt_t c11549
            refine At.enter rfl ?_
            refine r_iconst 0 rfl ?_
            refine Ar.fall 18 rfl ?_
            refine At.enter rfl ?_
            refine q_iretz (by decide) ?_
            refine At.enter rfl ?_
            refine r_ift (by decide) ?_
            refine At.enter rfl ?_
            refine r_iconst 0 rfl ?_
            refine Ar.fall 53 rfl ?_
            refine At.enter rfl ?_
            refine q_iretz (by decide) ?_
            refine At.enter rfl ?_
            refine r_ift (by decide) ?_
            refine At.enter rfl ?_
            refine r_iconst 0 rfl ?_
            refine Ar.fall 141 rfl ?_
            refine At.enter rfl ?_
            refine r_istore _ rfl ?_
            refine r_iload (w_e1 _ _ _) ?_
            refine r_ift (by decide) ?_
            refine At.enter rfl ?_
            refine r_aload_n (w_p1 (by decide) (Or.inr rfl) (w_p1 (by decide) (Or.inr rfl) e11492)) ?_
            refine r_dup rfl ?_
            obtain ⟨v11550, hv11550⟩ : ∃ v, gI g11481 231 6 = v := ⟨_, rfl⟩
            refine q_getI (Sh.int hI11482.1 kx_231 rfl) v11550 hv11550 ?_
            refine r_iconst 1 rfl ?_
            refine q_iaddO (fun v11551 _ => ?_)
            refine q_putI (Sh.int hI11482.1 kx_231 rfl) rfl ?_
            have hI11552 := HI.wI0 hI11482 kx_231 rfl (p := 231) (b := 6) (v := v11551) rfl
            have hF11553 := Fr.wI (p := 231) (b := 6) (v := v11551) hF11483 rfl
            refine Ar.fall 214 rfl ?_
            refine At.enter rfl ?_
            refine q_iinc (w_p1 (by decide) (Or.inr rfl) (w_p1 (by decide) (Or.inr rfl) e11495)) (x11480.toInt + 6) rfl (by omega) (fun v11554 hv11554 => ?_)
            refine r_goto ?_
            exact ih11486 (405 - v11554.toInt) _ _ ⟨x11479, v11554, by first | rfl | omega, hI11552, hF11553, ((gI_sI_ne (by decide)).trans e11487), ((eA_c gA_sI).trans e11488), ((eA_c gA_sI).trans e11489), ((eA_c gA_sI).trans e11490), ((eA_c gA_sI).trans e11491), (w_p1 (by decide) (Or.inr rfl) (w_p1 (by decide) (Or.inr rfl) (w_p1 (by decide) (Or.inr rfl) e11492))), (w_p1 (by decide) (Or.inr rfl) (w_p1 (by decide) (Or.inr rfl) (w_p1 (by decide) (Or.inr rfl) e11493))), (w_p1 (by decide) (Or.inr rfl) (w_p1 (by decide) (Or.inr rfl) (w_p1 (by decide) (Or.inr rfl) e11494))), (w_e1 _ _ _), by omega, by omega, by omega⟩ ⟨by omega, by omega⟩
          · have c11549_ : v11548.toInt ≥ 1 := en_j_lt_f c11549
            refine At.enter rfl ?_
            refine r_lload_n rfl ?_
            refine r_lload rfl ?_
            refine r_lcmp _ rfl ?_
            refine r_ifs 13 rfl (fun c11555 => ?_) (fun c11555 => ?_)
            · have c11555_ : v11548.toInt > 9 := en_j_gt_t c11555
              refine At.enter rfl ?_
              refine r_iconst 0 rfl ?_
              refine Ar.fall 18 rfl ?_
              refine At.enter rfl ?_
              refine q_iretz (by decide) ?_
              refine At.enter rfl ?_
              refine r_ift (by decide) ?_
              refine At.enter rfl ?_
              refine r_iconst 0 rfl ?_
              refine Ar.fall 53 rfl ?_
              refine At.enter rfl ?_
              refine q_iretz (by decide) ?_
              refine At.enter rfl ?_
              refine r_ift (by decide) ?_
              refine At.enter rfl ?_
              refine r_iconst 0 rfl ?_
              refine Ar.fall 141 rfl ?_
              refine At.enter rfl ?_
              refine r_istore _ rfl ?_
              refine r_iload (w_e1 _ _ _) ?_
              refine r_ift (by decide) ?_
              refine At.enter rfl ?_
              refine r_aload_n (w_p1 (by decide) (Or.inr rfl) (w_p1 (by decide) (Or.inr rfl) e11492)) ?_
              refine r_dup rfl ?_
              obtain ⟨v11556, hv11556⟩ : ∃ v, gI g11481 231 6 = v := ⟨_, rfl⟩
              refine q_getI (Sh.int hI11482.1 kx_231 rfl) v11556 hv11556 ?_
              refine r_iconst 1 rfl ?_
              refine q_iaddO (fun v11557 _ => ?_)
              refine q_putI (Sh.int hI11482.1 kx_231 rfl) rfl ?_
              have hI11558 := HI.wI0 hI11482 kx_231 rfl (p := 231) (b := 6) (v := v11557) rfl
              have hF11559 := Fr.wI (p := 231) (b := 6) (v := v11557) hF11483 rfl
              refine Ar.fall 214 rfl ?_
              refine At.enter rfl ?_
              refine q_iinc (w_p1 (by decide) (Or.inr rfl) (w_p1 (by decide) (Or.inr rfl) e11495)) (x11480.toInt + 6) rfl (by omega) (fun v11560 hv11560 => ?_)
              refine r_goto ?_
              exact ih11486 (405 - v11560.toInt) _ _ ⟨x11479, v11560, by first | rfl | omega, hI11558, hF11559, ((gI_sI_ne (by decide)).trans e11487), ((eA_c gA_sI).trans e11488), ((eA_c gA_sI).trans e11489), ((eA_c gA_sI).trans e11490), ((eA_c gA_sI).trans e11491), (w_p1 (by decide) (Or.inr rfl) (w_p1 (by decide) (Or.inr rfl) (w_p1 (by decide) (Or.inr rfl) e11492))), (w_p1 (by decide) (Or.inr rfl) (w_p1 (by decide) (Or.inr rfl) (w_p1 (by decide) (Or.inr rfl) e11493))), (w_p1 (by decide) (Or.inr rfl) (w_p1 (by decide) (Or.inr rfl) (w_p1 (by decide) (Or.inr rfl) e11494))), (w_e1 _ _ _), by omega, by omega, by omega⟩ ⟨by omega, by omega⟩
            · have c11555_ : v11548.toInt ≤ 9 := en_j_gt_f c11555
              refine At.enter rfl ?_
              refine r_iconst 1 rfl ?_
              refine r_goto ?_
              refine At.enter rfl ?_
              refine q_iretz (by decide) ?_
              refine At.enter rfl ?_
              refine r_iff 12 rfl (by decide) ?_
              refine At.enter rfl ?_
              refine r_iload_n rfl ?_
              refine q_i2l (fun v11561 hv11561 => ?_)
              refine r_lconst 0 rfl ?_
              refine r_ldc2 99 rfl ?_
              refine q_inlS 21 rfl [.long v11561, .long 0, .long 99] [] (Nat.le_of_ble_eq_true rfl) rfl ?_
              refine Ev.mk rfl rfl ⟨Nat.le_of_ble_eq_true rfl, Or.inl rfl⟩ ?_
              show At _ none _ _ (0, [(0, .long v11561), (2, .long 0), (4, .long 99)], [], (_, _)) _
              refine At.enter rfl ?_
              refine r_lload_n rfl ?_
              refine r_lload_n rfl ?_
              refine r_lcmp _ rfl ?_
              refine r_ifs 6 rfl (fun c11562 => ?_) (fun c11562 => ?_)
              · have c11562_ : v11561.toInt < 0 := en_j_lt_t c11562
                refine At.enter rfl ?_
                refine r_iconst 0 rfl ?_
                refine Ar.fall 18 rfl ?_
                refine At.enter rfl ?_
                refine q_iretz (by decide) ?_
                refine At.enter rfl ?_
                refine r_ift (by decide) ?_
                refine At.enter rfl ?_
                refine r_iconst 0 rfl ?_
                refine Ar.fall 53 rfl ?_
                refine At.enter rfl ?_
                refine q_iretz (by decide) ?_
                refine At.enter rfl ?_
                refine r_ift (by decide) ?_
                refine At.enter rfl ?_
                refine r_iconst 0 rfl ?_
                refine Ar.fall 141 rfl ?_
                refine At.enter rfl ?_
                refine r_istore _ rfl ?_
                refine r_iload (w_e1 _ _ _) ?_
                refine r_ift (by decide) ?_
                refine At.enter rfl ?_
                refine r_aload_n (w_p1 (by decide) (Or.inr rfl) (w_p1 (by decide) (Or.inr rfl) e11492)) ?_
                refine r_dup rfl ?_
                obtain ⟨v11563, hv11563⟩ : ∃ v, gI g11481 231 6 = v := ⟨_, rfl⟩
                refine q_getI (Sh.int hI11482.1 kx_231 rfl) v11563 hv11563 ?_
                refine r_iconst 1 rfl ?_
                refine q_iaddO (fun v11564 _ => ?_)
                refine q_putI (Sh.int hI11482.1 kx_231 rfl) rfl ?_
                have hI11565 := HI.wI0 hI11482 kx_231 rfl (p := 231) (b := 6) (v := v11564) rfl
                have hF11566 := Fr.wI (p := 231) (b := 6) (v := v11564) hF11483 rfl
                refine Ar.fall 214 rfl ?_
                refine At.enter rfl ?_
                refine q_iinc (w_p1 (by decide) (Or.inr rfl) (w_p1 (by decide) (Or.inr rfl) e11495)) (x11480.toInt + 6) rfl (by omega) (fun v11567 hv11567 => ?_)
                refine r_goto ?_
                exact ih11486 (405 - v11567.toInt) _ _ ⟨x11479, v11567, by first | rfl | omega, hI11565, hF11566, ((gI_sI_ne (by decide)).trans e11487), ((eA_c gA_sI).trans e11488), ((eA_c gA_sI).trans e11489), ((eA_c gA_sI).trans e11490), ((eA_c gA_sI).trans e11491), (w_p1 (by decide) (Or.inr rfl) (w_p1 (by decide) (Or.inr rfl) (w_p1 (by decide) (Or.inr rfl) e11492))), (w_p1 (by decide) (Or.inr rfl) (w_p1 (by decide) (Or.inr rfl) (w_p1 (by decide) (Or.inr rfl) e11493))), (w_p1 (by decide) (Or.inr rfl) (w_p1 (by decide) (Or.inr rfl) (w_p1 (by decide) (Or.inr rfl) e11494))), (w_e1 _ _ _), by omega, by omega, by omega⟩ ⟨by omega, by omega⟩
              · have c11562_ : v11561.toInt ≥ 0 := en_j_lt_f c11562
                refine At.enter rfl ?_
                refine r_lload_n rfl ?_
                refine r_lload rfl ?_
                refine r_lcmp _ rfl ?_
                refine r_ifs 13 rfl (fun c11568 => ?_) (fun c11568 => ?_)
                · have c11568_ : v11561.toInt > 99 := en_j_gt_t c11568
                  refine At.enter rfl ?_
                  refine r_iconst 0 rfl ?_
                  refine Ar.fall 18 rfl ?_
                  refine At.enter rfl ?_
                  refine q_iretz (by decide) ?_
                  refine At.enter rfl ?_
                  refine r_ift (by decide) ?_
                  refine At.enter rfl ?_
                  refine r_iconst 0 rfl ?_
                  refine Ar.fall 53 rfl ?_
                  refine At.enter rfl ?_
                  refine q_iretz (by decide) ?_
                  refine At.enter rfl ?_
                  refine r_ift (by decide) ?_
                  refine At.enter rfl ?_
                  refine r_iconst 0 rfl ?_
                  refine Ar.fall 141 rfl ?_
                  refine At.enter rfl ?_
                  refine r_istore _ rfl ?_
                  refine r_iload (w_e1 _ _ _) ?_
                  refine r_ift (by decide) ?_
                  refine At.enter rfl ?_
                  refine r_aload_n (w_p1 (by decide) (Or.inr rfl) (w_p1 (by decide) (Or.inr rfl) e11492)) ?_
                  refine r_dup rfl ?_
                  obtain ⟨v11569, hv11569⟩ : ∃ v, gI g11481 231 6 = v := ⟨_, rfl⟩
                  refine q_getI (Sh.int hI11482.1 kx_231 rfl) v11569 hv11569 ?_
                  refine r_iconst 1 rfl ?_
                  refine q_iaddO (fun v11570 _ => ?_)
                  refine q_putI (Sh.int hI11482.1 kx_231 rfl) rfl ?_
                  have hI11571 := HI.wI0 hI11482 kx_231 rfl (p := 231) (b := 6) (v := v11570) rfl
                  have hF11572 := Fr.wI (p := 231) (b := 6) (v := v11570) hF11483 rfl
                  refine Ar.fall 214 rfl ?_
                  refine At.enter rfl ?_
                  refine q_iinc (w_p1 (by decide) (Or.inr rfl) (w_p1 (by decide) (Or.inr rfl) e11495)) (x11480.toInt + 6) rfl (by omega) (fun v11573 hv11573 => ?_)
                  refine r_goto ?_
                  exact ih11486 (405 - v11573.toInt) _ _ ⟨x11479, v11573, by first | rfl | omega, hI11571, hF11572, ((gI_sI_ne (by decide)).trans e11487), ((eA_c gA_sI).trans e11488), ((eA_c gA_sI).trans e11489), ((eA_c gA_sI).trans e11490), ((eA_c gA_sI).trans e11491), (w_p1 (by decide) (Or.inr rfl) (w_p1 (by decide) (Or.inr rfl) (w_p1 (by decide) (Or.inr rfl) e11492))), (w_p1 (by decide) (Or.inr rfl) (w_p1 (by decide) (Or.inr rfl) (w_p1 (by decide) (Or.inr rfl) e11493))), (w_p1 (by decide) (Or.inr rfl) (w_p1 (by decide) (Or.inr rfl) (w_p1 (by decide) (Or.inr rfl) e11494))), (w_e1 _ _ _), by omega, by omega, by omega⟩ ⟨by omega, by omega⟩
                · have c11568_ : v11561.toInt ≤ 99 := en_j_gt_f c11568
                  refine At.enter rfl ?_
                  refine r_iconst 1 rfl ?_
                  refine r_goto ?_
                  refine At.enter rfl ?_
                  refine q_iretz (by decide) ?_
                  refine At.enter rfl ?_
                  refine r_iff 24 rfl (by decide) ?_
                  refine At.enter rfl ?_
                  refine r_iload_n rfl ?_
                  refine q_i2l (fun v11574 hv11574 => ?_)
                  refine r_lconst 0 rfl ?_
                  refine r_ldc2 9 rfl ?_
                  refine q_inlS 33 rfl [.long v11574, .long 0, .long 9] [] (Nat.le_of_ble_eq_true rfl) rfl ?_
                  refine Ev.mk rfl rfl ⟨Nat.le_of_ble_eq_true rfl, Or.inl rfl⟩ ?_
                  show At _ none _ _ (0, [(0, .long v11574), (2, .long 0), (4, .long 9)], [], (_, _)) _
                  refine At.enter rfl ?_
                  refine r_lload_n rfl ?_
                  refine r_lload_n rfl ?_
                  refine r_lcmp _ rfl ?_
                  refine r_ifs 6 rfl (fun c11575 => ?_) (fun c11575 => ?_)
                  · have c11575_ : v11574.toInt < 0 := en_j_lt_t c11575
                    refine At.enter rfl ?_
                    refine r_iconst 0 rfl ?_
                    refine Ar.fall 18 rfl ?_
                    refine At.enter rfl ?_
                    refine q_iretz (by decide) ?_
                    refine At.enter rfl ?_
                    refine r_ift (by decide) ?_
                    refine At.enter rfl ?_
                    refine r_iconst 0 rfl ?_
                    refine Ar.fall 53 rfl ?_
                    refine At.enter rfl ?_
                    refine q_iretz (by decide) ?_
                    refine At.enter rfl ?_
                    refine r_ift (by decide) ?_
                    refine At.enter rfl ?_
                    refine r_iconst 0 rfl ?_
                    refine Ar.fall 141 rfl ?_
                    refine At.enter rfl ?_
                    refine r_istore _ rfl ?_
                    refine r_iload (w_e1 _ _ _) ?_
                    refine r_ift (by decide) ?_
                    refine At.enter rfl ?_
                    refine r_aload_n (w_p1 (by decide) (Or.inr rfl) (w_p1 (by decide) (Or.inr rfl) e11492)) ?_
                    refine r_dup rfl ?_
                    obtain ⟨v11576, hv11576⟩ : ∃ v, gI g11481 231 6 = v := ⟨_, rfl⟩
                    refine q_getI (Sh.int hI11482.1 kx_231 rfl) v11576 hv11576 ?_
                    refine r_iconst 1 rfl ?_
                    refine q_iaddO (fun v11577 _ => ?_)
                    refine q_putI (Sh.int hI11482.1 kx_231 rfl) rfl ?_
                    have hI11578 := HI.wI0 hI11482 kx_231 rfl (p := 231) (b := 6) (v := v11577) rfl
                    have hF11579 := Fr.wI (p := 231) (b := 6) (v := v11577) hF11483 rfl
                    refine Ar.fall 214 rfl ?_
                    refine At.enter rfl ?_
                    refine q_iinc (w_p1 (by decide) (Or.inr rfl) (w_p1 (by decide) (Or.inr rfl) e11495)) (x11480.toInt + 6) rfl (by omega) (fun v11580 hv11580 => ?_)
                    refine r_goto ?_
                    exact ih11486 (405 - v11580.toInt) _ _ ⟨x11479, v11580, by first | rfl | omega, hI11578, hF11579, ((gI_sI_ne (by decide)).trans e11487), ((eA_c gA_sI).trans e11488), ((eA_c gA_sI).trans e11489), ((eA_c gA_sI).trans e11490), ((eA_c gA_sI).trans e11491), (w_p1 (by decide) (Or.inr rfl) (w_p1 (by decide) (Or.inr rfl) (w_p1 (by decide) (Or.inr rfl) e11492))), (w_p1 (by decide) (Or.inr rfl) (w_p1 (by decide) (Or.inr rfl) (w_p1 (by decide) (Or.inr rfl) e11493))), (w_p1 (by decide) (Or.inr rfl) (w_p1 (by decide) (Or.inr rfl) (w_p1 (by decide) (Or.inr rfl) e11494))), (w_e1 _ _ _), by omega, by omega, by omega⟩ ⟨by omega, by omega⟩
                  · have c11575_ : v11574.toInt ≥ 0 := en_j_lt_f c11575
                    refine At.enter rfl ?_
                    refine r_lload_n rfl ?_
                    refine r_lload rfl ?_
                    refine r_lcmp _ rfl ?_
                    refine r_ifs 13 rfl (fun c11581 => ?_) (fun c11581 => ?_)
                    · have c11581_ : v11574.toInt > 9 := en_j_gt_t c11581
                      refine At.enter rfl ?_
                      refine r_iconst 0 rfl ?_
                      refine Ar.fall 18 rfl ?_
                      refine At.enter rfl ?_
                      refine q_iretz (by decide) ?_
                      refine At.enter rfl ?_
                      refine r_ift (by decide) ?_
                      refine At.enter rfl ?_
                      refine r_iconst 0 rfl ?_
                      refine Ar.fall 53 rfl ?_
                      refine At.enter rfl ?_
                      refine q_iretz (by decide) ?_
                      refine At.enter rfl ?_
                      refine r_ift (by decide) ?_
                      refine At.enter rfl ?_
                      refine r_iconst 0 rfl ?_
                      refine Ar.fall 141 rfl ?_
                      refine At.enter rfl ?_
                      refine r_istore _ rfl ?_
                      refine r_iload (w_e1 _ _ _) ?_
                      refine r_ift (by decide) ?_
                      refine At.enter rfl ?_
                      refine r_aload_n (w_p1 (by decide) (Or.inr rfl) (w_p1 (by decide) (Or.inr rfl) e11492)) ?_
                      refine r_dup rfl ?_
                      obtain ⟨v11582, hv11582⟩ : ∃ v, gI g11481 231 6 = v := ⟨_, rfl⟩
                      refine q_getI (Sh.int hI11482.1 kx_231 rfl) v11582 hv11582 ?_
                      refine r_iconst 1 rfl ?_
                      refine q_iaddO (fun v11583 _ => ?_)
                      refine q_putI (Sh.int hI11482.1 kx_231 rfl) rfl ?_
                      have hI11584 := HI.wI0 hI11482 kx_231 rfl (p := 231) (b := 6) (v := v11583) rfl
                      have hF11585 := Fr.wI (p := 231) (b := 6) (v := v11583) hF11483 rfl
                      refine Ar.fall 214 rfl ?_
                      refine At.enter rfl ?_
                      refine q_iinc (w_p1 (by decide) (Or.inr rfl) (w_p1 (by decide) (Or.inr rfl) e11495)) (x11480.toInt + 6) rfl (by omega) (fun v11586 hv11586 => ?_)
                      refine r_goto ?_
                      exact ih11486 (405 - v11586.toInt) _ _ ⟨x11479, v11586, by first | rfl | omega, hI11584, hF11585, ((gI_sI_ne (by decide)).trans e11487), ((eA_c gA_sI).trans e11488), ((eA_c gA_sI).trans e11489), ((eA_c gA_sI).trans e11490), ((eA_c gA_sI).trans e11491), (w_p1 (by decide) (Or.inr rfl) (w_p1 (by decide) (Or.inr rfl) (w_p1 (by decide) (Or.inr rfl) e11492))), (w_p1 (by decide) (Or.inr rfl) (w_p1 (by decide) (Or.inr rfl) (w_p1 (by decide) (Or.inr rfl) e11493))), (w_p1 (by decide) (Or.inr rfl) (w_p1 (by decide) (Or.inr rfl) (w_p1 (by decide) (Or.inr rfl) e11494))), (w_e1 _ _ _), by omega, by omega, by omega⟩ ⟨by omega, by omega⟩
                    · have c11581_ : v11574.toInt ≤ 9 := en_j_gt_f c11581
                      refine At.enter rfl ?_
                      refine r_iconst 1 rfl ?_
                      refine r_goto ?_
                      refine At.enter rfl ?_
                      refine q_iretz (by decide) ?_
                      refine At.enter rfl ?_
                      refine r_iff 36 rfl (by decide) ?_
                      refine At.enter rfl ?_
                      refine r_iload_n rfl ?_
                      refine q_i2l (fun v11587 hv11587 => ?_)
                      refine r_lconst 0 rfl ?_
                      refine r_ldc2 9999 rfl ?_
                      refine q_inlS 45 rfl [.long v11587, .long 0, .long 9999] [] (Nat.le_of_ble_eq_true rfl) rfl ?_
                      refine Ev.mk rfl rfl ⟨Nat.le_of_ble_eq_true rfl, Or.inl rfl⟩ ?_
                      show At _ none _ _ (0, [(0, .long v11587), (2, .long 0), (4, .long 9999)], [], (_, _)) _
                      refine At.enter rfl ?_
                      refine r_lload_n rfl ?_
                      refine r_lload_n rfl ?_
                      refine r_lcmp _ rfl ?_
                      refine r_ifs 6 rfl (fun c11588 => ?_) (fun c11588 => ?_)
                      · have c11588_ : v11587.toInt < 0 := en_j_lt_t c11588
                        refine At.enter rfl ?_
                        refine r_iconst 0 rfl ?_
                        refine Ar.fall 18 rfl ?_
                        refine At.enter rfl ?_
                        refine q_iretz (by decide) ?_
                        refine At.enter rfl ?_
                        refine r_ift (by decide) ?_
                        refine At.enter rfl ?_
                        refine r_iconst 0 rfl ?_
                        refine Ar.fall 53 rfl ?_
                        refine At.enter rfl ?_
                        refine q_iretz (by decide) ?_
                        refine At.enter rfl ?_
                        refine r_ift (by decide) ?_
                        refine At.enter rfl ?_
                        refine r_iconst 0 rfl ?_
                        refine Ar.fall 141 rfl ?_
                        refine At.enter rfl ?_
                        refine r_istore _ rfl ?_
                        refine r_iload (w_e1 _ _ _) ?_
                        refine r_ift (by decide) ?_
                        refine At.enter rfl ?_
                        refine r_aload_n (w_p1 (by decide) (Or.inr rfl) (w_p1 (by decide) (Or.inr rfl) e11492)) ?_
                        refine r_dup rfl ?_
                        obtain ⟨v11589, hv11589⟩ : ∃ v, gI g11481 231 6 = v := ⟨_, rfl⟩
                        refine q_getI (Sh.int hI11482.1 kx_231 rfl) v11589 hv11589 ?_
                        refine r_iconst 1 rfl ?_
                        refine q_iaddO (fun v11590 _ => ?_)
                        refine q_putI (Sh.int hI11482.1 kx_231 rfl) rfl ?_
                        have hI11591 := HI.wI0 hI11482 kx_231 rfl (p := 231) (b := 6) (v := v11590) rfl
                        have hF11592 := Fr.wI (p := 231) (b := 6) (v := v11590) hF11483 rfl
                        refine Ar.fall 214 rfl ?_
                        refine At.enter rfl ?_
                        refine q_iinc (w_p1 (by decide) (Or.inr rfl) (w_p1 (by decide) (Or.inr rfl) e11495)) (x11480.toInt + 6) rfl (by omega) (fun v11593 hv11593 => ?_)
                        refine r_goto ?_
                        exact ih11486 (405 - v11593.toInt) _ _ ⟨x11479, v11593, by first | rfl | omega, hI11591, hF11592, ((gI_sI_ne (by decide)).trans e11487), ((eA_c gA_sI).trans e11488), ((eA_c gA_sI).trans e11489), ((eA_c gA_sI).trans e11490), ((eA_c gA_sI).trans e11491), (w_p1 (by decide) (Or.inr rfl) (w_p1 (by decide) (Or.inr rfl) (w_p1 (by decide) (Or.inr rfl) e11492))), (w_p1 (by decide) (Or.inr rfl) (w_p1 (by decide) (Or.inr rfl) (w_p1 (by decide) (Or.inr rfl) e11493))), (w_p1 (by decide) (Or.inr rfl) (w_p1 (by decide) (Or.inr rfl) (w_p1 (by decide) (Or.inr rfl) e11494))), (w_e1 _ _ _), by omega, by omega, by omega⟩ ⟨by omega, by omega⟩
                      · have c11588_ : v11587.toInt ≥ 0 := en_j_lt_f c11588
                        refine At.enter rfl ?_
                        refine r_lload_n rfl ?_
                        refine r_lload rfl ?_
                        refine r_lcmp _ rfl ?_
                        refine r_ifs 13 rfl (fun c11594 => ?_) (fun c11594 => ?_)
                        · have c11594_ : v11587.toInt > 9999 := en_j_gt_t c11594
                          refine At.enter rfl ?_
                          refine r_iconst 0 rfl ?_
                          refine Ar.fall 18 rfl ?_
                          refine At.enter rfl ?_
                          refine q_iretz (by decide) ?_
                          refine At.enter rfl ?_
                          refine r_ift (by decide) ?_
                          refine At.enter rfl ?_
                          refine r_iconst 0 rfl ?_
                          refine Ar.fall 53 rfl ?_
                          refine At.enter rfl ?_
                          refine q_iretz (by decide) ?_
                          refine At.enter rfl ?_
                          refine r_ift (by decide) ?_
                          refine At.enter rfl ?_
                          refine r_iconst 0 rfl ?_
                          refine Ar.fall 141 rfl ?_
                          refine At.enter rfl ?_
                          refine r_istore _ rfl ?_
                          refine r_iload (w_e1 _ _ _) ?_
                          refine r_ift (by decide) ?_
                          refine At.enter rfl ?_
                          refine r_aload_n (w_p1 (by decide) (Or.inr rfl) (w_p1 (by decide) (Or.inr rfl) e11492)) ?_
                          refine r_dup rfl ?_
                          obtain ⟨v11595, hv11595⟩ : ∃ v, gI g11481 231 6 = v := ⟨_, rfl⟩
                          refine q_getI (Sh.int hI11482.1 kx_231 rfl) v11595 hv11595 ?_
                          refine r_iconst 1 rfl ?_
                          refine q_iaddO (fun v11596 _ => ?_)
                          refine q_putI (Sh.int hI11482.1 kx_231 rfl) rfl ?_
                          have hI11597 := HI.wI0 hI11482 kx_231 rfl (p := 231) (b := 6) (v := v11596) rfl
                          have hF11598 := Fr.wI (p := 231) (b := 6) (v := v11596) hF11483 rfl
                          refine Ar.fall 214 rfl ?_
                          refine At.enter rfl ?_
                          refine q_iinc (w_p1 (by decide) (Or.inr rfl) (w_p1 (by decide) (Or.inr rfl) e11495)) (x11480.toInt + 6) rfl (by omega) (fun v11599 hv11599 => ?_)
                          refine r_goto ?_
                          exact ih11486 (405 - v11599.toInt) _ _ ⟨x11479, v11599, by first | rfl | omega, hI11597, hF11598, ((gI_sI_ne (by decide)).trans e11487), ((eA_c gA_sI).trans e11488), ((eA_c gA_sI).trans e11489), ((eA_c gA_sI).trans e11490), ((eA_c gA_sI).trans e11491), (w_p1 (by decide) (Or.inr rfl) (w_p1 (by decide) (Or.inr rfl) (w_p1 (by decide) (Or.inr rfl) e11492))), (w_p1 (by decide) (Or.inr rfl) (w_p1 (by decide) (Or.inr rfl) (w_p1 (by decide) (Or.inr rfl) e11493))), (w_p1 (by decide) (Or.inr rfl) (w_p1 (by decide) (Or.inr rfl) (w_p1 (by decide) (Or.inr rfl) e11494))), (w_e1 _ _ _), by omega, by omega, by omega⟩ ⟨by omega, by omega⟩
                        · have c11594_ : v11587.toInt ≤ 9999 := en_j_gt_f c11594
                          refine At.enter rfl ?_
                          refine r_iconst 1 rfl ?_
                          refine r_goto ?_
                          refine At.enter rfl ?_
                          refine q_iretz (by decide) ?_
                          refine At.enter rfl ?_
                          refine r_iff 48 rfl (by decide) ?_
                          refine At.enter rfl ?_
                          refine r_iconst 1 rfl ?_
                          refine r_goto ?_
                          refine At.enter rfl ?_
                          refine q_iretz (by decide) ?_
                          refine At.enter rfl ?_
                          refine r_iff 106 rfl (by decide) ?_
                          refine At.enter rfl ?_
                          refine r_aload_n (w_p1 (by decide) (Or.inr rfl) e11492) ?_
                          refine r_aload_n (w_p1 (by decide) (Or.inr rfl) e11492) ?_
                          refine q_getR (Sh.ref hI11482.1 kx_231 rfl) ?_
                          refine r_iload_n (w_p1 (by decide) (Or.inr rfl) e11495) ?_
                          refine r_iconst 1 rfl ?_
                          refine q_iadd (x11480.toInt + 1) rfl (by omega) (fun v11600 hv11600 => ?_)
                          obtain ⟨v11601, hv11601⟩ : ∃ v, eA g0 236 (x11480.toInt + 1) = v := ⟨_, rfl⟩
                          refine q_iald (Sh.arr hI11482.1 ka_236) (x11480.toInt + 1) (by omega) (by omega) v11601 ((eA_c (hF11483.2.1 236 (by decide))).trans hv11601) ?_
                          refine q_inlV 118 rfl [.ref 231, .int v11601] [] (Nat.le_of_ble_eq_true rfl) rfl ?_
                          refine Ev.mk rfl rfl ⟨Nat.le_of_ble_eq_true rfl, Or.inr (q_rc hI11482.1 kx_231 rfl)⟩ ?_
                          show At _ none _ _ (0, [(0, .ref 231), (1, .int v11601)], [], (_, _)) _
                          refine At.enter rfl ?_
                          refine r_iload_n rfl ?_
                          refine q_i2l (fun v11602 hv11602 => ?_)
                          refine r_lconst 0 rfl ?_
                          refine r_aload_n rfl ?_
                          refine q_getR (Sh.ref hI11482.1 kx_231 rfl) ?_
                          refine r_iconst 0 rfl ?_
                          refine q_iald (Sh.arr hI11482.1 ka_233) 0 rfl (by decide) v7785 e11488 ?_
                          refine q_i2l (fun v11603 hv11603 => ?_)
                          refine r_lconst 1 rfl ?_
                          refine q_lsub (v11603.toInt - 1) rfl (by omega) (fun v11604 hv11604 => ?_)
                          refine q_inlS 15 rfl [.long v11602, .long 0, .long v11604] [] (Nat.le_of_ble_eq_true rfl) rfl ?_
                          refine Ev.mk rfl rfl ⟨Nat.le_of_ble_eq_true rfl, Or.inl rfl⟩ ?_
                          show At _ none _ _ (0, [(0, .long v11602), (2, .long 0), (4, .long v11604)], [], (_, _)) _
                          refine At.enter rfl ?_
                          refine r_lload_n rfl ?_
                          refine r_lload_n rfl ?_
                          refine r_lcmp _ rfl ?_
                          refine r_ifs 6 rfl (fun c11605 => ?_) (fun c11605 => ?_)
                          · have c11605_ : v11602.toInt < 0 := en_j_lt_t c11605
                            refine At.enter rfl ?_
                            refine r_iconst 0 rfl ?_
                            refine Ar.fall 18 rfl ?_
                            refine At.enter rfl ?_
                            refine q_iretz (by decide) ?_
                            refine At.enter rfl ?_
                            refine q_iretz (by decide) ?_
                            refine At.enter rfl ?_
                            refine r_ift (by decide) ?_
                            refine At.enter rfl ?_
                            refine r_iconst 0 rfl ?_
                            refine Ar.fall 141 rfl ?_
                            refine At.enter rfl ?_
                            refine r_istore _ rfl ?_
                            refine r_iload (w_e1 _ _ _) ?_
                            refine r_ift (by decide) ?_
                            refine At.enter rfl ?_
                            refine r_aload_n (w_p1 (by decide) (Or.inr rfl) (w_p1 (by decide) (Or.inr rfl) e11492)) ?_
                            refine r_dup rfl ?_
                            obtain ⟨v11606, hv11606⟩ : ∃ v, gI g11481 231 6 = v := ⟨_, rfl⟩
                            refine q_getI (Sh.int hI11482.1 kx_231 rfl) v11606 hv11606 ?_
                            refine r_iconst 1 rfl ?_
                            refine q_iaddO (fun v11607 _ => ?_)
                            refine q_putI (Sh.int hI11482.1 kx_231 rfl) rfl ?_
                            have hI11608 := HI.wI0 hI11482 kx_231 rfl (p := 231) (b := 6) (v := v11607) rfl
                            have hF11609 := Fr.wI (p := 231) (b := 6) (v := v11607) hF11483 rfl
                            refine Ar.fall 214 rfl ?_
                            refine At.enter rfl ?_
                            refine q_iinc (w_p1 (by decide) (Or.inr rfl) (w_p1 (by decide) (Or.inr rfl) e11495)) (x11480.toInt + 6) rfl (by omega) (fun v11610 hv11610 => ?_)
                            refine r_goto ?_
                            exact ih11486 (405 - v11610.toInt) _ _ ⟨x11479, v11610, by first | rfl | omega, hI11608, hF11609, ((gI_sI_ne (by decide)).trans e11487), ((eA_c gA_sI).trans e11488), ((eA_c gA_sI).trans e11489), ((eA_c gA_sI).trans e11490), ((eA_c gA_sI).trans e11491), (w_p1 (by decide) (Or.inr rfl) (w_p1 (by decide) (Or.inr rfl) (w_p1 (by decide) (Or.inr rfl) e11492))), (w_p1 (by decide) (Or.inr rfl) (w_p1 (by decide) (Or.inr rfl) (w_p1 (by decide) (Or.inr rfl) e11493))), (w_p1 (by decide) (Or.inr rfl) (w_p1 (by decide) (Or.inr rfl) (w_p1 (by decide) (Or.inr rfl) e11494))), (w_e1 _ _ _), by omega, by omega, by omega⟩ ⟨by omega, by omega⟩
                          · have c11605_ : v11602.toInt ≥ 0 := en_j_lt_f c11605
                            refine At.enter rfl ?_
                            refine r_lload_n rfl ?_
                            refine r_lload rfl ?_
                            refine r_lcmp _ rfl ?_
                            refine r_ifs 13 rfl (fun c11611 => ?_) (fun c11611 => ?_)
                            · have c11611_ : v11602.toInt > v11604.toInt := en_j_gt_t c11611
                              refine At.enter rfl ?_
                              refine r_iconst 0 rfl ?_
                              refine Ar.fall 18 rfl ?_
                              refine At.enter rfl ?_
                              refine q_iretz (by decide) ?_
                              refine At.enter rfl ?_
                              refine q_iretz (by decide) ?_
                              refine At.enter rfl ?_
                              refine r_ift (by decide) ?_
                              refine At.enter rfl ?_
                              refine r_iconst 0 rfl ?_
                              refine Ar.fall 141 rfl ?_
                              refine At.enter rfl ?_
                              refine r_istore _ rfl ?_
                              refine r_iload (w_e1 _ _ _) ?_
                              refine r_ift (by decide) ?_
                              refine At.enter rfl ?_
                              refine r_aload_n (w_p1 (by decide) (Or.inr rfl) (w_p1 (by decide) (Or.inr rfl) e11492)) ?_
                              refine r_dup rfl ?_
                              obtain ⟨v11612, hv11612⟩ : ∃ v, gI g11481 231 6 = v := ⟨_, rfl⟩
                              refine q_getI (Sh.int hI11482.1 kx_231 rfl) v11612 hv11612 ?_
                              refine r_iconst 1 rfl ?_
                              refine q_iaddO (fun v11613 _ => ?_)
                              refine q_putI (Sh.int hI11482.1 kx_231 rfl) rfl ?_
                              have hI11614 := HI.wI0 hI11482 kx_231 rfl (p := 231) (b := 6) (v := v11613) rfl
                              have hF11615 := Fr.wI (p := 231) (b := 6) (v := v11613) hF11483 rfl
                              refine Ar.fall 214 rfl ?_
                              refine At.enter rfl ?_
                              refine q_iinc (w_p1 (by decide) (Or.inr rfl) (w_p1 (by decide) (Or.inr rfl) e11495)) (x11480.toInt + 6) rfl (by omega) (fun v11616 hv11616 => ?_)
                              refine r_goto ?_
                              exact ih11486 (405 - v11616.toInt) _ _ ⟨x11479, v11616, by first | rfl | omega, hI11614, hF11615, ((gI_sI_ne (by decide)).trans e11487), ((eA_c gA_sI).trans e11488), ((eA_c gA_sI).trans e11489), ((eA_c gA_sI).trans e11490), ((eA_c gA_sI).trans e11491), (w_p1 (by decide) (Or.inr rfl) (w_p1 (by decide) (Or.inr rfl) (w_p1 (by decide) (Or.inr rfl) e11492))), (w_p1 (by decide) (Or.inr rfl) (w_p1 (by decide) (Or.inr rfl) (w_p1 (by decide) (Or.inr rfl) e11493))), (w_p1 (by decide) (Or.inr rfl) (w_p1 (by decide) (Or.inr rfl) (w_p1 (by decide) (Or.inr rfl) e11494))), (w_e1 _ _ _), by omega, by omega, by omega⟩ ⟨by omega, by omega⟩
                            · have c11611_ : v11602.toInt ≤ v11604.toInt := en_j_gt_f c11611
                              refine At.enter rfl ?_
                              refine r_iconst 1 rfl ?_
                              refine r_goto ?_
                              refine At.enter rfl ?_
                              refine q_iretz (by decide) ?_
                              refine At.enter rfl ?_
                              refine q_iretz (by decide) ?_
                              refine At.enter rfl ?_
                              refine r_iff 121 rfl (by decide) ?_
                              refine At.enter rfl ?_
                              refine r_aload_n (w_p1 (by decide) (Or.inr rfl) e11492) ?_
                              refine r_aload_n (w_p1 (by decide) (Or.inr rfl) e11492) ?_
                              refine q_getR (Sh.ref hI11482.1 kx_231 rfl) ?_
                              refine r_iload_n (w_p1 (by decide) (Or.inr rfl) e11495) ?_
                              refine r_iconst 2 rfl ?_
                              refine q_iadd (x11480.toInt + 2) rfl (by omega) (fun v11617 hv11617 => ?_)
                              obtain ⟨v11618, hv11618⟩ : ∃ v, eA g0 236 (x11480.toInt + 2) = v := ⟨_, rfl⟩
                              refine q_iald (Sh.arr hI11482.1 ka_236) (x11480.toInt + 2) (by omega) (by omega) v11618 ((eA_c (hF11483.2.1 236 (by decide))).trans hv11618) ?_
                              refine q_inlV 133 rfl [.ref 231, .int v11618] [] (Nat.le_of_ble_eq_true rfl) rfl ?_
                              refine Ev.mk rfl rfl ⟨Nat.le_of_ble_eq_true rfl, Or.inr (q_rc hI11482.1 kx_231 rfl)⟩ ?_
                              show At _ none _ _ (0, [(0, .ref 231), (1, .int v11618)], [], (_, _)) _
                              refine At.enter rfl ?_
                              refine r_iload_n rfl ?_
                              refine q_i2l (fun v11619 hv11619 => ?_)
                              refine r_lconst 0 rfl ?_
                              refine r_aload_n rfl ?_
                              refine q_getR (Sh.ref hI11482.1 kx_231 rfl) ?_
                              refine r_iconst 0 rfl ?_
                              refine q_iald (Sh.arr hI11482.1 ka_233) 0 rfl (by decide) v7785 e11488 ?_
                              refine q_i2l (fun v11620 hv11620 => ?_)
                              refine r_lconst 1 rfl ?_
                              refine q_lsub (v11620.toInt - 1) rfl (by omega) (fun v11621 hv11621 => ?_)
                              refine q_inlS 15 rfl [.long v11619, .long 0, .long v11621] [] (Nat.le_of_ble_eq_true rfl) rfl ?_
                              refine Ev.mk rfl rfl ⟨Nat.le_of_ble_eq_true rfl, Or.inl rfl⟩ ?_
                              show At _ none _ _ (0, [(0, .long v11619), (2, .long 0), (4, .long v11621)], [], (_, _)) _
                              refine At.enter rfl ?_
                              refine r_lload_n rfl ?_
                              refine r_lload_n rfl ?_
                              refine r_lcmp _ rfl ?_
                              refine r_ifs 6 rfl (fun c11622 => ?_) (fun c11622 => ?_)
                              · have c11622_ : v11619.toInt < 0 := en_j_lt_t c11622
                                refine At.enter rfl ?_
                                refine r_iconst 0 rfl ?_
                                refine Ar.fall 18 rfl ?_
                                refine At.enter rfl ?_
                                refine q_iretz (by decide) ?_
                                refine At.enter rfl ?_
                                refine q_iretz (by decide) ?_
                                refine At.enter rfl ?_
                                refine r_ift (by decide) ?_
                                refine At.enter rfl ?_
                                refine r_iconst 0 rfl ?_
                                refine Ar.fall 141 rfl ?_
                                refine At.enter rfl ?_
                                refine r_istore _ rfl ?_
                                refine r_iload (w_e1 _ _ _) ?_
                                refine r_ift (by decide) ?_
                                refine At.enter rfl ?_
                                refine r_aload_n (w_p1 (by decide) (Or.inr rfl) (w_p1 (by decide) (Or.inr rfl) e11492)) ?_
                                refine r_dup rfl ?_
                                obtain ⟨v11623, hv11623⟩ : ∃ v, gI g11481 231 6 = v := ⟨_, rfl⟩
                                refine q_getI (Sh.int hI11482.1 kx_231 rfl) v11623 hv11623 ?_
                                refine r_iconst 1 rfl ?_
                                refine q_iaddO (fun v11624 _ => ?_)
                                refine q_putI (Sh.int hI11482.1 kx_231 rfl) rfl ?_
                                have hI11625 := HI.wI0 hI11482 kx_231 rfl (p := 231) (b := 6) (v := v11624) rfl
                                have hF11626 := Fr.wI (p := 231) (b := 6) (v := v11624) hF11483 rfl
                                refine Ar.fall 214 rfl ?_
                                refine At.enter rfl ?_
                                refine q_iinc (w_p1 (by decide) (Or.inr rfl) (w_p1 (by decide) (Or.inr rfl) e11495)) (x11480.toInt + 6) rfl (by omega) (fun v11627 hv11627 => ?_)
                                refine r_goto ?_
                                exact ih11486 (405 - v11627.toInt) _ _ ⟨x11479, v11627, by first | rfl | omega, hI11625, hF11626, ((gI_sI_ne (by decide)).trans e11487), ((eA_c gA_sI).trans e11488), ((eA_c gA_sI).trans e11489), ((eA_c gA_sI).trans e11490), ((eA_c gA_sI).trans e11491), (w_p1 (by decide) (Or.inr rfl) (w_p1 (by decide) (Or.inr rfl) (w_p1 (by decide) (Or.inr rfl) e11492))), (w_p1 (by decide) (Or.inr rfl) (w_p1 (by decide) (Or.inr rfl) (w_p1 (by decide) (Or.inr rfl) e11493))), (w_p1 (by decide) (Or.inr rfl) (w_p1 (by decide) (Or.inr rfl) (w_p1 (by decide) (Or.inr rfl) e11494))), (w_e1 _ _ _), by omega, by omega, by omega⟩ ⟨by omega, by omega⟩
                              · have c11622_ : v11619.toInt ≥ 0 := en_j_lt_f c11622
                                refine At.enter rfl ?_
                                refine r_lload_n rfl ?_
                                refine r_lload rfl ?_
                                refine r_lcmp _ rfl ?_
                                refine r_ifs 13 rfl (fun c11628 => ?_) (fun c11628 => ?_)
                                · have c11628_ : v11619.toInt > v11621.toInt := en_j_gt_t c11628
                                  refine At.enter rfl ?_
                                  refine r_iconst 0 rfl ?_
                                  refine Ar.fall 18 rfl ?_
                                  refine At.enter rfl ?_
                                  refine q_iretz (by decide) ?_
                                  refine At.enter rfl ?_
                                  refine q_iretz (by decide) ?_
                                  refine At.enter rfl ?_
                                  refine r_ift (by decide) ?_
                                  refine At.enter rfl ?_
                                  refine r_iconst 0 rfl ?_
                                  refine Ar.fall 141 rfl ?_
                                  refine At.enter rfl ?_
                                  refine r_istore _ rfl ?_
                                  refine r_iload (w_e1 _ _ _) ?_
                                  refine r_ift (by decide) ?_
                                  refine At.enter rfl ?_
                                  refine r_aload_n (w_p1 (by decide) (Or.inr rfl) (w_p1 (by decide) (Or.inr rfl) e11492)) ?_
                                  refine r_dup rfl ?_
                                  obtain ⟨v11629, hv11629⟩ : ∃ v, gI g11481 231 6 = v := ⟨_, rfl⟩
                                  refine q_getI (Sh.int hI11482.1 kx_231 rfl) v11629 hv11629 ?_
                                  refine r_iconst 1 rfl ?_
                                  refine q_iaddO (fun v11630 _ => ?_)
                                  refine q_putI (Sh.int hI11482.1 kx_231 rfl) rfl ?_
                                  have hI11631 := HI.wI0 hI11482 kx_231 rfl (p := 231) (b := 6) (v := v11630) rfl
                                  have hF11632 := Fr.wI (p := 231) (b := 6) (v := v11630) hF11483 rfl
                                  refine Ar.fall 214 rfl ?_
                                  refine At.enter rfl ?_
                                  refine q_iinc (w_p1 (by decide) (Or.inr rfl) (w_p1 (by decide) (Or.inr rfl) e11495)) (x11480.toInt + 6) rfl (by omega) (fun v11633 hv11633 => ?_)
                                  refine r_goto ?_
                                  exact ih11486 (405 - v11633.toInt) _ _ ⟨x11479, v11633, by first | rfl | omega, hI11631, hF11632, ((gI_sI_ne (by decide)).trans e11487), ((eA_c gA_sI).trans e11488), ((eA_c gA_sI).trans e11489), ((eA_c gA_sI).trans e11490), ((eA_c gA_sI).trans e11491), (w_p1 (by decide) (Or.inr rfl) (w_p1 (by decide) (Or.inr rfl) (w_p1 (by decide) (Or.inr rfl) e11492))), (w_p1 (by decide) (Or.inr rfl) (w_p1 (by decide) (Or.inr rfl) (w_p1 (by decide) (Or.inr rfl) e11493))), (w_p1 (by decide) (Or.inr rfl) (w_p1 (by decide) (Or.inr rfl) (w_p1 (by decide) (Or.inr rfl) e11494))), (w_e1 _ _ _), by omega, by omega, by omega⟩ ⟨by omega, by omega⟩
                                · have c11628_ : v11619.toInt ≤ v11621.toInt := en_j_gt_f c11628
                                  refine At.enter rfl ?_
                                  refine r_iconst 1 rfl ?_
                                  refine r_goto ?_
                                  refine At.enter rfl ?_
                                  refine q_iretz (by decide) ?_
                                  refine At.enter rfl ?_
                                  refine q_iretz (by decide) ?_
                                  refine At.enter rfl ?_
                                  refine r_iff 136 rfl (by decide) ?_
                                  refine At.enter rfl ?_
                                  refine r_iconst 1 rfl ?_
                                  refine r_goto ?_
                                  refine At.enter rfl ?_
                                  refine r_istore _ rfl ?_
                                  refine r_iload (w_e1 _ _ _) ?_
                                  refine r_iff 148 rfl (by decide) ?_
                                  refine At.enter rfl ?_
                                  refine r_aload_n (w_p1 (by decide) (Or.inr rfl) (w_p1 (by decide) (Or.inr rfl) e11492)) ?_
                                  refine r_aload_n (w_p1 (by decide) (Or.inr rfl) (w_p1 (by decide) (Or.inr rfl) e11492)) ?_
                                  refine q_getR (Sh.ref hI11482.1 kx_231 rfl) ?_
                                  refine r_iload_n (w_p1 (by decide) (Or.inr rfl) (w_p1 (by decide) (Or.inr rfl) e11495)) ?_
                                  refine q_iald (Sh.arr hI11482.1 ka_236) x11480.toInt rfl (by omega) v11541 ((eA_c (hF11483.2.1 236 (by decide))).trans hv11541) ?_
                                  refine r_aload_n (w_p1 (by decide) (Or.inr rfl) (w_p1 (by decide) (Or.inr rfl) e11492)) ?_
                                  refine q_getR (Sh.ref hI11482.1 kx_231 rfl) ?_
                                  refine r_iload_n (w_p1 (by decide) (Or.inr rfl) (w_p1 (by decide) (Or.inr rfl) e11495)) ?_
                                  refine r_iconst 1 rfl ?_
                                  refine q_iadd (x11480.toInt + 1) rfl (by omega) (fun v11634 hv11634 => ?_)
                                  refine q_iald (Sh.arr hI11482.1 ka_236) (x11480.toInt + 1) (by omega) (by omega) v11601 ((eA_c (hF11483.2.1 236 (by decide))).trans hv11601) ?_
                                  refine r_aload_n (w_p1 (by decide) (Or.inr rfl) (w_p1 (by decide) (Or.inr rfl) e11492)) ?_
                                  refine q_getR (Sh.ref hI11482.1 kx_231 rfl) ?_
                                  refine r_iload_n (w_p1 (by decide) (Or.inr rfl) (w_p1 (by decide) (Or.inr rfl) e11495)) ?_
                                  refine r_iconst 2 rfl ?_
                                  refine q_iadd (x11480.toInt + 2) rfl (by omega) (fun v11635 hv11635 => ?_)
                                  refine q_iald (Sh.arr hI11482.1 ka_236) (x11480.toInt + 2) (by omega) (by omega) v11618 ((eA_c (hF11483.2.1 236 (by decide))).trans hv11618) ?_
                                  refine r_aload_n (w_p1 (by decide) (Or.inr rfl) (w_p1 (by decide) (Or.inr rfl) e11492)) ?_
                                  refine q_getR (Sh.ref hI11482.1 kx_231 rfl) ?_
                                  refine r_iload_n (w_p1 (by decide) (Or.inr rfl) (w_p1 (by decide) (Or.inr rfl) e11495)) ?_
                                  refine r_iconst 3 rfl ?_
                                  refine q_iadd (x11480.toInt + 3) rfl (by omega) (fun v11636 hv11636 => ?_)
                                  refine q_iald (Sh.arr hI11482.1 ka_236) (x11480.toInt + 3) (by omega) (by omega) v11543 ((eA_c (hF11483.2.1 236 (by decide))).trans hv11543) ?_
                                  refine r_aload_n (w_p1 (by decide) (Or.inr rfl) (w_p1 (by decide) (Or.inr rfl) e11492)) ?_
                                  refine q_getR (Sh.ref hI11482.1 kx_231 rfl) ?_
                                  refine r_iload_n (w_p1 (by decide) (Or.inr rfl) (w_p1 (by decide) (Or.inr rfl) e11495)) ?_
                                  refine r_iconst 4 rfl ?_
                                  refine q_iadd (x11480.toInt + 4) rfl (by omega) (fun v11637 hv11637 => ?_)
                                  refine q_iald (Sh.arr hI11482.1 ka_236) (x11480.toInt + 4) (by omega) (by omega) v11545 ((eA_c (hF11483.2.1 236 (by decide))).trans hv11545) ?_
                                  refine r_aload_n (w_p1 (by decide) (Or.inr rfl) (w_p1 (by decide) (Or.inr rfl) e11492)) ?_
                                  refine q_getR (Sh.ref hI11482.1 kx_231 rfl) ?_
                                  refine r_iload_n (w_p1 (by decide) (Or.inr rfl) (w_p1 (by decide) (Or.inr rfl) e11495)) ?_
                                  refine r_iconst 5 rfl ?_
                                  refine q_iadd (x11480.toInt + 5) rfl (by omega) (fun v11638 hv11638 => ?_)
                                  refine q_iald (Sh.arr hI11482.1 ka_236) (x11480.toInt + 5) (by omega) (by omega) v11547 ((eA_c (hF11483.2.1 236 (by decide))).trans hv11547) ?_
                                  refine q_inlV 198 rfl [.ref 231, .int v11541, .int v11601, .int v11618, .int v11543, .int v11545, .int v11547] [] (Nat.le_of_ble_eq_true rfl) rfl ?_
                                  refine Ev.mk rfl rfl ⟨Nat.le_of_ble_eq_true rfl, Or.inr (q_rc hI11482.1 kx_231 rfl)⟩ ?_
                                  show At _ none _ _ (0, [(0, .ref 231), (1, .int v11541), (2, .int v11601), (3, .int v11618), (4, .int v11543), (5, .int v11545), (6, .int v11547)], [], (_, _)) _
                                  refine At.enter rfl ?_
                                  refine r_bipush 46 rfl ?_
                                  refine r_bipush 6 rfl ?_
                                  refine r_aload_n rfl ?_
                                  refine q_getR (Sh.ref hI11482.1 kx_231 rfl) ?_
                                  refine r_iconst 1 rfl ?_
                                  refine q_iald (Sh.arr hI11482.1 ka_233) 1 rfl (by decide) v11534 hv11534 ?_
                                  refine q_imul (6 * v11534.toInt) rfl (by omega) (fun v11639 hv11639 => ?_)
                                  refine q_iadd (46 + v11639.toInt) rfl (by omega) (fun v11640 hv11640 => ?_)
                                  refine r_istore ([(7, .int v11640), (0, .ref 231), (1, .int v11541), (2, .int v11601), (3, .int v11618), (4, .int v11543), (5, .int v11545), (6, .int v11547)]) rfl ?_
                                  refine r_aload_n rfl ?_
                                  refine q_getR (Sh.ref hI11482.1 kx_231 rfl) ?_
                                  refine r_iload rfl ?_
                                  refine r_iload_n rfl ?_
                                  refine q_iast (Sh.arr hI11482.1 ka_233) ((6 * v11534.toInt + 46)) (by omega) (by omega) ?_
                                  have hI11641 := HI.wl hI11482 (j := (6 * v11534.toInt + 46)) (v := v11541) (v11534.toInt) 0 (by omega) (by decide) (by omega) (by omega)
                                  have hF11642 := Fr.wA (p := 233) (j := (6 * v11534.toInt + 46)) (v := v11541) hF11483 rfl
                                  refine r_aload_n rfl ?_
                                  refine q_getR (Sh.ref hI11641.1 kx_231 rfl) ?_
                                  refine r_iload rfl ?_
                                  refine r_iconst 1 rfl ?_
                                  refine q_iadd (v11640.toInt + 1) rfl (by omega) (fun v11643 hv11643 => ?_)
                                  refine r_iload_n rfl ?_
                                  refine q_iast (Sh.arr hI11641.1 ka_233) ((6 * v11534.toInt + 47)) (by omega) (by omega) ?_
                                  have x11646 := HI.eqA hI11641 (p := 233) (j := 0) (((eA_sA_ne hI11482.1 ka_233 (by first | decide | omega) (by first | decide | omega) (by first | decide | omega)).trans e11488))
                                  have hI11644 := HI.wl hI11641 (j := (6 * v11534.toInt + 47)) (v := v11601) (v11534.toInt) 1 (by omega) (by decide) (by omega) (by omega)
                                  have hF11645 := Fr.wA (p := 233) (j := (6 * v11534.toInt + 47)) (v := v11601) hF11642 rfl
                                  refine r_aload_n rfl ?_
                                  refine q_getR (Sh.ref hI11644.1 kx_231 rfl) ?_
                                  refine r_iload rfl ?_
                                  refine r_iconst 2 rfl ?_
                                  refine q_iadd (v11640.toInt + 2) rfl (by omega) (fun v11647 hv11647 => ?_)
                                  refine r_iload_n rfl ?_
                                  refine q_iast (Sh.arr hI11644.1 ka_233) ((6 * v11534.toInt + 48)) (by omega) (by omega) ?_
                                  have x11650 := HI.eqA hI11644 (p := 233) (j := 0) ((((eA_sA_ne hI11641.1 ka_233 (by first | decide | omega) (by first | decide | omega) (by first | decide | omega)).trans (eA_sA_ne hI11482.1 ka_233 (by first | decide | omega) (by first | decide | omega) (by first | decide | omega))).trans e11488))
                                  have hI11648 := HI.wl hI11644 (j := (6 * v11534.toInt + 48)) (v := v11618) (v11534.toInt) 2 (by omega) (by decide) (by omega) (by omega)
                                  have hF11649 := Fr.wA (p := 233) (j := (6 * v11534.toInt + 48)) (v := v11618) hF11645 rfl
                                  refine r_aload_n rfl ?_
                                  refine q_getR (Sh.ref hI11648.1 kx_231 rfl) ?_
                                  refine r_iload rfl ?_
                                  refine r_iconst 3 rfl ?_
                                  refine q_iadd (v11640.toInt + 3) rfl (by omega) (fun v11651 hv11651 => ?_)
                                  refine r_iload rfl ?_
                                  refine q_iast (Sh.arr hI11648.1 ka_233) ((6 * v11534.toInt + 49)) (by omega) (by omega) ?_
                                  have hI11652 := HI.wl hI11648 (j := (6 * v11534.toInt + 49)) (v := v11543) (v11534.toInt) 3 (by omega) (by decide) (by omega) (by omega)
                                  have hF11653 := Fr.wA (p := 233) (j := (6 * v11534.toInt + 49)) (v := v11543) hF11649 rfl
                                  refine r_aload_n rfl ?_
                                  refine q_getR (Sh.ref hI11652.1 kx_231 rfl) ?_
                                  refine r_iload rfl ?_
                                  refine r_iconst 4 rfl ?_
                                  refine q_iadd (v11640.toInt + 4) rfl (by omega) (fun v11654 hv11654 => ?_)
                                  refine r_iload rfl ?_
                                  refine q_iast (Sh.arr hI11652.1 ka_233) ((6 * v11534.toInt + 50)) (by omega) (by omega) ?_
                                  have hI11655 := HI.wl hI11652 (j := (6 * v11534.toInt + 50)) (v := v11545) (v11534.toInt) 4 (by omega) (by decide) (by omega) (by omega)
                                  have hF11656 := Fr.wA (p := 233) (j := (6 * v11534.toInt + 50)) (v := v11545) hF11653 rfl
                                  refine r_aload_n rfl ?_
                                  refine q_getR (Sh.ref hI11655.1 kx_231 rfl) ?_
                                  refine r_iload rfl ?_
                                  refine r_iconst 5 rfl ?_
                                  refine q_iadd (v11640.toInt + 5) rfl (by omega) (fun v11657 hv11657 => ?_)
                                  refine r_iload rfl ?_
                                  refine q_iast (Sh.arr hI11655.1 ka_233) ((6 * v11534.toInt + 51)) (by omega) (by omega) ?_
                                  have hI11658 := HI.wl hI11655 (j := (6 * v11534.toInt + 51)) (v := v11547) (v11534.toInt) 5 (by omega) (by decide) (by omega) (by omega)
                                  have hF11659 := Fr.wA (p := 233) (j := (6 * v11534.toInt + 51)) (v := v11547) hF11656 rfl
                                  refine r_aload_n rfl ?_
                                  refine q_getR (Sh.ref hI11658.1 kx_231 rfl) ?_
                                  refine r_iconst 1 rfl ?_
                                  refine r_dup2 ⟨rfl, rfl⟩ ?_
                                  refine q_iald (Sh.arr hI11658.1 ka_233) 1 rfl (by decide) v11534 (((eA_sA_ne hI11655.1 ka_233 (by first | decide | omega) (by first | decide | omega) (by first | decide | omega)).trans ((eA_sA_ne hI11652.1 ka_233 (by first | decide | omega) (by first | decide | omega) (by first | decide | omega)).trans ((eA_sA_ne hI11648.1 ka_233 (by first | decide | omega) (by first | decide | omega) (by first | decide | omega)).trans ((eA_sA_ne hI11644.1 ka_233 (by first | decide | omega) (by first | decide | omega) (by first | decide | omega)).trans ((eA_sA_ne hI11641.1 ka_233 (by first | decide | omega) (by first | decide | omega) (by first | decide | omega)).trans (eA_sA_ne hI11482.1 ka_233 (by first | decide | omega) (by first | decide | omega) (by first | decide | omega))))))).trans hv11534) ?_
                                  refine r_iconst 1 rfl ?_
                                  refine q_iadd (v11534.toInt + 1) rfl (by omega) (fun v11660 hv11660 => ?_)
                                  refine q_iast (Sh.arr hI11658.1 ka_233) (1) rfl (by decide) ?_
                                  have x11663 := HI.eqA hI11658 (p := 233) (j := 0) ((((eA_sA_ne hI11655.1 ka_233 (by first | decide | omega) (by first | decide | omega) (by first | decide | omega)).trans ((eA_sA_ne hI11652.1 ka_233 (by first | decide | omega) (by first | decide | omega) (by first | decide | omega)).trans ((eA_sA_ne hI11648.1 ka_233 (by first | decide | omega) (by first | decide | omega) (by first | decide | omega)).trans ((eA_sA_ne hI11644.1 ka_233 (by first | decide | omega) (by first | decide | omega) (by first | decide | omega)).trans ((eA_sA_ne hI11641.1 ka_233 (by first | decide | omega) (by first | decide | omega) (by first | decide | omega)).trans (eA_sA_ne hI11482.1 ka_233 (by first | decide | omega) (by first | decide | omega) (by first | decide | omega))))))).trans e11488))
                                  have x11664 := HI.eqA hI11658 (p := 233) (j := 1) ((((eA_sA_ne hI11655.1 ka_233 (by first | decide | omega) (by first | decide | omega) (by first | decide | omega)).trans ((eA_sA_ne hI11652.1 ka_233 (by first | decide | omega) (by first | decide | omega) (by first | decide | omega)).trans ((eA_sA_ne hI11648.1 ka_233 (by first | decide | omega) (by first | decide | omega) (by first | decide | omega)).trans ((eA_sA_ne hI11644.1 ka_233 (by first | decide | omega) (by first | decide | omega) (by first | decide | omega)).trans ((eA_sA_ne hI11641.1 ka_233 (by first | decide | omega) (by first | decide | omega) (by first | decide | omega)).trans (eA_sA_ne hI11482.1 ka_233 (by first | decide | omega) (by first | decide | omega) (by first | decide | omega))))))).trans hv11534))
                                  have yv11665 := HI.lt hI11658
                                  have hI11661 := HI.wt hI11658 (j := 1) (v := v11660) (by omega) (by omega)
                                  have hF11662 := Fr.wA (p := 233) (j := 1) (v := v11660) hF11659 rfl
                                  refine q_vret ?_
                                  refine At.enter rfl ?_
                                  refine q_iinc (w_p1 (by decide) (Or.inr rfl) (w_p1 (by decide) (Or.inr rfl) e11494)) (x11479.toInt + 1) rfl (by omega) (fun v11666 hv11666 => ?_)
                                  refine r_goto ?_
                                  refine At.enter rfl ?_
                                  refine q_iinc (w_p1 (by decide) (Or.inr rfl) (w_p1 (by decide) (Or.inr rfl) (w_p1 (by decide) (Or.inr rfl) e11495))) (x11480.toInt + 6) rfl (by omega) (fun v11667 hv11667 => ?_)
                                  refine r_goto ?_
                                  exact ih11486 (405 - v11667.toInt) _ _ ⟨v11666, v11667, by first | rfl | omega, hI11661, hF11662, (((gI_sW).trans ((gI_sW).trans ((gI_sW).trans ((gI_sW).trans ((gI_sW).trans ((gI_sW).trans (gI_sW))))))).trans e11487), (((eA_sA_ne hI11658.1 ka_233 (by first | decide | omega) (by first | decide | omega) (by first | decide | omega)).trans ((eA_sA_ne hI11655.1 ka_233 (by first | decide | omega) (by first | decide | omega) (by first | decide | omega)).trans ((eA_sA_ne hI11652.1 ka_233 (by first | decide | omega) (by first | decide | omega) (by first | decide | omega)).trans ((eA_sA_ne hI11648.1 ka_233 (by first | decide | omega) (by first | decide | omega) (by first | decide | omega)).trans ((eA_sA_ne hI11644.1 ka_233 (by first | decide | omega) (by first | decide | omega) (by first | decide | omega)).trans ((eA_sA_ne hI11641.1 ka_233 (by first | decide | omega) (by first | decide | omega) (by first | decide | omega)).trans (eA_sA_ne hI11482.1 ka_233 (by first | decide | omega) (by first | decide | omega) (by first | decide | omega)))))))).trans e11488), (((eA_sA_ne hI11658.1 ka_233 (by first | decide | omega) (by first | decide | omega) (by first | decide | omega)).trans ((eA_sA_ne hI11655.1 ka_233 (by first | decide | omega) (by first | decide | omega) (by first | decide | omega)).trans ((eA_sA_ne hI11652.1 ka_233 (by first | decide | omega) (by first | decide | omega) (by first | decide | omega)).trans ((eA_sA_ne hI11648.1 ka_233 (by first | decide | omega) (by first | decide | omega) (by first | decide | omega)).trans ((eA_sA_ne hI11644.1 ka_233 (by first | decide | omega) (by first | decide | omega) (by first | decide | omega)).trans ((eA_sA_ne hI11641.1 ka_233 (by first | decide | omega) (by first | decide | omega) (by first | decide | omega)).trans (eA_sA_ne hI11482.1 ka_233 (by first | decide | omega) (by first | decide | omega) (by first | decide | omega)))))))).trans e11489), (((eA_sA_ne hI11658.1 ka_233 (by first | decide | omega) (by first | decide | omega) (by first | decide | omega)).trans ((eA_sA_ne hI11655.1 ka_233 (by first | decide | omega) (by first | decide | omega) (by first | decide | omega)).trans ((eA_sA_ne hI11652.1 ka_233 (by first | decide | omega) (by first | decide | omega) (by first | decide | omega)).trans ((eA_sA_ne hI11648.1 ka_233 (by first | decide | omega) (by first | decide | omega) (by first | decide | omega)).trans ((eA_sA_ne hI11644.1 ka_233 (by first | decide | omega) (by first | decide | omega) (by first | decide | omega)).trans ((eA_sA_ne hI11641.1 ka_233 (by first | decide | omega) (by first | decide | omega) (by first | decide | omega)).trans (eA_sA_ne hI11482.1 ka_233 (by first | decide | omega) (by first | decide | omega) (by first | decide | omega)))))))).trans e11490), (((eA_sA_ne hI11658.1 ka_233 (by first | decide | omega) (by first | decide | omega) (by first | decide | omega)).trans ((eA_sA_ne hI11655.1 ka_233 (by first | decide | omega) (by first | decide | omega) (by first | decide | omega)).trans ((eA_sA_ne hI11652.1 ka_233 (by first | decide | omega) (by first | decide | omega) (by first | decide | omega)).trans ((eA_sA_ne hI11648.1 ka_233 (by first | decide | omega) (by first | decide | omega) (by first | decide | omega)).trans ((eA_sA_ne hI11644.1 ka_233 (by first | decide | omega) (by first | decide | omega) (by first | decide | omega)).trans ((eA_sA_ne hI11641.1 ka_233 (by first | decide | omega) (by first | decide | omega) (by first | decide | omega)).trans (eA_sA_ne hI11482.1 ka_233 (by first | decide | omega) (by first | decide | omega) (by first | decide | omega)))))))).trans e11491), (w_p1 (by decide) (Or.inr rfl) (w_p1 (by decide) (Or.inr rfl) (w_p1 (by decide) (Or.inr rfl) (w_p1 (by decide) (Or.inr rfl) e11492)))), (w_p1 (by decide) (Or.inr rfl) (w_p1 (by decide) (Or.inr rfl) (w_p1 (by decide) (Or.inr rfl) (w_p1 (by decide) (Or.inr rfl) e11493)))), (w_p1 (by decide) (Or.inr rfl) (w_e1 _ _ _)), (w_e1 _ _ _), by omega, by omega, by omega⟩ ⟨by omega, by omega⟩
  · have c7782_ : v7779.toInt = 0 := en_k_ne_f c7782
    refine At.enter rfl ?_
    refine r_aload_n rfl ?_
    refine r_bipush (-6) rfl ?_
    refine r_callV 25 rfl [.ref 231, .int (-6)] [] (Nat.le_of_ble_eq_true rfl) rfl (T_X11_tell_231 _ hI7780 (-6) (by decide)) ?_
    rintro _ _ ⟨g11668, rfl, hI11669, hF11670, v11671, rfl, hr11672⟩
    refine At.sti ?_
    have hF11673 := Fr.tr hF7781 hF11670 rfl rfl
    have zv11674 : ((-6) : Int32).toInt = (-6) := rfl
    refine At.enter rfl ?_
    refine r_ireti ?_
    have x11675 := HI.eqI hI11669 (p := 231) (b := 8) (((hF11670.1 231 8 (by decide)).trans (gI_sI_eq hI7777.1 kx_231 rfl _)))
    have zv11676 : (0 : Int32).toInt = 0 := rfl
    obtain ⟨v11677, hv11677⟩ : ∃ v, eA g0 233 0 = v := ⟨_, rfl⟩
    have tv11677 := congrArg Int32.toInt hv11677
    have wv11677 := HI.t0 hI0
    rw [hv11677] at wv11677
    have tv11677 := congrArg Int32.toInt hv11677
    have x11678 := HI.eqA hI11669 (p := 233) (j := 0) ((((eA_c (hF11670.2.1 233 (by decide))).trans ((eA_c gA_sI).trans (eA_c gA_sI))).trans hv11677))
    obtain ⟨v11679, hv11679⟩ : ∃ v, eA g0 233 4 = v := ⟨_, rfl⟩
    have wv11679 := HI.t4 hI0
    rw [hv11679] at wv11679
    have tv11679 := congrArg Int32.toInt hv11679
    have x11680 := HI.eqA hI11669 (p := 233) (j := 4) ((((eA_c (hF11670.2.1 233 (by decide))).trans ((eA_c gA_sI).trans (eA_c gA_sI))).trans hv11679))
    obtain ⟨v11681, hv11681⟩ : ∃ v, eA g0 233 5 = v := ⟨_, rfl⟩
    have wv11681 := HI.t5 hI0
    rw [hv11681] at wv11681
    have tv11681 := congrArg Int32.toInt hv11681
    have x11682 := HI.eqA hI11669 (p := 233) (j := 5) ((((eA_c (hF11670.2.1 233 (by decide))).trans ((eA_c gA_sI).trans (eA_c gA_sI))).trans hv11681))
    obtain ⟨v11683, hv11683⟩ : ∃ v, eA g0 233 6 = v := ⟨_, rfl⟩
    have wv11683 := HI.t6 hI0
    rw [hv11683] at wv11683
    have tv11683 := congrArg Int32.toInt hv11683
    have x11684 := HI.eqA hI11669 (p := 233) (j := 6) ((((eA_c (hF11670.2.1 233 (by decide))).trans ((eA_c gA_sI).trans (eA_c gA_sI))).trans hv11683))
    have x11685 := HI.eqA hI0 (p := 233) (j := 0) (hv11677)
    have x11686 := HI.eqA hI0 (p := 233) (j := 4) (hv11679)
    have x11687 := HI.eqA hI0 (p := 233) (j := 5) (hv11681)
    have x11688 := HI.eqA hI0 (p := 233) (j := 6) (hv11683)
    exact ⟨_, rfl, hI11669, hF11673, _, rfl, by omega, ⟨by omega, by omega, by omega, by omega, by omega⟩⟩
