def F_X11_row_231 : List (Nat × Nat) := [(231, 0), (231, 1), (231, 6), (231, 8)]
def A_X11_row_231 : List Nat := [232, 233]
set_option maxRecDepth 100000 in
set_option maxHeartbeats 4000000 in
theorem T_X11_row_231 (d : Nat) {N : Nat} {g0 : List en_E} (hI0 : HI g0) : Ev (d + 3) 182 [.ref 231] (g0, N) (fun w h' => ∃ g', h' = (g', N) ∧ HI g' ∧ Fr F_X11_row_231 A_X11_row_231 g0 g' ∧ ∃ r : Int32, w = some (.int r) ∧ ((-6) ≤ r.toInt ∧ r.toInt ≤ 400) ∧ (((gI g' 231 8).toInt = 0 ∧ (eA g' 233 0).toInt = (eA g0 233 0).toInt ∧ (eA g' 233 4).toInt = (eA g0 233 4).toInt ∧ (eA g' 233 5).toInt = (eA g0 233 5).toInt ∧ (eA g' 233 6).toInt = (eA g0 233 6).toInt) ∧ (∀ i : Int, 10 ≤ i → i < 46 → (eA g' 233 (i)).toInt = (eA g0 233 (i)).toInt) ∧ (∀ i : Int, 94 ≤ i → i < 110 → (eA g' 233 (i)).toInt = (eA g0 233 (i)).toInt))) := by
  have hF0 : Fr F_X11_row_231 A_X11_row_231 g0 g0 := Fr.rf
  refine Ev.mk rfl rfl ⟨Nat.le_of_ble_eq_true rfl, Or.inr (q_rc hI0.1 kx_231 rfl)⟩ ?_
  show At _ none _ _ (0, [(0, .ref 231)], [], (_, _)) _
  refine At.enter rfl ?_
  refine r_aload_n rfl ?_
  refine r_iconst 0 rfl ?_
  refine q_putI (Sh.int hI0.1 kx_231 rfl) rfl ?_
  have hI7781 := HI.wI0 hI0 kx_231 rfl (p := 231) (b := 0) (v := 0) rfl
  have hF7782 := Fr.wI (p := 231) (b := 0) (v := 0) hF0 rfl
  refine r_aload_n rfl ?_
  obtain ⟨v7783, hv7783⟩ : ∃ v, gI g0 231 8 = v := ⟨_, rfl⟩
  have rv7783 := RgF.at hI0.2.1 (p := 231) (b := 8) rfl
  rw [hv7783] at rv7783
  dsimp only at rv7783
  refine q_getI (Sh.int hI7781.1 kx_231 rfl) v7783 ((gI_sI_ne (by decide)).trans hv7783) ?_
  refine r_istore_n ([(1, .int v7783), (0, .ref 231)]) rfl ?_
  refine r_aload_n rfl ?_
  refine r_iconst 0 rfl ?_
  refine q_putI (Sh.int hI7781.1 kx_231 rfl) rfl ?_
  have hI7784 := HI.wI1 hI7781 kx_231 rfl (p := 231) (b := 8) (v := 0) rfl (by decide)
  have hF7785 := Fr.wI (p := 231) (b := 8) (v := 0) hF7782 rfl
  refine r_iload_n rfl ?_
  refine r_ifs 19 rfl (fun c7786 => ?_) (fun c7786 => ?_)
  · have c7786_ : v7783.toInt ≠ 0 := en_k_ne_t c7786
    refine At.enter rfl ?_
    refine r_aload_n rfl ?_
    refine r_iconst 0 rfl ?_
    refine q_putI (Sh.int hI7784.1 kx_231 rfl) rfl ?_
    have hI7787 := HI.wI0 hI7784 kx_231 rfl (p := 231) (b := 6) (v := 0) rfl
    have hF7788 := Fr.wI (p := 231) (b := 6) (v := 0) hF7785 rfl
    refine r_iconst 0 rfl ?_
    refine r_istore_n ([(2, .int 0), (1, .int v7783), (0, .ref 231)]) rfl ?_
    refine r_iconst 0 rfl ?_
    refine r_istore_n ([(3, .int 0), (2, .int 0), (1, .int v7783), (0, .ref 231)]) rfl ?_
    refine Ar.fall 35 rfl ?_
    obtain ⟨v7789, hv7789⟩ : ∃ v, eA g0 233 0 = v := ⟨_, rfl⟩
    have tv7789 := congrArg Int32.toInt hv7789
    have wv7789 := HI.t0 hI0
    rw [hv7789] at wv7789
    have tv7789 := congrArg Int32.toInt hv7789
    obtain ⟨v7790, hv7790⟩ : ∃ v, eA g0 233 4 = v := ⟨_, rfl⟩
    have wv7790 := HI.t4 hI0
    rw [hv7790] at wv7790
    have tv7790 := congrArg Int32.toInt hv7790
    obtain ⟨v7791, hv7791⟩ : ∃ v, eA g0 233 5 = v := ⟨_, rfl⟩
    have wv7791 := HI.t5 hI0
    rw [hv7791] at wv7791
    have tv7791 := congrArg Int32.toInt hv7791
    obtain ⟨v7792, hv7792⟩ : ∃ v, eA g0 233 6 = v := ⟨_, rfl⟩
    have wv7792 := HI.t6 hI0
    rw [hv7792] at wv7792
    have tv7792 := congrArg Int32.toInt hv7792
    have z_11505 : (0 : Int32).toInt = 0 := rfl
    have z_11506 : (0 : Int32).toInt = 0 := rfl
    refine w_loopI (fun n_ l_ g_ => ∃ x11483 : Int32, ∃ x11484 : Int32, n_ = 405 - x11484.toInt ∧ HI g_ ∧ Fr F_X11_row_231 A_X11_row_231 g0 g_ ∧ gI g_ 231 8 = 0 ∧ eA g_ 233 0 = v7789 ∧ eA g_ 233 4 = v7790 ∧ eA g_ 233 5 = v7791 ∧ eA g_ 233 6 = v7792 ∧ en_get 0 l_ = some (.ref 231) ∧ en_get 1 l_ = some (.int v7783) ∧ en_get 2 l_ = some (.int x11483) ∧ en_get 3 l_ = some (.int x11484) ∧ (0 ≤ x11483.toInt ∧ x11483.toInt ≤ 400) ∧ (0 ≤ x11484.toInt ∧ x11484.toInt ≤ 405) ∧ (x11483.toInt ≤ x11484.toInt) ∧ (∀ i : Int, 10 ≤ i → i < 46 → (eA g_ 233 (i)).toInt = (eA g0 233 (i)).toInt) ∧ (∀ i : Int, 94 ≤ i → i < 110 → (eA g_ 233 (i)).toInt = (eA g0 233 (i)).toInt)) ?_ (405 - 0) ⟨0, 0, by first | rfl | omega, hI7787, hF7788, ((gI_sI_ne (by decide)).trans (gI_sI_eq hI7781.1 kx_231 rfl _)), (((eA_c gA_sI).trans ((eA_c gA_sI).trans (eA_c gA_sI))).trans hv7789), (((eA_c gA_sI).trans ((eA_c gA_sI).trans (eA_c gA_sI))).trans hv7790), (((eA_c gA_sI).trans ((eA_c gA_sI).trans (eA_c gA_sI))).trans hv7791), (((eA_c gA_sI).trans ((eA_c gA_sI).trans (eA_c gA_sI))).trans hv7792), rfl, rfl, rfl, rfl, by decide, by decide, by omega, (by intro i i0 i1; refine (eA_ti (((gA_sI).trans ((gA_sI).trans (gA_sI))))).trans ?_; (first | rfl | exact eA_ix (by omega) | omega)), (by intro i i0 i1; refine (eA_ti (((gA_sI).trans ((gA_sI).trans (gA_sI))))).trans ?_; (first | rfl | exact eA_ix (by omega) | omega))⟩
    rintro n11489 l11488 g11485 ⟨x11483, x11484, hm11507, hI11486, hF11487, e11491, e11492, e11493, e11494, e11495, e11496, e11497, e11498, e11499, r11500, r11501, q11502, q11503, q11504⟩ ih11490
    have tv11508 := congrArg Int32.toInt e11492
    have tv11509 := congrArg Int32.toInt e11493
    have tv11510 := congrArg Int32.toInt e11494
    have tv11511 := congrArg Int32.toInt e11495
    have tv11512 := congrArg Int32.toInt e11491
    refine At.enter rfl ?_
    refine r_iload_n e11499 ?_
    refine r_iload_n e11497 ?_
    have bv11514 := q_bnd x11484
    have bv11515 := q_bnd v7783
    refine r_ics 40 rfl (fun c11513 => ?_) (fun c11513 => ?_)
    · have c11513_ : x11484.toInt ≥ v7783.toInt := en_i_ge_t c11513
      refine At.enter rfl ?_
      refine r_aload_n e11496 ?_
      refine r_iload_n e11498 ?_
      refine r_callV 225 rfl [.ref 231, .int x11483] [] (Nat.le_of_ble_eq_true rfl) rfl (T_X11_tell_231 _ hI11486 x11483 (by omega)) ?_
      rintro _ _ ⟨g11516, rfl, hI11517, hF11518, v11519, rfl, hr11520⟩
      refine At.sti ?_
      have hF11521 := Fr.tr hF11487 hF11518 rfl rfl
      refine At.enter rfl ?_
      refine r_ireti ?_
      have x11522 := HI.eqI hI11517 (p := 231) (b := 8) (((hF11518.1 231 8 (by decide)).trans e11491))
      have zv11523 : (0 : Int32).toInt = 0 := rfl
      have x11524 := HI.eqA hI11517 (p := 233) (j := 0) (((eA_c (hF11518.2.1 233 (by decide))).trans e11492))
      have x11525 := HI.eqA hI11517 (p := 233) (j := 4) (((eA_c (hF11518.2.1 233 (by decide))).trans e11493))
      have x11526 := HI.eqA hI11517 (p := 233) (j := 5) (((eA_c (hF11518.2.1 233 (by decide))).trans e11494))
      have x11527 := HI.eqA hI11517 (p := 233) (j := 6) (((eA_c (hF11518.2.1 233 (by decide))).trans e11495))
      have x11528 := HI.eqA hI0 (p := 233) (j := 0) (hv7789)
      have x11529 := HI.eqA hI0 (p := 233) (j := 4) (hv7790)
      have x11530 := HI.eqA hI0 (p := 233) (j := 5) (hv7791)
      have x11531 := HI.eqA hI0 (p := 233) (j := 6) (hv7792)
      exact ⟨_, rfl, hI11517, hF11521, _, rfl, by omega, ⟨⟨by omega, by omega, by omega, by omega, by omega⟩, (by intro i i0 i1; refine (eA_ti ((hF11518.2.1 233 (by decide)))).trans ?_; (first | (refine ((q11503 (i) (by omega) (by omega))).trans ?_; (first | rfl | exact eA_ix (by omega) | omega)) | (refine ((q11504 (i) (by omega) (by omega))).trans ?_; (first | rfl | exact eA_ix (by omega) | omega)))), (by intro i i0 i1; refine (eA_ti ((hF11518.2.1 233 (by decide)))).trans ?_; (first | (refine ((q11503 (i) (by omega) (by omega))).trans ?_; (first | rfl | exact eA_ix (by omega) | omega)) | (refine ((q11504 (i) (by omega) (by omega))).trans ?_; (first | rfl | exact eA_ix (by omega) | omega))))⟩⟩
    · have c11513_ : x11484.toInt < v7783.toInt := en_i_ge_f c11513
      refine At.enter rfl ?_
      refine r_iload_n e11499 ?_
      refine r_iconst 5 rfl ?_
      refine q_iadd (x11484.toInt + 5) rfl (by omega) (fun v11532 hv11532 => ?_)
      refine r_iload_n e11497 ?_
      have bv11534 := q_bnd v11532
      refine r_ics 47 rfl (fun c11533 => ?_) (fun c11533 => ?_)
      · have c11533_ : v11532.toInt ≥ v7783.toInt := en_i_ge_t c11533
        refine At.enter rfl ?_
        refine r_iconst 0 rfl ?_
        refine Ar.fall 63 rfl ?_
        refine At.enter rfl ?_
        refine r_istore _ rfl ?_
        refine r_iload (w_e1 _ _ _) ?_
        refine r_ift (by decide) ?_
        refine At.enter rfl ?_
        refine r_iconst 0 rfl ?_
        refine Ar.fall 141 rfl ?_
        refine At.enter rfl ?_
        refine r_istore _ rfl ?_
        refine r_iload (w_e1 _ _ _) ?_
        refine r_ift (by decide) ?_
        refine At.enter rfl ?_
        refine r_aload_n (w_p1 (by decide) (Or.inr rfl) (w_p1 (by decide) (Or.inr rfl) e11496)) ?_
        refine r_dup rfl ?_
        obtain ⟨v11535, hv11535⟩ : ∃ v, gI g11485 231 6 = v := ⟨_, rfl⟩
        refine q_getI (Sh.int hI11486.1 kx_231 rfl) v11535 hv11535 ?_
        refine r_iconst 1 rfl ?_
        refine q_iaddO (fun v11536 _ => ?_)
        refine q_putI (Sh.int hI11486.1 kx_231 rfl) rfl ?_
        have hI11537 := HI.wI0 hI11486 kx_231 rfl (p := 231) (b := 6) (v := v11536) rfl
        have hF11538 := Fr.wI (p := 231) (b := 6) (v := v11536) hF11487 rfl
        refine Ar.fall 214 rfl ?_
        refine At.enter rfl ?_
        refine q_iinc (w_p1 (by decide) (Or.inr rfl) (w_p1 (by decide) (Or.inr rfl) e11499)) (x11484.toInt + 6) rfl (by omega) (fun v11539 hv11539 => ?_)
        refine r_goto ?_
        exact ih11490 (405 - v11539.toInt) _ _ ⟨x11483, v11539, by first | rfl | omega, hI11537, hF11538, ((gI_sI_ne (by decide)).trans e11491), ((eA_c gA_sI).trans e11492), ((eA_c gA_sI).trans e11493), ((eA_c gA_sI).trans e11494), ((eA_c gA_sI).trans e11495), (w_p1 (by decide) (Or.inr rfl) (w_p1 (by decide) (Or.inr rfl) (w_p1 (by decide) (Or.inr rfl) e11496))), (w_p1 (by decide) (Or.inr rfl) (w_p1 (by decide) (Or.inr rfl) (w_p1 (by decide) (Or.inr rfl) e11497))), (w_p1 (by decide) (Or.inr rfl) (w_p1 (by decide) (Or.inr rfl) (w_p1 (by decide) (Or.inr rfl) e11498))), (w_e1 _ _ _), by omega, by omega, by omega, (by intro i i0 i1; refine (eA_ti ((gA_sI))).trans ?_; (first | (refine ((q11503 (i) (by omega) (by omega))).trans ?_; (first | rfl | exact eA_ix (by omega) | omega)) | (refine ((q11504 (i) (by omega) (by omega))).trans ?_; (first | rfl | exact eA_ix (by omega) | omega)))), (by intro i i0 i1; refine (eA_ti ((gA_sI))).trans ?_; (first | (refine ((q11503 (i) (by omega) (by omega))).trans ?_; (first | rfl | exact eA_ix (by omega) | omega)) | (refine ((q11504 (i) (by omega) (by omega))).trans ?_; (first | rfl | exact eA_ix (by omega) | omega))))⟩ ⟨by omega, by omega⟩
      · have c11533_ : v11532.toInt < v7783.toInt := en_i_ge_f c11533
        refine At.enter rfl ?_
        refine r_aload_n e11496 ?_
        refine q_getR (Sh.ref hI11486.1 kx_231 rfl) ?_
        refine r_iconst 1 rfl ?_
        obtain ⟨v11540, hv11540⟩ : ∃ v, eA g11485 233 1 = v := ⟨_, rfl⟩
        have tv11540 := congrArg Int32.toInt hv11540
        have wv11540 := HI.t1 hI11486
        rw [hv11540] at wv11540
        refine q_iald (Sh.arr hI11486.1 ka_233) 1 rfl (by decide) v11540 hv11540 ?_
        refine r_bipush 8 rfl ?_
        refine r_ics 58 rfl (fun c11541 => ?_) (fun c11541 => ?_)
        · have c11541_ : v11540.toInt ≥ 8 := en_i_ge_t c11541
          refine At.enter rfl ?_
          refine r_iconst 0 rfl ?_
          refine Ar.fall 63 rfl ?_
          refine At.enter rfl ?_
          refine r_istore _ rfl ?_
          refine r_iload (w_e1 _ _ _) ?_
          refine r_ift (by decide) ?_
          refine At.enter rfl ?_
          refine r_iconst 0 rfl ?_
          refine Ar.fall 141 rfl ?_
          refine At.enter rfl ?_
          refine r_istore _ rfl ?_
          refine r_iload (w_e1 _ _ _) ?_
          refine r_ift (by decide) ?_
          refine At.enter rfl ?_
          refine r_aload_n (w_p1 (by decide) (Or.inr rfl) (w_p1 (by decide) (Or.inr rfl) e11496)) ?_
          refine r_dup rfl ?_
          obtain ⟨v11542, hv11542⟩ : ∃ v, gI g11485 231 6 = v := ⟨_, rfl⟩
          refine q_getI (Sh.int hI11486.1 kx_231 rfl) v11542 hv11542 ?_
          refine r_iconst 1 rfl ?_
          refine q_iaddO (fun v11543 _ => ?_)
          refine q_putI (Sh.int hI11486.1 kx_231 rfl) rfl ?_
          have hI11544 := HI.wI0 hI11486 kx_231 rfl (p := 231) (b := 6) (v := v11543) rfl
          have hF11545 := Fr.wI (p := 231) (b := 6) (v := v11543) hF11487 rfl
          refine Ar.fall 214 rfl ?_
          refine At.enter rfl ?_
          refine q_iinc (w_p1 (by decide) (Or.inr rfl) (w_p1 (by decide) (Or.inr rfl) e11499)) (x11484.toInt + 6) rfl (by omega) (fun v11546 hv11546 => ?_)
          refine r_goto ?_
          exact ih11490 (405 - v11546.toInt) _ _ ⟨x11483, v11546, by first | rfl | omega, hI11544, hF11545, ((gI_sI_ne (by decide)).trans e11491), ((eA_c gA_sI).trans e11492), ((eA_c gA_sI).trans e11493), ((eA_c gA_sI).trans e11494), ((eA_c gA_sI).trans e11495), (w_p1 (by decide) (Or.inr rfl) (w_p1 (by decide) (Or.inr rfl) (w_p1 (by decide) (Or.inr rfl) e11496))), (w_p1 (by decide) (Or.inr rfl) (w_p1 (by decide) (Or.inr rfl) (w_p1 (by decide) (Or.inr rfl) e11497))), (w_p1 (by decide) (Or.inr rfl) (w_p1 (by decide) (Or.inr rfl) (w_p1 (by decide) (Or.inr rfl) e11498))), (w_e1 _ _ _), by omega, by omega, by omega, (by intro i i0 i1; refine (eA_ti ((gA_sI))).trans ?_; (first | (refine ((q11503 (i) (by omega) (by omega))).trans ?_; (first | rfl | exact eA_ix (by omega) | omega)) | (refine ((q11504 (i) (by omega) (by omega))).trans ?_; (first | rfl | exact eA_ix (by omega) | omega)))), (by intro i i0 i1; refine (eA_ti ((gA_sI))).trans ?_; (first | (refine ((q11503 (i) (by omega) (by omega))).trans ?_; (first | rfl | exact eA_ix (by omega) | omega)) | (refine ((q11504 (i) (by omega) (by omega))).trans ?_; (first | rfl | exact eA_ix (by omega) | omega))))⟩ ⟨by omega, by omega⟩
        · have c11541_ : v11540.toInt < 8 := en_i_ge_f c11541
          refine At.enter rfl ?_
          refine r_iconst 1 rfl ?_
          refine r_goto ?_
          refine At.enter rfl ?_
          refine r_istore _ rfl ?_
          refine r_iload (w_e1 _ _ _) ?_
          refine r_iff 70 rfl (by decide) ?_
          refine At.enter rfl ?_
          refine r_aload_n (w_p1 (by decide) (Or.inr rfl) e11496) ?_
          refine q_getR (Sh.ref hI11486.1 kx_231 rfl) ?_
          refine r_iload_n (w_p1 (by decide) (Or.inr rfl) e11499) ?_
          obtain ⟨v11547, hv11547⟩ : ∃ v, eA g0 236 x11484.toInt = v := ⟨_, rfl⟩
          refine q_iald (Sh.arr hI11486.1 ka_236) x11484.toInt rfl (by omega) v11547 ((eA_c (hF11487.2.1 236 (by decide))).trans hv11547) ?_
          refine r_aload_n (w_p1 (by decide) (Or.inr rfl) e11496) ?_
          refine q_getR (Sh.ref hI11486.1 kx_231 rfl) ?_
          refine r_iload_n (w_p1 (by decide) (Or.inr rfl) e11499) ?_
          refine r_iconst 3 rfl ?_
          refine q_iadd (x11484.toInt + 3) rfl (by omega) (fun v11548 hv11548 => ?_)
          obtain ⟨v11549, hv11549⟩ : ∃ v, eA g0 236 (x11484.toInt + 3) = v := ⟨_, rfl⟩
          refine q_iald (Sh.arr hI11486.1 ka_236) (x11484.toInt + 3) (by omega) (by omega) v11549 ((eA_c (hF11487.2.1 236 (by decide))).trans hv11549) ?_
          refine r_aload_n (w_p1 (by decide) (Or.inr rfl) e11496) ?_
          refine q_getR (Sh.ref hI11486.1 kx_231 rfl) ?_
          refine r_iload_n (w_p1 (by decide) (Or.inr rfl) e11499) ?_
          refine r_iconst 4 rfl ?_
          refine q_iadd (x11484.toInt + 4) rfl (by omega) (fun v11550 hv11550 => ?_)
          obtain ⟨v11551, hv11551⟩ : ∃ v, eA g0 236 (x11484.toInt + 4) = v := ⟨_, rfl⟩
          refine q_iald (Sh.arr hI11486.1 ka_236) (x11484.toInt + 4) (by omega) (by omega) v11551 ((eA_c (hF11487.2.1 236 (by decide))).trans hv11551) ?_
          refine r_aload_n (w_p1 (by decide) (Or.inr rfl) e11496) ?_
          refine q_getR (Sh.ref hI11486.1 kx_231 rfl) ?_
          refine r_iload_n (w_p1 (by decide) (Or.inr rfl) e11499) ?_
          refine r_iconst 5 rfl ?_
          refine q_iadd (x11484.toInt + 5) rfl (by omega) (fun v11552 hv11552 => ?_)
          obtain ⟨v11553, hv11553⟩ : ∃ v, eA g0 236 (x11484.toInt + 5) = v := ⟨_, rfl⟩
          refine q_iald (Sh.arr hI11486.1 ka_236) (x11484.toInt + 5) (by omega) (by omega) v11553 ((eA_c (hF11487.2.1 236 (by decide))).trans hv11553) ?_
          refine q_inlS 103 rfl [.int v11547, .int v11549, .int v11551, .int v11553] [] (Nat.le_of_ble_eq_true rfl) rfl ?_
          refine Ev.mk rfl rfl ⟨Nat.le_of_ble_eq_true rfl, Or.inl rfl⟩ ?_
          show At _ none _ _ (0, [(0, .int v11547), (1, .int v11549), (2, .int v11551), (3, .int v11553)], [], (_, _)) _
          refine At.enter rfl ?_
          refine r_iload_n rfl ?_
          refine q_i2l (fun v11554 hv11554 => ?_)
          refine r_lconst 1 rfl ?_
          refine r_ldc2 9 rfl ?_
          refine q_inlS 9 rfl [.long v11554, .long 1, .long 9] [] (Nat.le_of_ble_eq_true rfl) rfl ?_
          refine Ev.mk rfl rfl ⟨Nat.le_of_ble_eq_true rfl, Or.inl rfl⟩ ?_
          show At _ none _ _ (0, [(0, .long v11554), (2, .long 1), (4, .long 9)], [], (_, _)) _
          refine At.enter rfl ?_
          refine r_lload_n rfl ?_
          refine r_lload_n rfl ?_
          refine r_lcmp _ rfl ?_
          refine r_ifs 6 rfl (fun c11555 => ?_) (fun c11555 => ?_)
          · have c11555_ : v11554.toInt < 1 := en_j_lt_t c11555
            refine At.enter rfl ?_
            refine r_iconst 0 rfl ?_
            refine Ar.fall 18 rfl ?_
            refine At.enter rfl ?_
            refine q_iretz (by decide) ?_
            refine At.enter rfl ?_
            refine r_ift (by decide) ?_
            refine At.enter rfl ?_
            refine r_iconst 0 rfl ?_
            refine Ar.fall 53 rfl ?_
            refine At.enter rfl ?_
            refine q_iretz (by decide) ?_
            refine At.enter rfl ?_
            refine r_ift (by decide) ?_
            refine At.enter rfl ?_
            refine r_iconst 0 rfl ?_
            refine Ar.fall 141 rfl ?_
            refine At.enter rfl ?_
            refine r_istore _ rfl ?_
            refine r_iload (w_e1 _ _ _) ?_
            refine r_ift (by decide) ?_
            refine At.enter rfl ?_
            refine r_aload_n (w_p1 (by decide) (Or.inr rfl) (w_p1 (by decide) (Or.inr rfl) e11496)) ?_
            refine r_dup rfl ?_
            obtain ⟨v11556, hv11556⟩ : ∃ v, gI g11485 231 6 = v := ⟨_, rfl⟩
            refine q_getI (Sh.int hI11486.1 kx_231 rfl) v11556 hv11556 ?_
            refine r_iconst 1 rfl ?_
            refine q_iaddO (fun v11557 _ => ?_)
            refine q_putI (Sh.int hI11486.1 kx_231 rfl) rfl ?_
            have hI11558 := HI.wI0 hI11486 kx_231 rfl (p := 231) (b := 6) (v := v11557) rfl
            have hF11559 := Fr.wI (p := 231) (b := 6) (v := v11557) hF11487 rfl
            refine Ar.fall 214 rfl ?_
            refine At.enter rfl ?_
            refine q_iinc (w_p1 (by decide) (Or.inr rfl) (w_p1 (by decide) (Or.inr rfl) e11499)) (x11484.toInt + 6) rfl (by omega) (fun v11560 hv11560 => ?_)
            refine r_goto ?_
            exact ih11490 (405 - v11560.toInt) _ _ ⟨x11483, v11560, by first | rfl | omega, hI11558, hF11559, ((gI_sI_ne (by decide)).trans e11491), ((eA_c gA_sI).trans e11492), ((eA_c gA_sI).trans e11493), ((eA_c gA_sI).trans e11494), ((eA_c gA_sI).trans e11495), (w_p1 (by decide) (Or.inr rfl) (w_p1 (by decide) (Or.inr rfl) (w_p1 (by decide) (Or.inr rfl) e11496))), (w_p1 (by decide) (Or.inr rfl) (w_p1 (by decide) (Or.inr rfl) (w_p1 (by decide) (Or.inr rfl) e11497))), (w_p1 (by decide) (Or.inr rfl) (w_p1 (by decide) (Or.inr rfl) (w_p1 (by decide) (Or.inr rfl) e11498))), (w_e1 _ _ _), by omega, by omega, by omega, (by intro i i0 i1; refine (eA_ti ((gA_sI))).trans ?_; (first | (refine ((q11503 (i) (by omega) (by omega))).trans ?_; (first | rfl | exact eA_ix (by omega) | omega)) | (refine ((q11504 (i) (by omega) (by omega))).trans ?_; (first | rfl | exact eA_ix (by omega) | omega)))), (by intro i i0 i1; refine (eA_ti ((gA_sI))).trans ?_; (first | (refine ((q11503 (i) (by omega) (by omega))).trans ?_; (first | rfl | exact eA_ix (by omega) | omega)) | (refine ((q11504 (i) (by omega) (by omega))).trans ?_; (first | rfl | exact eA_ix (by omega) | omega))))⟩ ⟨by omega, by omega⟩
          · have c11555_ : v11554.toInt ≥ 1 := en_j_lt_f c11555
            refine At.enter rfl ?_
            refine r_lload_n rfl ?_
            refine r_lload rfl ?_
            refine r_lcmp _ rfl ?_
            refine r_ifs 13 rfl (fun c11561 => ?_) (fun c11561 => ?_)
            · have c11561_ : v11554.toInt > 9 := en_j_gt_t c11561
              refine At.enter rfl ?_
              refine r_iconst 0 rfl ?_
              refine Ar.fall 18 rfl ?_
              refine At.enter rfl ?_
              refine q_iretz (by decide) ?_
              refine At.enter rfl ?_
              refine r_ift (by decide) ?_
              refine At.enter rfl ?_
              refine r_iconst 0 rfl ?_
              refine Ar.fall 53 rfl ?_
              refine At.enter rfl ?_
              refine q_iretz (by decide) ?_
              refine At.enter rfl ?_
              refine r_ift (by decide) ?_
              refine At.enter rfl ?_
              refine r_iconst 0 rfl ?_
              refine Ar.fall 141 rfl ?_
              refine At.enter rfl ?_
              refine r_istore _ rfl ?_
              refine r_iload (w_e1 _ _ _) ?_
              refine r_ift (by decide) ?_
              refine At.enter rfl ?_
              refine r_aload_n (w_p1 (by decide) (Or.inr rfl) (w_p1 (by decide) (Or.inr rfl) e11496)) ?_
              refine r_dup rfl ?_
              obtain ⟨v11562, hv11562⟩ : ∃ v, gI g11485 231 6 = v := ⟨_, rfl⟩
              refine q_getI (Sh.int hI11486.1 kx_231 rfl) v11562 hv11562 ?_
              refine r_iconst 1 rfl ?_
              refine q_iaddO (fun v11563 _ => ?_)
              refine q_putI (Sh.int hI11486.1 kx_231 rfl) rfl ?_
              have hI11564 := HI.wI0 hI11486 kx_231 rfl (p := 231) (b := 6) (v := v11563) rfl
              have hF11565 := Fr.wI (p := 231) (b := 6) (v := v11563) hF11487 rfl
              refine Ar.fall 214 rfl ?_
              refine At.enter rfl ?_
              refine q_iinc (w_p1 (by decide) (Or.inr rfl) (w_p1 (by decide) (Or.inr rfl) e11499)) (x11484.toInt + 6) rfl (by omega) (fun v11566 hv11566 => ?_)
              refine r_goto ?_
              exact ih11490 (405 - v11566.toInt) _ _ ⟨x11483, v11566, by first | rfl | omega, hI11564, hF11565, ((gI_sI_ne (by decide)).trans e11491), ((eA_c gA_sI).trans e11492), ((eA_c gA_sI).trans e11493), ((eA_c gA_sI).trans e11494), ((eA_c gA_sI).trans e11495), (w_p1 (by decide) (Or.inr rfl) (w_p1 (by decide) (Or.inr rfl) (w_p1 (by decide) (Or.inr rfl) e11496))), (w_p1 (by decide) (Or.inr rfl) (w_p1 (by decide) (Or.inr rfl) (w_p1 (by decide) (Or.inr rfl) e11497))), (w_p1 (by decide) (Or.inr rfl) (w_p1 (by decide) (Or.inr rfl) (w_p1 (by decide) (Or.inr rfl) e11498))), (w_e1 _ _ _), by omega, by omega, by omega, (by intro i i0 i1; refine (eA_ti ((gA_sI))).trans ?_; (first | (refine ((q11503 (i) (by omega) (by omega))).trans ?_; (first | rfl | exact eA_ix (by omega) | omega)) | (refine ((q11504 (i) (by omega) (by omega))).trans ?_; (first | rfl | exact eA_ix (by omega) | omega)))), (by intro i i0 i1; refine (eA_ti ((gA_sI))).trans ?_; (first | (refine ((q11503 (i) (by omega) (by omega))).trans ?_; (first | rfl | exact eA_ix (by omega) | omega)) | (refine ((q11504 (i) (by omega) (by omega))).trans ?_; (first | rfl | exact eA_ix (by omega) | omega))))⟩ ⟨by omega, by omega⟩
            · have c11561_ : v11554.toInt ≤ 9 := en_j_gt_f c11561
              refine At.enter rfl ?_
              refine r_iconst 1 rfl ?_
              refine r_goto ?_
              refine At.enter rfl ?_
              refine q_iretz (by decide) ?_
              refine At.enter rfl ?_
              refine r_iff 12 rfl (by decide) ?_
              refine At.enter rfl ?_
              refine r_iload_n rfl ?_
              refine q_i2l (fun v11567 hv11567 => ?_)
              refine r_lconst 0 rfl ?_
              refine r_ldc2 99 rfl ?_
              refine q_inlS 21 rfl [.long v11567, .long 0, .long 99] [] (Nat.le_of_ble_eq_true rfl) rfl ?_
              refine Ev.mk rfl rfl ⟨Nat.le_of_ble_eq_true rfl, Or.inl rfl⟩ ?_
              show At _ none _ _ (0, [(0, .long v11567), (2, .long 0), (4, .long 99)], [], (_, _)) _
              refine At.enter rfl ?_
              refine r_lload_n rfl ?_
              refine r_lload_n rfl ?_
              refine r_lcmp _ rfl ?_
              refine r_ifs 6 rfl (fun c11568 => ?_) (fun c11568 => ?_)
              · have c11568_ : v11567.toInt < 0 := en_j_lt_t c11568
                refine At.enter rfl ?_
                refine r_iconst 0 rfl ?_
                refine Ar.fall 18 rfl ?_
                refine At.enter rfl ?_
                refine q_iretz (by decide) ?_
                refine At.enter rfl ?_
                refine r_ift (by decide) ?_
                refine At.enter rfl ?_
                refine r_iconst 0 rfl ?_
                refine Ar.fall 53 rfl ?_
                refine At.enter rfl ?_
                refine q_iretz (by decide) ?_
                refine At.enter rfl ?_
                refine r_ift (by decide) ?_
                refine At.enter rfl ?_
                refine r_iconst 0 rfl ?_
                refine Ar.fall 141 rfl ?_
                refine At.enter rfl ?_
                refine r_istore _ rfl ?_
                refine r_iload (w_e1 _ _ _) ?_
                refine r_ift (by decide) ?_
                refine At.enter rfl ?_
                refine r_aload_n (w_p1 (by decide) (Or.inr rfl) (w_p1 (by decide) (Or.inr rfl) e11496)) ?_
                refine r_dup rfl ?_
                obtain ⟨v11569, hv11569⟩ : ∃ v, gI g11485 231 6 = v := ⟨_, rfl⟩
                refine q_getI (Sh.int hI11486.1 kx_231 rfl) v11569 hv11569 ?_
                refine r_iconst 1 rfl ?_
                refine q_iaddO (fun v11570 _ => ?_)
                refine q_putI (Sh.int hI11486.1 kx_231 rfl) rfl ?_
                have hI11571 := HI.wI0 hI11486 kx_231 rfl (p := 231) (b := 6) (v := v11570) rfl
                have hF11572 := Fr.wI (p := 231) (b := 6) (v := v11570) hF11487 rfl
                refine Ar.fall 214 rfl ?_
                refine At.enter rfl ?_
                refine q_iinc (w_p1 (by decide) (Or.inr rfl) (w_p1 (by decide) (Or.inr rfl) e11499)) (x11484.toInt + 6) rfl (by omega) (fun v11573 hv11573 => ?_)
                refine r_goto ?_
                exact ih11490 (405 - v11573.toInt) _ _ ⟨x11483, v11573, by first | rfl | omega, hI11571, hF11572, ((gI_sI_ne (by decide)).trans e11491), ((eA_c gA_sI).trans e11492), ((eA_c gA_sI).trans e11493), ((eA_c gA_sI).trans e11494), ((eA_c gA_sI).trans e11495), (w_p1 (by decide) (Or.inr rfl) (w_p1 (by decide) (Or.inr rfl) (w_p1 (by decide) (Or.inr rfl) e11496))), (w_p1 (by decide) (Or.inr rfl) (w_p1 (by decide) (Or.inr rfl) (w_p1 (by decide) (Or.inr rfl) e11497))), (w_p1 (by decide) (Or.inr rfl) (w_p1 (by decide) (Or.inr rfl) (w_p1 (by decide) (Or.inr rfl) e11498))), (w_e1 _ _ _), by omega, by omega, by omega, (by intro i i0 i1; refine (eA_ti ((gA_sI))).trans ?_; (first | (refine ((q11503 (i) (by omega) (by omega))).trans ?_; (first | rfl | exact eA_ix (by omega) | omega)) | (refine ((q11504 (i) (by omega) (by omega))).trans ?_; (first | rfl | exact eA_ix (by omega) | omega)))), (by intro i i0 i1; refine (eA_ti ((gA_sI))).trans ?_; (first | (refine ((q11503 (i) (by omega) (by omega))).trans ?_; (first | rfl | exact eA_ix (by omega) | omega)) | (refine ((q11504 (i) (by omega) (by omega))).trans ?_; (first | rfl | exact eA_ix (by omega) | omega))))⟩ ⟨by omega, by omega⟩
              · have c11568_ : v11567.toInt ≥ 0 := en_j_lt_f c11568
                refine At.enter rfl ?_
                refine r_lload_n rfl ?_
                refine r_lload rfl ?_
                refine r_lcmp _ rfl ?_
                refine r_ifs 13 rfl (fun c11574 => ?_) (fun c11574 => ?_)
                · have c11574_ : v11567.toInt > 99 := en_j_gt_t c11574
                  refine At.enter rfl ?_
                  refine r_iconst 0 rfl ?_
                  refine Ar.fall 18 rfl ?_
                  refine At.enter rfl ?_
                  refine q_iretz (by decide) ?_
                  refine At.enter rfl ?_
                  refine r_ift (by decide) ?_
                  refine At.enter rfl ?_
                  refine r_iconst 0 rfl ?_
                  refine Ar.fall 53 rfl ?_
                  refine At.enter rfl ?_
                  refine q_iretz (by decide) ?_
                  refine At.enter rfl ?_
                  refine r_ift (by decide) ?_
                  refine At.enter rfl ?_
                  refine r_iconst 0 rfl ?_
                  refine Ar.fall 141 rfl ?_
                  refine At.enter rfl ?_
                  refine r_istore _ rfl ?_
                  refine r_iload (w_e1 _ _ _) ?_
                  refine r_ift (by decide) ?_
                  refine At.enter rfl ?_
                  refine r_aload_n (w_p1 (by decide) (Or.inr rfl) (w_p1 (by decide) (Or.inr rfl) e11496)) ?_
                  refine r_dup rfl ?_
                  obtain ⟨v11575, hv11575⟩ : ∃ v, gI g11485 231 6 = v := ⟨_, rfl⟩
                  refine q_getI (Sh.int hI11486.1 kx_231 rfl) v11575 hv11575 ?_
                  refine r_iconst 1 rfl ?_
                  refine q_iaddO (fun v11576 _ => ?_)
                  refine q_putI (Sh.int hI11486.1 kx_231 rfl) rfl ?_
                  have hI11577 := HI.wI0 hI11486 kx_231 rfl (p := 231) (b := 6) (v := v11576) rfl
                  have hF11578 := Fr.wI (p := 231) (b := 6) (v := v11576) hF11487 rfl
                  refine Ar.fall 214 rfl ?_
                  refine At.enter rfl ?_
                  refine q_iinc (w_p1 (by decide) (Or.inr rfl) (w_p1 (by decide) (Or.inr rfl) e11499)) (x11484.toInt + 6) rfl (by omega) (fun v11579 hv11579 => ?_)
                  refine r_goto ?_
                  exact ih11490 (405 - v11579.toInt) _ _ ⟨x11483, v11579, by first | rfl | omega, hI11577, hF11578, ((gI_sI_ne (by decide)).trans e11491), ((eA_c gA_sI).trans e11492), ((eA_c gA_sI).trans e11493), ((eA_c gA_sI).trans e11494), ((eA_c gA_sI).trans e11495), (w_p1 (by decide) (Or.inr rfl) (w_p1 (by decide) (Or.inr rfl) (w_p1 (by decide) (Or.inr rfl) e11496))), (w_p1 (by decide) (Or.inr rfl) (w_p1 (by decide) (Or.inr rfl) (w_p1 (by decide) (Or.inr rfl) e11497))), (w_p1 (by decide) (Or.inr rfl) (w_p1 (by decide) (Or.inr rfl) (w_p1 (by decide) (Or.inr rfl) e11498))), (w_e1 _ _ _), by omega, by omega, by omega, (by intro i i0 i1; refine (eA_ti ((gA_sI))).trans ?_; (first | (refine ((q11503 (i) (by omega) (by omega))).trans ?_; (first | rfl | exact eA_ix (by omega) | omega)) | (refine ((q11504 (i) (by omega) (by omega))).trans ?_; (first | rfl | exact eA_ix (by omega) | omega)))), (by intro i i0 i1; refine (eA_ti ((gA_sI))).trans ?_; (first | (refine ((q11503 (i) (by omega) (by omega))).trans ?_; (first | rfl | exact eA_ix (by omega) | omega)) | (refine ((q11504 (i) (by omega) (by omega))).trans ?_; (first | rfl | exact eA_ix (by omega) | omega))))⟩ ⟨by omega, by omega⟩
                · have c11574_ : v11567.toInt ≤ 99 := en_j_gt_f c11574
                  refine At.enter rfl ?_
                  refine r_iconst 1 rfl ?_
                  refine r_goto ?_
                  refine At.enter rfl ?_
                  refine q_iretz (by decide) ?_
                  refine At.enter rfl ?_
                  refine r_iff 24 rfl (by decide) ?_
                  refine At.enter rfl ?_
                  refine r_iload_n rfl ?_
                  refine q_i2l (fun v11580 hv11580 => ?_)
                  refine r_lconst 0 rfl ?_
                  refine r_ldc2 9 rfl ?_
                  refine q_inlS 33 rfl [.long v11580, .long 0, .long 9] [] (Nat.le_of_ble_eq_true rfl) rfl ?_
                  refine Ev.mk rfl rfl ⟨Nat.le_of_ble_eq_true rfl, Or.inl rfl⟩ ?_
                  show At _ none _ _ (0, [(0, .long v11580), (2, .long 0), (4, .long 9)], [], (_, _)) _
                  refine At.enter rfl ?_
                  refine r_lload_n rfl ?_
                  refine r_lload_n rfl ?_
                  refine r_lcmp _ rfl ?_
                  refine r_ifs 6 rfl (fun c11581 => ?_) (fun c11581 => ?_)
                  · have c11581_ : v11580.toInt < 0 := en_j_lt_t c11581
                    refine At.enter rfl ?_
                    refine r_iconst 0 rfl ?_
                    refine Ar.fall 18 rfl ?_
                    refine At.enter rfl ?_
                    refine q_iretz (by decide) ?_
                    refine At.enter rfl ?_
                    refine r_ift (by decide) ?_
                    refine At.enter rfl ?_
                    refine r_iconst 0 rfl ?_
                    refine Ar.fall 53 rfl ?_
                    refine At.enter rfl ?_
                    refine q_iretz (by decide) ?_
                    refine At.enter rfl ?_
                    refine r_ift (by decide) ?_
                    refine At.enter rfl ?_
                    refine r_iconst 0 rfl ?_
                    refine Ar.fall 141 rfl ?_
                    refine At.enter rfl ?_
                    refine r_istore _ rfl ?_
                    refine r_iload (w_e1 _ _ _) ?_
                    refine r_ift (by decide) ?_
                    refine At.enter rfl ?_
                    refine r_aload_n (w_p1 (by decide) (Or.inr rfl) (w_p1 (by decide) (Or.inr rfl) e11496)) ?_
                    refine r_dup rfl ?_
                    obtain ⟨v11582, hv11582⟩ : ∃ v, gI g11485 231 6 = v := ⟨_, rfl⟩
                    refine q_getI (Sh.int hI11486.1 kx_231 rfl) v11582 hv11582 ?_
                    refine r_iconst 1 rfl ?_
                    refine q_iaddO (fun v11583 _ => ?_)
                    refine q_putI (Sh.int hI11486.1 kx_231 rfl) rfl ?_
                    have hI11584 := HI.wI0 hI11486 kx_231 rfl (p := 231) (b := 6) (v := v11583) rfl
                    have hF11585 := Fr.wI (p := 231) (b := 6) (v := v11583) hF11487 rfl
                    refine Ar.fall 214 rfl ?_
                    refine At.enter rfl ?_
                    refine q_iinc (w_p1 (by decide) (Or.inr rfl) (w_p1 (by decide) (Or.inr rfl) e11499)) (x11484.toInt + 6) rfl (by omega) (fun v11586 hv11586 => ?_)
                    refine r_goto ?_
                    exact ih11490 (405 - v11586.toInt) _ _ ⟨x11483, v11586, by first | rfl | omega, hI11584, hF11585, ((gI_sI_ne (by decide)).trans e11491), ((eA_c gA_sI).trans e11492), ((eA_c gA_sI).trans e11493), ((eA_c gA_sI).trans e11494), ((eA_c gA_sI).trans e11495), (w_p1 (by decide) (Or.inr rfl) (w_p1 (by decide) (Or.inr rfl) (w_p1 (by decide) (Or.inr rfl) e11496))), (w_p1 (by decide) (Or.inr rfl) (w_p1 (by decide) (Or.inr rfl) (w_p1 (by decide) (Or.inr rfl) e11497))), (w_p1 (by decide) (Or.inr rfl) (w_p1 (by decide) (Or.inr rfl) (w_p1 (by decide) (Or.inr rfl) e11498))), (w_e1 _ _ _), by omega, by omega, by omega, (by intro i i0 i1; refine (eA_ti ((gA_sI))).trans ?_; (first | (refine ((q11503 (i) (by omega) (by omega))).trans ?_; (first | rfl | exact eA_ix (by omega) | omega)) | (refine ((q11504 (i) (by omega) (by omega))).trans ?_; (first | rfl | exact eA_ix (by omega) | omega)))), (by intro i i0 i1; refine (eA_ti ((gA_sI))).trans ?_; (first | (refine ((q11503 (i) (by omega) (by omega))).trans ?_; (first | rfl | exact eA_ix (by omega) | omega)) | (refine ((q11504 (i) (by omega) (by omega))).trans ?_; (first | rfl | exact eA_ix (by omega) | omega))))⟩ ⟨by omega, by omega⟩
                  · have c11581_ : v11580.toInt ≥ 0 := en_j_lt_f c11581
                    refine At.enter rfl ?_
                    refine r_lload_n rfl ?_
                    refine r_lload rfl ?_
                    refine r_lcmp _ rfl ?_
                    refine r_ifs 13 rfl (fun c11587 => ?_) (fun c11587 => ?_)
                    · have c11587_ : v11580.toInt > 9 := en_j_gt_t c11587
                      refine At.enter rfl ?_
                      refine r_iconst 0 rfl ?_
                      refine Ar.fall 18 rfl ?_
                      refine At.enter rfl ?_
                      refine q_iretz (by decide) ?_
                      refine At.enter rfl ?_
                      refine r_ift (by decide) ?_
                      refine At.enter rfl ?_
                      refine r_iconst 0 rfl ?_
                      refine Ar.fall 53 rfl ?_
                      refine At.enter rfl ?_
                      refine q_iretz (by decide) ?_
                      refine At.enter rfl ?_
                      refine r_ift (by decide) ?_
                      refine At.enter rfl ?_
                      refine r_iconst 0 rfl ?_
                      refine Ar.fall 141 rfl ?_
                      refine At.enter rfl ?_
                      refine r_istore _ rfl ?_
                      refine r_iload (w_e1 _ _ _) ?_
                      refine r_ift (by decide) ?_
                      refine At.enter rfl ?_
                      refine r_aload_n (w_p1 (by decide) (Or.inr rfl) (w_p1 (by decide) (Or.inr rfl) e11496)) ?_
                      refine r_dup rfl ?_
                      obtain ⟨v11588, hv11588⟩ : ∃ v, gI g11485 231 6 = v := ⟨_, rfl⟩
                      refine q_getI (Sh.int hI11486.1 kx_231 rfl) v11588 hv11588 ?_
                      refine r_iconst 1 rfl ?_
                      refine q_iaddO (fun v11589 _ => ?_)
                      refine q_putI (Sh.int hI11486.1 kx_231 rfl) rfl ?_
                      have hI11590 := HI.wI0 hI11486 kx_231 rfl (p := 231) (b := 6) (v := v11589) rfl
                      have hF11591 := Fr.wI (p := 231) (b := 6) (v := v11589) hF11487 rfl
                      refine Ar.fall 214 rfl ?_
                      refine At.enter rfl ?_
                      refine q_iinc (w_p1 (by decide) (Or.inr rfl) (w_p1 (by decide) (Or.inr rfl) e11499)) (x11484.toInt + 6) rfl (by omega) (fun v11592 hv11592 => ?_)
                      refine r_goto ?_
                      exact ih11490 (405 - v11592.toInt) _ _ ⟨x11483, v11592, by first | rfl | omega, hI11590, hF11591, ((gI_sI_ne (by decide)).trans e11491), ((eA_c gA_sI).trans e11492), ((eA_c gA_sI).trans e11493), ((eA_c gA_sI).trans e11494), ((eA_c gA_sI).trans e11495), (w_p1 (by decide) (Or.inr rfl) (w_p1 (by decide) (Or.inr rfl) (w_p1 (by decide) (Or.inr rfl) e11496))), (w_p1 (by decide) (Or.inr rfl) (w_p1 (by decide) (Or.inr rfl) (w_p1 (by decide) (Or.inr rfl) e11497))), (w_p1 (by decide) (Or.inr rfl) (w_p1 (by decide) (Or.inr rfl) (w_p1 (by decide) (Or.inr rfl) e11498))), (w_e1 _ _ _), by omega, by omega, by omega, (by intro i i0 i1; refine (eA_ti ((gA_sI))).trans ?_; (first | (refine ((q11503 (i) (by omega) (by omega))).trans ?_; (first | rfl | exact eA_ix (by omega) | omega)) | (refine ((q11504 (i) (by omega) (by omega))).trans ?_; (first | rfl | exact eA_ix (by omega) | omega)))), (by intro i i0 i1; refine (eA_ti ((gA_sI))).trans ?_; (first | (refine ((q11503 (i) (by omega) (by omega))).trans ?_; (first | rfl | exact eA_ix (by omega) | omega)) | (refine ((q11504 (i) (by omega) (by omega))).trans ?_; (first | rfl | exact eA_ix (by omega) | omega))))⟩ ⟨by omega, by omega⟩
                    · have c11587_ : v11580.toInt ≤ 9 := en_j_gt_f c11587
                      refine At.enter rfl ?_
                      refine r_iconst 1 rfl ?_
                      refine r_goto ?_
                      refine At.enter rfl ?_
                      refine q_iretz (by decide) ?_
                      refine At.enter rfl ?_
                      refine r_iff 36 rfl (by decide) ?_
                      refine At.enter rfl ?_
                      refine r_iload_n rfl ?_
                      refine q_i2l (fun v11593 hv11593 => ?_)
                      refine r_lconst 0 rfl ?_
                      refine r_ldc2 9999 rfl ?_
                      refine q_inlS 45 rfl [.long v11593, .long 0, .long 9999] [] (Nat.le_of_ble_eq_true rfl) rfl ?_
                      refine Ev.mk rfl rfl ⟨Nat.le_of_ble_eq_true rfl, Or.inl rfl⟩ ?_
                      show At _ none _ _ (0, [(0, .long v11593), (2, .long 0), (4, .long 9999)], [], (_, _)) _
                      refine At.enter rfl ?_
                      refine r_lload_n rfl ?_
                      refine r_lload_n rfl ?_
                      refine r_lcmp _ rfl ?_
                      refine r_ifs 6 rfl (fun c11594 => ?_) (fun c11594 => ?_)
                      · have c11594_ : v11593.toInt < 0 := en_j_lt_t c11594
                        refine At.enter rfl ?_
                        refine r_iconst 0 rfl ?_
                        refine Ar.fall 18 rfl ?_
                        refine At.enter rfl ?_
                        refine q_iretz (by decide) ?_
                        refine At.enter rfl ?_
                        refine r_ift (by decide) ?_
                        refine At.enter rfl ?_
                        refine r_iconst 0 rfl ?_
                        refine Ar.fall 53 rfl ?_
                        refine At.enter rfl ?_
                        refine q_iretz (by decide) ?_
                        refine At.enter rfl ?_
                        refine r_ift (by decide) ?_
                        refine At.enter rfl ?_
                        refine r_iconst 0 rfl ?_
                        refine Ar.fall 141 rfl ?_
                        refine At.enter rfl ?_
                        refine r_istore _ rfl ?_
                        refine r_iload (w_e1 _ _ _) ?_
                        refine r_ift (by decide) ?_
                        refine At.enter rfl ?_
                        refine r_aload_n (w_p1 (by decide) (Or.inr rfl) (w_p1 (by decide) (Or.inr rfl) e11496)) ?_
                        refine r_dup rfl ?_
                        obtain ⟨v11595, hv11595⟩ : ∃ v, gI g11485 231 6 = v := ⟨_, rfl⟩
                        refine q_getI (Sh.int hI11486.1 kx_231 rfl) v11595 hv11595 ?_
                        refine r_iconst 1 rfl ?_
                        refine q_iaddO (fun v11596 _ => ?_)
                        refine q_putI (Sh.int hI11486.1 kx_231 rfl) rfl ?_
                        have hI11597 := HI.wI0 hI11486 kx_231 rfl (p := 231) (b := 6) (v := v11596) rfl
                        have hF11598 := Fr.wI (p := 231) (b := 6) (v := v11596) hF11487 rfl
                        refine Ar.fall 214 rfl ?_
                        refine At.enter rfl ?_
                        refine q_iinc (w_p1 (by decide) (Or.inr rfl) (w_p1 (by decide) (Or.inr rfl) e11499)) (x11484.toInt + 6) rfl (by omega) (fun v11599 hv11599 => ?_)
                        refine r_goto ?_
                        exact ih11490 (405 - v11599.toInt) _ _ ⟨x11483, v11599, by first | rfl | omega, hI11597, hF11598, ((gI_sI_ne (by decide)).trans e11491), ((eA_c gA_sI).trans e11492), ((eA_c gA_sI).trans e11493), ((eA_c gA_sI).trans e11494), ((eA_c gA_sI).trans e11495), (w_p1 (by decide) (Or.inr rfl) (w_p1 (by decide) (Or.inr rfl) (w_p1 (by decide) (Or.inr rfl) e11496))), (w_p1 (by decide) (Or.inr rfl) (w_p1 (by decide) (Or.inr rfl) (w_p1 (by decide) (Or.inr rfl) e11497))), (w_p1 (by decide) (Or.inr rfl) (w_p1 (by decide) (Or.inr rfl) (w_p1 (by decide) (Or.inr rfl) e11498))), (w_e1 _ _ _), by omega, by omega, by omega, (by intro i i0 i1; refine (eA_ti ((gA_sI))).trans ?_; (first | (refine ((q11503 (i) (by omega) (by omega))).trans ?_; (first | rfl | exact eA_ix (by omega) | omega)) | (refine ((q11504 (i) (by omega) (by omega))).trans ?_; (first | rfl | exact eA_ix (by omega) | omega)))), (by intro i i0 i1; refine (eA_ti ((gA_sI))).trans ?_; (first | (refine ((q11503 (i) (by omega) (by omega))).trans ?_; (first | rfl | exact eA_ix (by omega) | omega)) | (refine ((q11504 (i) (by omega) (by omega))).trans ?_; (first | rfl | exact eA_ix (by omega) | omega))))⟩ ⟨by omega, by omega⟩
                      · have c11594_ : v11593.toInt ≥ 0 := en_j_lt_f c11594
                        refine At.enter rfl ?_
                        refine r_lload_n rfl ?_
                        refine r_lload rfl ?_
                        refine r_lcmp _ rfl ?_
                        refine r_ifs 13 rfl (fun c11600 => ?_) (fun c11600 => ?_)
                        · have c11600_ : v11593.toInt > 9999 := en_j_gt_t c11600
                          refine At.enter rfl ?_
                          refine r_iconst 0 rfl ?_
                          refine Ar.fall 18 rfl ?_
                          refine At.enter rfl ?_
                          refine q_iretz (by decide) ?_
                          refine At.enter rfl ?_
                          refine r_ift (by decide) ?_
                          refine At.enter rfl ?_
                          refine r_iconst 0 rfl ?_
                          refine Ar.fall 53 rfl ?_
                          refine At.enter rfl ?_
                          refine q_iretz (by decide) ?_
                          refine At.enter rfl ?_
                          refine r_ift (by decide) ?_
                          refine At.enter rfl ?_
                          refine r_iconst 0 rfl ?_
                          refine Ar.fall 141 rfl ?_
                          refine At.enter rfl ?_
                          refine r_istore _ rfl ?_
                          refine r_iload (w_e1 _ _ _) ?_
                          refine r_ift (by decide) ?_
                          refine At.enter rfl ?_
                          refine r_aload_n (w_p1 (by decide) (Or.inr rfl) (w_p1 (by decide) (Or.inr rfl) e11496)) ?_
                          refine r_dup rfl ?_
                          obtain ⟨v11601, hv11601⟩ : ∃ v, gI g11485 231 6 = v := ⟨_, rfl⟩
                          refine q_getI (Sh.int hI11486.1 kx_231 rfl) v11601 hv11601 ?_
                          refine r_iconst 1 rfl ?_
                          refine q_iaddO (fun v11602 _ => ?_)
                          refine q_putI (Sh.int hI11486.1 kx_231 rfl) rfl ?_
                          have hI11603 := HI.wI0 hI11486 kx_231 rfl (p := 231) (b := 6) (v := v11602) rfl
                          have hF11604 := Fr.wI (p := 231) (b := 6) (v := v11602) hF11487 rfl
                          refine Ar.fall 214 rfl ?_
                          refine At.enter rfl ?_
                          refine q_iinc (w_p1 (by decide) (Or.inr rfl) (w_p1 (by decide) (Or.inr rfl) e11499)) (x11484.toInt + 6) rfl (by omega) (fun v11605 hv11605 => ?_)
                          refine r_goto ?_
                          exact ih11490 (405 - v11605.toInt) _ _ ⟨x11483, v11605, by first | rfl | omega, hI11603, hF11604, ((gI_sI_ne (by decide)).trans e11491), ((eA_c gA_sI).trans e11492), ((eA_c gA_sI).trans e11493), ((eA_c gA_sI).trans e11494), ((eA_c gA_sI).trans e11495), (w_p1 (by decide) (Or.inr rfl) (w_p1 (by decide) (Or.inr rfl) (w_p1 (by decide) (Or.inr rfl) e11496))), (w_p1 (by decide) (Or.inr rfl) (w_p1 (by decide) (Or.inr rfl) (w_p1 (by decide) (Or.inr rfl) e11497))), (w_p1 (by decide) (Or.inr rfl) (w_p1 (by decide) (Or.inr rfl) (w_p1 (by decide) (Or.inr rfl) e11498))), (w_e1 _ _ _), by omega, by omega, by omega, (by intro i i0 i1; refine (eA_ti ((gA_sI))).trans ?_; (first | (refine ((q11503 (i) (by omega) (by omega))).trans ?_; (first | rfl | exact eA_ix (by omega) | omega)) | (refine ((q11504 (i) (by omega) (by omega))).trans ?_; (first | rfl | exact eA_ix (by omega) | omega)))), (by intro i i0 i1; refine (eA_ti ((gA_sI))).trans ?_; (first | (refine ((q11503 (i) (by omega) (by omega))).trans ?_; (first | rfl | exact eA_ix (by omega) | omega)) | (refine ((q11504 (i) (by omega) (by omega))).trans ?_; (first | rfl | exact eA_ix (by omega) | omega))))⟩ ⟨by omega, by omega⟩
                        · have c11600_ : v11593.toInt ≤ 9999 := en_j_gt_f c11600
                          refine At.enter rfl ?_
                          refine r_iconst 1 rfl ?_
                          refine r_goto ?_
                          refine At.enter rfl ?_
                          refine q_iretz (by decide) ?_
                          refine At.enter rfl ?_
                          refine r_iff 48 rfl (by decide) ?_
                          refine At.enter rfl ?_
                          refine r_iconst 1 rfl ?_
                          refine r_goto ?_
                          refine At.enter rfl ?_
                          refine q_iretz (by decide) ?_
                          refine At.enter rfl ?_
                          refine r_iff 106 rfl (by decide) ?_
                          refine At.enter rfl ?_
                          refine r_aload_n (w_p1 (by decide) (Or.inr rfl) e11496) ?_
                          refine r_aload_n (w_p1 (by decide) (Or.inr rfl) e11496) ?_
                          refine q_getR (Sh.ref hI11486.1 kx_231 rfl) ?_
                          refine r_iload_n (w_p1 (by decide) (Or.inr rfl) e11499) ?_
                          refine r_iconst 1 rfl ?_
                          refine q_iadd (x11484.toInt + 1) rfl (by omega) (fun v11606 hv11606 => ?_)
                          obtain ⟨v11607, hv11607⟩ : ∃ v, eA g0 236 (x11484.toInt + 1) = v := ⟨_, rfl⟩
                          refine q_iald (Sh.arr hI11486.1 ka_236) (x11484.toInt + 1) (by omega) (by omega) v11607 ((eA_c (hF11487.2.1 236 (by decide))).trans hv11607) ?_
                          refine q_inlV 118 rfl [.ref 231, .int v11607] [] (Nat.le_of_ble_eq_true rfl) rfl ?_
                          refine Ev.mk rfl rfl ⟨Nat.le_of_ble_eq_true rfl, Or.inr (q_rc hI11486.1 kx_231 rfl)⟩ ?_
                          show At _ none _ _ (0, [(0, .ref 231), (1, .int v11607)], [], (_, _)) _
                          refine At.enter rfl ?_
                          refine r_iload_n rfl ?_
                          refine q_i2l (fun v11608 hv11608 => ?_)
                          refine r_lconst 0 rfl ?_
                          refine r_aload_n rfl ?_
                          refine q_getR (Sh.ref hI11486.1 kx_231 rfl) ?_
                          refine r_iconst 0 rfl ?_
                          refine q_iald (Sh.arr hI11486.1 ka_233) 0 rfl (by decide) v7789 e11492 ?_
                          refine q_i2l (fun v11609 hv11609 => ?_)
                          refine r_lconst 1 rfl ?_
                          refine q_lsub (v11609.toInt - 1) rfl (by omega) (fun v11610 hv11610 => ?_)
                          refine q_inlS 15 rfl [.long v11608, .long 0, .long v11610] [] (Nat.le_of_ble_eq_true rfl) rfl ?_
                          refine Ev.mk rfl rfl ⟨Nat.le_of_ble_eq_true rfl, Or.inl rfl⟩ ?_
                          show At _ none _ _ (0, [(0, .long v11608), (2, .long 0), (4, .long v11610)], [], (_, _)) _
                          refine At.enter rfl ?_
                          refine r_lload_n rfl ?_
                          refine r_lload_n rfl ?_
                          refine r_lcmp _ rfl ?_
                          refine r_ifs 6 rfl (fun c11611 => ?_) (fun c11611 => ?_)
                          · have c11611_ : v11608.toInt < 0 := en_j_lt_t c11611
                            refine At.enter rfl ?_
                            refine r_iconst 0 rfl ?_
                            refine Ar.fall 18 rfl ?_
                            refine At.enter rfl ?_
                            refine q_iretz (by decide) ?_
                            refine At.enter rfl ?_
                            refine q_iretz (by decide) ?_
                            refine At.enter rfl ?_
                            refine r_ift (by decide) ?_
                            refine At.enter rfl ?_
                            refine r_iconst 0 rfl ?_
                            refine Ar.fall 141 rfl ?_
                            refine At.enter rfl ?_
                            refine r_istore _ rfl ?_
                            refine r_iload (w_e1 _ _ _) ?_
                            refine r_ift (by decide) ?_
                            refine At.enter rfl ?_
                            refine r_aload_n (w_p1 (by decide) (Or.inr rfl) (w_p1 (by decide) (Or.inr rfl) e11496)) ?_
                            refine r_dup rfl ?_
                            obtain ⟨v11612, hv11612⟩ : ∃ v, gI g11485 231 6 = v := ⟨_, rfl⟩
                            refine q_getI (Sh.int hI11486.1 kx_231 rfl) v11612 hv11612 ?_
                            refine r_iconst 1 rfl ?_
                            refine q_iaddO (fun v11613 _ => ?_)
                            refine q_putI (Sh.int hI11486.1 kx_231 rfl) rfl ?_
                            have hI11614 := HI.wI0 hI11486 kx_231 rfl (p := 231) (b := 6) (v := v11613) rfl
                            have hF11615 := Fr.wI (p := 231) (b := 6) (v := v11613) hF11487 rfl
                            refine Ar.fall 214 rfl ?_
                            refine At.enter rfl ?_
                            refine q_iinc (w_p1 (by decide) (Or.inr rfl) (w_p1 (by decide) (Or.inr rfl) e11499)) (x11484.toInt + 6) rfl (by omega) (fun v11616 hv11616 => ?_)
                            refine r_goto ?_
                            exact ih11490 (405 - v11616.toInt) _ _ ⟨x11483, v11616, by first | rfl | omega, hI11614, hF11615, ((gI_sI_ne (by decide)).trans e11491), ((eA_c gA_sI).trans e11492), ((eA_c gA_sI).trans e11493), ((eA_c gA_sI).trans e11494), ((eA_c gA_sI).trans e11495), (w_p1 (by decide) (Or.inr rfl) (w_p1 (by decide) (Or.inr rfl) (w_p1 (by decide) (Or.inr rfl) e11496))), (w_p1 (by decide) (Or.inr rfl) (w_p1 (by decide) (Or.inr rfl) (w_p1 (by decide) (Or.inr rfl) e11497))), (w_p1 (by decide) (Or.inr rfl) (w_p1 (by decide) (Or.inr rfl) (w_p1 (by decide) (Or.inr rfl) e11498))), (w_e1 _ _ _), by omega, by omega, by omega, (by intro i i0 i1; refine (eA_ti ((gA_sI))).trans ?_; (first | (refine ((q11503 (i) (by omega) (by omega))).trans ?_; (first | rfl | exact eA_ix (by omega) | omega)) | (refine ((q11504 (i) (by omega) (by omega))).trans ?_; (first | rfl | exact eA_ix (by omega) | omega)))), (by intro i i0 i1; refine (eA_ti ((gA_sI))).trans ?_; (first | (refine ((q11503 (i) (by omega) (by omega))).trans ?_; (first | rfl | exact eA_ix (by omega) | omega)) | (refine ((q11504 (i) (by omega) (by omega))).trans ?_; (first | rfl | exact eA_ix (by omega) | omega))))⟩ ⟨by omega, by omega⟩
                          · have c11611_ : v11608.toInt ≥ 0 := en_j_lt_f c11611
                            refine At.enter rfl ?_
                            refine r_lload_n rfl ?_
                            refine r_lload rfl ?_
                            refine r_lcmp _ rfl ?_
                            refine r_ifs 13 rfl (fun c11617 => ?_) (fun c11617 => ?_)
                            · have c11617_ : v11608.toInt > v11610.toInt := en_j_gt_t c11617
                              refine At.enter rfl ?_
                              refine r_iconst 0 rfl ?_
                              refine Ar.fall 18 rfl ?_
                              refine At.enter rfl ?_
                              refine q_iretz (by decide) ?_
                              refine At.enter rfl ?_
                              refine q_iretz (by decide) ?_
                              refine At.enter rfl ?_
                              refine r_ift (by decide) ?_
                              refine At.enter rfl ?_
                              refine r_iconst 0 rfl ?_
                              refine Ar.fall 141 rfl ?_
                              refine At.enter rfl ?_
                              refine r_istore _ rfl ?_
                              refine r_iload (w_e1 _ _ _) ?_
                              refine r_ift (by decide) ?_
                              refine At.enter rfl ?_
                              refine r_aload_n (w_p1 (by decide) (Or.inr rfl) (w_p1 (by decide) (Or.inr rfl) e11496)) ?_
                              refine r_dup rfl ?_
                              obtain ⟨v11618, hv11618⟩ : ∃ v, gI g11485 231 6 = v := ⟨_, rfl⟩
                              refine q_getI (Sh.int hI11486.1 kx_231 rfl) v11618 hv11618 ?_
                              refine r_iconst 1 rfl ?_
                              refine q_iaddO (fun v11619 _ => ?_)
                              refine q_putI (Sh.int hI11486.1 kx_231 rfl) rfl ?_
                              have hI11620 := HI.wI0 hI11486 kx_231 rfl (p := 231) (b := 6) (v := v11619) rfl
                              have hF11621 := Fr.wI (p := 231) (b := 6) (v := v11619) hF11487 rfl
                              refine Ar.fall 214 rfl ?_
                              refine At.enter rfl ?_
                              refine q_iinc (w_p1 (by decide) (Or.inr rfl) (w_p1 (by decide) (Or.inr rfl) e11499)) (x11484.toInt + 6) rfl (by omega) (fun v11622 hv11622 => ?_)
                              refine r_goto ?_
                              exact ih11490 (405 - v11622.toInt) _ _ ⟨x11483, v11622, by first | rfl | omega, hI11620, hF11621, ((gI_sI_ne (by decide)).trans e11491), ((eA_c gA_sI).trans e11492), ((eA_c gA_sI).trans e11493), ((eA_c gA_sI).trans e11494), ((eA_c gA_sI).trans e11495), (w_p1 (by decide) (Or.inr rfl) (w_p1 (by decide) (Or.inr rfl) (w_p1 (by decide) (Or.inr rfl) e11496))), (w_p1 (by decide) (Or.inr rfl) (w_p1 (by decide) (Or.inr rfl) (w_p1 (by decide) (Or.inr rfl) e11497))), (w_p1 (by decide) (Or.inr rfl) (w_p1 (by decide) (Or.inr rfl) (w_p1 (by decide) (Or.inr rfl) e11498))), (w_e1 _ _ _), by omega, by omega, by omega, (by intro i i0 i1; refine (eA_ti ((gA_sI))).trans ?_; (first | (refine ((q11503 (i) (by omega) (by omega))).trans ?_; (first | rfl | exact eA_ix (by omega) | omega)) | (refine ((q11504 (i) (by omega) (by omega))).trans ?_; (first | rfl | exact eA_ix (by omega) | omega)))), (by intro i i0 i1; refine (eA_ti ((gA_sI))).trans ?_; (first | (refine ((q11503 (i) (by omega) (by omega))).trans ?_; (first | rfl | exact eA_ix (by omega) | omega)) | (refine ((q11504 (i) (by omega) (by omega))).trans ?_; (first | rfl | exact eA_ix (by omega) | omega))))⟩ ⟨by omega, by omega⟩
                            · have c11617_ : v11608.toInt ≤ v11610.toInt := en_j_gt_f c11617
                              refine At.enter rfl ?_
                              refine r_iconst 1 rfl ?_
                              refine r_goto ?_
                              refine At.enter rfl ?_
                              refine q_iretz (by decide) ?_
                              refine At.enter rfl ?_
                              refine q_iretz (by decide) ?_
                              refine At.enter rfl ?_
                              refine r_iff 121 rfl (by decide) ?_
                              refine At.enter rfl ?_
                              refine r_aload_n (w_p1 (by decide) (Or.inr rfl) e11496) ?_
                              refine r_aload_n (w_p1 (by decide) (Or.inr rfl) e11496) ?_
                              refine q_getR (Sh.ref hI11486.1 kx_231 rfl) ?_
                              refine r_iload_n (w_p1 (by decide) (Or.inr rfl) e11499) ?_
                              refine r_iconst 2 rfl ?_
                              refine q_iadd (x11484.toInt + 2) rfl (by omega) (fun v11623 hv11623 => ?_)
                              obtain ⟨v11624, hv11624⟩ : ∃ v, eA g0 236 (x11484.toInt + 2) = v := ⟨_, rfl⟩
                              refine q_iald (Sh.arr hI11486.1 ka_236) (x11484.toInt + 2) (by omega) (by omega) v11624 ((eA_c (hF11487.2.1 236 (by decide))).trans hv11624) ?_
                              refine q_inlV 133 rfl [.ref 231, .int v11624] [] (Nat.le_of_ble_eq_true rfl) rfl ?_
                              refine Ev.mk rfl rfl ⟨Nat.le_of_ble_eq_true rfl, Or.inr (q_rc hI11486.1 kx_231 rfl)⟩ ?_
                              show At _ none _ _ (0, [(0, .ref 231), (1, .int v11624)], [], (_, _)) _
                              refine At.enter rfl ?_
                              refine r_iload_n rfl ?_
                              refine q_i2l (fun v11625 hv11625 => ?_)
                              refine r_lconst 0 rfl ?_
                              refine r_aload_n rfl ?_
                              refine q_getR (Sh.ref hI11486.1 kx_231 rfl) ?_
                              refine r_iconst 0 rfl ?_
                              refine q_iald (Sh.arr hI11486.1 ka_233) 0 rfl (by decide) v7789 e11492 ?_
                              refine q_i2l (fun v11626 hv11626 => ?_)
                              refine r_lconst 1 rfl ?_
                              refine q_lsub (v11626.toInt - 1) rfl (by omega) (fun v11627 hv11627 => ?_)
                              refine q_inlS 15 rfl [.long v11625, .long 0, .long v11627] [] (Nat.le_of_ble_eq_true rfl) rfl ?_
                              refine Ev.mk rfl rfl ⟨Nat.le_of_ble_eq_true rfl, Or.inl rfl⟩ ?_
                              show At _ none _ _ (0, [(0, .long v11625), (2, .long 0), (4, .long v11627)], [], (_, _)) _
                              refine At.enter rfl ?_
                              refine r_lload_n rfl ?_
                              refine r_lload_n rfl ?_
                              refine r_lcmp _ rfl ?_
                              refine r_ifs 6 rfl (fun c11628 => ?_) (fun c11628 => ?_)
                              · have c11628_ : v11625.toInt < 0 := en_j_lt_t c11628
                                refine At.enter rfl ?_
                                refine r_iconst 0 rfl ?_
                                refine Ar.fall 18 rfl ?_
                                refine At.enter rfl ?_
                                refine q_iretz (by decide) ?_
                                refine At.enter rfl ?_
                                refine q_iretz (by decide) ?_
                                refine At.enter rfl ?_
                                refine r_ift (by decide) ?_
                                refine At.enter rfl ?_
                                refine r_iconst 0 rfl ?_
                                refine Ar.fall 141 rfl ?_
                                refine At.enter rfl ?_
                                refine r_istore _ rfl ?_
                                refine r_iload (w_e1 _ _ _) ?_
                                refine r_ift (by decide) ?_
                                refine At.enter rfl ?_
                                refine r_aload_n (w_p1 (by decide) (Or.inr rfl) (w_p1 (by decide) (Or.inr rfl) e11496)) ?_
                                refine r_dup rfl ?_
                                obtain ⟨v11629, hv11629⟩ : ∃ v, gI g11485 231 6 = v := ⟨_, rfl⟩
                                refine q_getI (Sh.int hI11486.1 kx_231 rfl) v11629 hv11629 ?_
                                refine r_iconst 1 rfl ?_
                                refine q_iaddO (fun v11630 _ => ?_)
                                refine q_putI (Sh.int hI11486.1 kx_231 rfl) rfl ?_
                                have hI11631 := HI.wI0 hI11486 kx_231 rfl (p := 231) (b := 6) (v := v11630) rfl
                                have hF11632 := Fr.wI (p := 231) (b := 6) (v := v11630) hF11487 rfl
                                refine Ar.fall 214 rfl ?_
                                refine At.enter rfl ?_
                                refine q_iinc (w_p1 (by decide) (Or.inr rfl) (w_p1 (by decide) (Or.inr rfl) e11499)) (x11484.toInt + 6) rfl (by omega) (fun v11633 hv11633 => ?_)
                                refine r_goto ?_
                                exact ih11490 (405 - v11633.toInt) _ _ ⟨x11483, v11633, by first | rfl | omega, hI11631, hF11632, ((gI_sI_ne (by decide)).trans e11491), ((eA_c gA_sI).trans e11492), ((eA_c gA_sI).trans e11493), ((eA_c gA_sI).trans e11494), ((eA_c gA_sI).trans e11495), (w_p1 (by decide) (Or.inr rfl) (w_p1 (by decide) (Or.inr rfl) (w_p1 (by decide) (Or.inr rfl) e11496))), (w_p1 (by decide) (Or.inr rfl) (w_p1 (by decide) (Or.inr rfl) (w_p1 (by decide) (Or.inr rfl) e11497))), (w_p1 (by decide) (Or.inr rfl) (w_p1 (by decide) (Or.inr rfl) (w_p1 (by decide) (Or.inr rfl) e11498))), (w_e1 _ _ _), by omega, by omega, by omega, (by intro i i0 i1; refine (eA_ti ((gA_sI))).trans ?_; (first | (refine ((q11503 (i) (by omega) (by omega))).trans ?_; (first | rfl | exact eA_ix (by omega) | omega)) | (refine ((q11504 (i) (by omega) (by omega))).trans ?_; (first | rfl | exact eA_ix (by omega) | omega)))), (by intro i i0 i1; refine (eA_ti ((gA_sI))).trans ?_; (first | (refine ((q11503 (i) (by omega) (by omega))).trans ?_; (first | rfl | exact eA_ix (by omega) | omega)) | (refine ((q11504 (i) (by omega) (by omega))).trans ?_; (first | rfl | exact eA_ix (by omega) | omega))))⟩ ⟨by omega, by omega⟩
                              · have c11628_ : v11625.toInt ≥ 0 := en_j_lt_f c11628
                                refine At.enter rfl ?_
                                refine r_lload_n rfl ?_
                                refine r_lload rfl ?_
                                refine r_lcmp _ rfl ?_
                                refine r_ifs 13 rfl (fun c11634 => ?_) (fun c11634 => ?_)
                                · have c11634_ : v11625.toInt > v11627.toInt := en_j_gt_t c11634
                                  refine At.enter rfl ?_
                                  refine r_iconst 0 rfl ?_
                                  refine Ar.fall 18 rfl ?_
                                  refine At.enter rfl ?_
                                  refine q_iretz (by decide) ?_
                                  refine At.enter rfl ?_
                                  refine q_iretz (by decide) ?_
                                  refine At.enter rfl ?_
                                  refine r_ift (by decide) ?_
                                  refine At.enter rfl ?_
                                  refine r_iconst 0 rfl ?_
                                  refine Ar.fall 141 rfl ?_
                                  refine At.enter rfl ?_
                                  refine r_istore _ rfl ?_
                                  refine r_iload (w_e1 _ _ _) ?_
                                  refine r_ift (by decide) ?_
                                  refine At.enter rfl ?_
                                  refine r_aload_n (w_p1 (by decide) (Or.inr rfl) (w_p1 (by decide) (Or.inr rfl) e11496)) ?_
                                  refine r_dup rfl ?_
                                  obtain ⟨v11635, hv11635⟩ : ∃ v, gI g11485 231 6 = v := ⟨_, rfl⟩
                                  refine q_getI (Sh.int hI11486.1 kx_231 rfl) v11635 hv11635 ?_
                                  refine r_iconst 1 rfl ?_
                                  refine q_iaddO (fun v11636 _ => ?_)
                                  refine q_putI (Sh.int hI11486.1 kx_231 rfl) rfl ?_
                                  have hI11637 := HI.wI0 hI11486 kx_231 rfl (p := 231) (b := 6) (v := v11636) rfl
                                  have hF11638 := Fr.wI (p := 231) (b := 6) (v := v11636) hF11487 rfl
                                  refine Ar.fall 214 rfl ?_
                                  refine At.enter rfl ?_
                                  refine q_iinc (w_p1 (by decide) (Or.inr rfl) (w_p1 (by decide) (Or.inr rfl) e11499)) (x11484.toInt + 6) rfl (by omega) (fun v11639 hv11639 => ?_)
                                  refine r_goto ?_
                                  exact ih11490 (405 - v11639.toInt) _ _ ⟨x11483, v11639, by first | rfl | omega, hI11637, hF11638, ((gI_sI_ne (by decide)).trans e11491), ((eA_c gA_sI).trans e11492), ((eA_c gA_sI).trans e11493), ((eA_c gA_sI).trans e11494), ((eA_c gA_sI).trans e11495), (w_p1 (by decide) (Or.inr rfl) (w_p1 (by decide) (Or.inr rfl) (w_p1 (by decide) (Or.inr rfl) e11496))), (w_p1 (by decide) (Or.inr rfl) (w_p1 (by decide) (Or.inr rfl) (w_p1 (by decide) (Or.inr rfl) e11497))), (w_p1 (by decide) (Or.inr rfl) (w_p1 (by decide) (Or.inr rfl) (w_p1 (by decide) (Or.inr rfl) e11498))), (w_e1 _ _ _), by omega, by omega, by omega, (by intro i i0 i1; refine (eA_ti ((gA_sI))).trans ?_; (first | (refine ((q11503 (i) (by omega) (by omega))).trans ?_; (first | rfl | exact eA_ix (by omega) | omega)) | (refine ((q11504 (i) (by omega) (by omega))).trans ?_; (first | rfl | exact eA_ix (by omega) | omega)))), (by intro i i0 i1; refine (eA_ti ((gA_sI))).trans ?_; (first | (refine ((q11503 (i) (by omega) (by omega))).trans ?_; (first | rfl | exact eA_ix (by omega) | omega)) | (refine ((q11504 (i) (by omega) (by omega))).trans ?_; (first | rfl | exact eA_ix (by omega) | omega))))⟩ ⟨by omega, by omega⟩
                                · have c11634_ : v11625.toInt ≤ v11627.toInt := en_j_gt_f c11634
                                  refine At.enter rfl ?_
                                  refine r_iconst 1 rfl ?_
                                  refine r_goto ?_
                                  refine At.enter rfl ?_
                                  refine q_iretz (by decide) ?_
                                  refine At.enter rfl ?_
                                  refine q_iretz (by decide) ?_
                                  refine At.enter rfl ?_
                                  refine r_iff 136 rfl (by decide) ?_
                                  refine At.enter rfl ?_
                                  refine r_iconst 1 rfl ?_
                                  refine r_goto ?_
                                  refine At.enter rfl ?_
                                  refine r_istore _ rfl ?_
                                  refine r_iload (w_e1 _ _ _) ?_
                                  refine r_iff 148 rfl (by decide) ?_
                                  refine At.enter rfl ?_
                                  refine r_aload_n (w_p1 (by decide) (Or.inr rfl) (w_p1 (by decide) (Or.inr rfl) e11496)) ?_
                                  refine r_aload_n (w_p1 (by decide) (Or.inr rfl) (w_p1 (by decide) (Or.inr rfl) e11496)) ?_
                                  refine q_getR (Sh.ref hI11486.1 kx_231 rfl) ?_
                                  refine r_iload_n (w_p1 (by decide) (Or.inr rfl) (w_p1 (by decide) (Or.inr rfl) e11499)) ?_
                                  refine q_iald (Sh.arr hI11486.1 ka_236) x11484.toInt rfl (by omega) v11547 ((eA_c (hF11487.2.1 236 (by decide))).trans hv11547) ?_
                                  refine r_aload_n (w_p1 (by decide) (Or.inr rfl) (w_p1 (by decide) (Or.inr rfl) e11496)) ?_
                                  refine q_getR (Sh.ref hI11486.1 kx_231 rfl) ?_
                                  refine r_iload_n (w_p1 (by decide) (Or.inr rfl) (w_p1 (by decide) (Or.inr rfl) e11499)) ?_
                                  refine r_iconst 1 rfl ?_
                                  refine q_iadd (x11484.toInt + 1) rfl (by omega) (fun v11640 hv11640 => ?_)
                                  refine q_iald (Sh.arr hI11486.1 ka_236) (x11484.toInt + 1) (by omega) (by omega) v11607 ((eA_c (hF11487.2.1 236 (by decide))).trans hv11607) ?_
                                  refine r_aload_n (w_p1 (by decide) (Or.inr rfl) (w_p1 (by decide) (Or.inr rfl) e11496)) ?_
                                  refine q_getR (Sh.ref hI11486.1 kx_231 rfl) ?_
                                  refine r_iload_n (w_p1 (by decide) (Or.inr rfl) (w_p1 (by decide) (Or.inr rfl) e11499)) ?_
                                  refine r_iconst 2 rfl ?_
                                  refine q_iadd (x11484.toInt + 2) rfl (by omega) (fun v11641 hv11641 => ?_)
                                  refine q_iald (Sh.arr hI11486.1 ka_236) (x11484.toInt + 2) (by omega) (by omega) v11624 ((eA_c (hF11487.2.1 236 (by decide))).trans hv11624) ?_
                                  refine r_aload_n (w_p1 (by decide) (Or.inr rfl) (w_p1 (by decide) (Or.inr rfl) e11496)) ?_
                                  refine q_getR (Sh.ref hI11486.1 kx_231 rfl) ?_
                                  refine r_iload_n (w_p1 (by decide) (Or.inr rfl) (w_p1 (by decide) (Or.inr rfl) e11499)) ?_
                                  refine r_iconst 3 rfl ?_
                                  refine q_iadd (x11484.toInt + 3) rfl (by omega) (fun v11642 hv11642 => ?_)
                                  refine q_iald (Sh.arr hI11486.1 ka_236) (x11484.toInt + 3) (by omega) (by omega) v11549 ((eA_c (hF11487.2.1 236 (by decide))).trans hv11549) ?_
                                  refine r_aload_n (w_p1 (by decide) (Or.inr rfl) (w_p1 (by decide) (Or.inr rfl) e11496)) ?_
                                  refine q_getR (Sh.ref hI11486.1 kx_231 rfl) ?_
                                  refine r_iload_n (w_p1 (by decide) (Or.inr rfl) (w_p1 (by decide) (Or.inr rfl) e11499)) ?_
                                  refine r_iconst 4 rfl ?_
                                  refine q_iadd (x11484.toInt + 4) rfl (by omega) (fun v11643 hv11643 => ?_)
                                  refine q_iald (Sh.arr hI11486.1 ka_236) (x11484.toInt + 4) (by omega) (by omega) v11551 ((eA_c (hF11487.2.1 236 (by decide))).trans hv11551) ?_
                                  refine r_aload_n (w_p1 (by decide) (Or.inr rfl) (w_p1 (by decide) (Or.inr rfl) e11496)) ?_
                                  refine q_getR (Sh.ref hI11486.1 kx_231 rfl) ?_
                                  refine r_iload_n (w_p1 (by decide) (Or.inr rfl) (w_p1 (by decide) (Or.inr rfl) e11499)) ?_
                                  refine r_iconst 5 rfl ?_
                                  refine q_iadd (x11484.toInt + 5) rfl (by omega) (fun v11644 hv11644 => ?_)
                                  refine q_iald (Sh.arr hI11486.1 ka_236) (x11484.toInt + 5) (by omega) (by omega) v11553 ((eA_c (hF11487.2.1 236 (by decide))).trans hv11553) ?_
                                  refine q_inlV 198 rfl [.ref 231, .int v11547, .int v11607, .int v11624, .int v11549, .int v11551, .int v11553] [] (Nat.le_of_ble_eq_true rfl) rfl ?_
                                  refine Ev.mk rfl rfl ⟨Nat.le_of_ble_eq_true rfl, Or.inr (q_rc hI11486.1 kx_231 rfl)⟩ ?_
                                  show At _ none _ _ (0, [(0, .ref 231), (1, .int v11547), (2, .int v11607), (3, .int v11624), (4, .int v11549), (5, .int v11551), (6, .int v11553)], [], (_, _)) _
                                  refine At.enter rfl ?_
                                  refine r_bipush 46 rfl ?_
                                  refine r_bipush 6 rfl ?_
                                  refine r_aload_n rfl ?_
                                  refine q_getR (Sh.ref hI11486.1 kx_231 rfl) ?_
                                  refine r_iconst 1 rfl ?_
                                  refine q_iald (Sh.arr hI11486.1 ka_233) 1 rfl (by decide) v11540 hv11540 ?_
                                  refine q_imul (6 * v11540.toInt) rfl (by omega) (fun v11645 hv11645 => ?_)
                                  refine q_iadd (46 + v11645.toInt) rfl (by omega) (fun v11646 hv11646 => ?_)
                                  refine r_istore ([(7, .int v11646), (0, .ref 231), (1, .int v11547), (2, .int v11607), (3, .int v11624), (4, .int v11549), (5, .int v11551), (6, .int v11553)]) rfl ?_
                                  refine r_aload_n rfl ?_
                                  refine q_getR (Sh.ref hI11486.1 kx_231 rfl) ?_
                                  refine r_iload rfl ?_
                                  refine r_iload_n rfl ?_
                                  refine q_iast (Sh.arr hI11486.1 ka_233) ((6 * v11540.toInt + 46)) (by omega) (by omega) ?_
                                  have hI11647 := HI.wl hI11486 (j := (6 * v11540.toInt + 46)) (v := v11547) (v11540.toInt) 0 (by omega) (by decide) (by omega) (by omega)
                                  have hF11648 := Fr.wA (p := 233) (j := (6 * v11540.toInt + 46)) (v := v11547) hF11487 rfl
                                  refine r_aload_n rfl ?_
                                  refine q_getR (Sh.ref hI11647.1 kx_231 rfl) ?_
                                  refine r_iload rfl ?_
                                  refine r_iconst 1 rfl ?_
                                  refine q_iadd (v11646.toInt + 1) rfl (by omega) (fun v11649 hv11649 => ?_)
                                  refine r_iload_n rfl ?_
                                  refine q_iast (Sh.arr hI11647.1 ka_233) ((6 * v11540.toInt + 47)) (by omega) (by omega) ?_
                                  have x11652 := HI.eqA hI11647 (p := 233) (j := 0) (((eA_sA_ne hI11486.1 ka_233 (by first | decide | omega) (by first | decide | omega) (by first | decide | omega)).trans e11492))
                                  have hI11650 := HI.wl hI11647 (j := (6 * v11540.toInt + 47)) (v := v11607) (v11540.toInt) 1 (by omega) (by decide) (by omega) (by omega)
                                  have hF11651 := Fr.wA (p := 233) (j := (6 * v11540.toInt + 47)) (v := v11607) hF11648 rfl
                                  refine r_aload_n rfl ?_
                                  refine q_getR (Sh.ref hI11650.1 kx_231 rfl) ?_
                                  refine r_iload rfl ?_
                                  refine r_iconst 2 rfl ?_
                                  refine q_iadd (v11646.toInt + 2) rfl (by omega) (fun v11653 hv11653 => ?_)
                                  refine r_iload_n rfl ?_
                                  refine q_iast (Sh.arr hI11650.1 ka_233) ((6 * v11540.toInt + 48)) (by omega) (by omega) ?_
                                  have x11656 := HI.eqA hI11650 (p := 233) (j := 0) ((((eA_sA_ne hI11647.1 ka_233 (by first | decide | omega) (by first | decide | omega) (by first | decide | omega)).trans (eA_sA_ne hI11486.1 ka_233 (by first | decide | omega) (by first | decide | omega) (by first | decide | omega))).trans e11492))
                                  have hI11654 := HI.wl hI11650 (j := (6 * v11540.toInt + 48)) (v := v11624) (v11540.toInt) 2 (by omega) (by decide) (by omega) (by omega)
                                  have hF11655 := Fr.wA (p := 233) (j := (6 * v11540.toInt + 48)) (v := v11624) hF11651 rfl
                                  refine r_aload_n rfl ?_
                                  refine q_getR (Sh.ref hI11654.1 kx_231 rfl) ?_
                                  refine r_iload rfl ?_
                                  refine r_iconst 3 rfl ?_
                                  refine q_iadd (v11646.toInt + 3) rfl (by omega) (fun v11657 hv11657 => ?_)
                                  refine r_iload rfl ?_
                                  refine q_iast (Sh.arr hI11654.1 ka_233) ((6 * v11540.toInt + 49)) (by omega) (by omega) ?_
                                  have hI11658 := HI.wl hI11654 (j := (6 * v11540.toInt + 49)) (v := v11549) (v11540.toInt) 3 (by omega) (by decide) (by omega) (by omega)
                                  have hF11659 := Fr.wA (p := 233) (j := (6 * v11540.toInt + 49)) (v := v11549) hF11655 rfl
                                  refine r_aload_n rfl ?_
                                  refine q_getR (Sh.ref hI11658.1 kx_231 rfl) ?_
                                  refine r_iload rfl ?_
                                  refine r_iconst 4 rfl ?_
                                  refine q_iadd (v11646.toInt + 4) rfl (by omega) (fun v11660 hv11660 => ?_)
                                  refine r_iload rfl ?_
                                  refine q_iast (Sh.arr hI11658.1 ka_233) ((6 * v11540.toInt + 50)) (by omega) (by omega) ?_
                                  have hI11661 := HI.wl hI11658 (j := (6 * v11540.toInt + 50)) (v := v11551) (v11540.toInt) 4 (by omega) (by decide) (by omega) (by omega)
                                  have hF11662 := Fr.wA (p := 233) (j := (6 * v11540.toInt + 50)) (v := v11551) hF11659 rfl
                                  refine r_aload_n rfl ?_
                                  refine q_getR (Sh.ref hI11661.1 kx_231 rfl) ?_
                                  refine r_iload rfl ?_
                                  refine r_iconst 5 rfl ?_
                                  refine q_iadd (v11646.toInt + 5) rfl (by omega) (fun v11663 hv11663 => ?_)
                                  refine r_iload rfl ?_
                                  refine q_iast (Sh.arr hI11661.1 ka_233) ((6 * v11540.toInt + 51)) (by omega) (by omega) ?_
                                  have hI11664 := HI.wl hI11661 (j := (6 * v11540.toInt + 51)) (v := v11553) (v11540.toInt) 5 (by omega) (by decide) (by omega) (by omega)
                                  have hF11665 := Fr.wA (p := 233) (j := (6 * v11540.toInt + 51)) (v := v11553) hF11662 rfl
                                  refine r_aload_n rfl ?_
                                  refine q_getR (Sh.ref hI11664.1 kx_231 rfl) ?_
                                  refine r_iconst 1 rfl ?_
                                  refine r_dup2 ⟨rfl, rfl⟩ ?_
                                  refine q_iald (Sh.arr hI11664.1 ka_233) 1 rfl (by decide) v11540 (((eA_sA_ne hI11661.1 ka_233 (by first | decide | omega) (by first | decide | omega) (by first | decide | omega)).trans ((eA_sA_ne hI11658.1 ka_233 (by first | decide | omega) (by first | decide | omega) (by first | decide | omega)).trans ((eA_sA_ne hI11654.1 ka_233 (by first | decide | omega) (by first | decide | omega) (by first | decide | omega)).trans ((eA_sA_ne hI11650.1 ka_233 (by first | decide | omega) (by first | decide | omega) (by first | decide | omega)).trans ((eA_sA_ne hI11647.1 ka_233 (by first | decide | omega) (by first | decide | omega) (by first | decide | omega)).trans (eA_sA_ne hI11486.1 ka_233 (by first | decide | omega) (by first | decide | omega) (by first | decide | omega))))))).trans hv11540) ?_
                                  refine r_iconst 1 rfl ?_
                                  refine q_iadd (v11540.toInt + 1) rfl (by omega) (fun v11666 hv11666 => ?_)
                                  refine q_iast (Sh.arr hI11664.1 ka_233) (1) rfl (by decide) ?_
                                  have x11669 := HI.eqA hI11664 (p := 233) (j := 0) ((((eA_sA_ne hI11661.1 ka_233 (by first | decide | omega) (by first | decide | omega) (by first | decide | omega)).trans ((eA_sA_ne hI11658.1 ka_233 (by first | decide | omega) (by first | decide | omega) (by first | decide | omega)).trans ((eA_sA_ne hI11654.1 ka_233 (by first | decide | omega) (by first | decide | omega) (by first | decide | omega)).trans ((eA_sA_ne hI11650.1 ka_233 (by first | decide | omega) (by first | decide | omega) (by first | decide | omega)).trans ((eA_sA_ne hI11647.1 ka_233 (by first | decide | omega) (by first | decide | omega) (by first | decide | omega)).trans (eA_sA_ne hI11486.1 ka_233 (by first | decide | omega) (by first | decide | omega) (by first | decide | omega))))))).trans e11492))
                                  have x11670 := HI.eqA hI11664 (p := 233) (j := 1) ((((eA_sA_ne hI11661.1 ka_233 (by first | decide | omega) (by first | decide | omega) (by first | decide | omega)).trans ((eA_sA_ne hI11658.1 ka_233 (by first | decide | omega) (by first | decide | omega) (by first | decide | omega)).trans ((eA_sA_ne hI11654.1 ka_233 (by first | decide | omega) (by first | decide | omega) (by first | decide | omega)).trans ((eA_sA_ne hI11650.1 ka_233 (by first | decide | omega) (by first | decide | omega) (by first | decide | omega)).trans ((eA_sA_ne hI11647.1 ka_233 (by first | decide | omega) (by first | decide | omega) (by first | decide | omega)).trans (eA_sA_ne hI11486.1 ka_233 (by first | decide | omega) (by first | decide | omega) (by first | decide | omega))))))).trans hv11540))
                                  have yv11671 := HI.lt hI11664
                                  have hI11667 := HI.wt hI11664 (j := 1) (v := v11666) (by omega) (by omega)
                                  have hF11668 := Fr.wA (p := 233) (j := 1) (v := v11666) hF11665 rfl
                                  refine q_vret ?_
                                  refine At.enter rfl ?_
                                  refine q_iinc (w_p1 (by decide) (Or.inr rfl) (w_p1 (by decide) (Or.inr rfl) e11498)) (x11483.toInt + 1) rfl (by omega) (fun v11672 hv11672 => ?_)
                                  refine r_goto ?_
                                  refine At.enter rfl ?_
                                  refine q_iinc (w_p1 (by decide) (Or.inr rfl) (w_p1 (by decide) (Or.inr rfl) (w_p1 (by decide) (Or.inr rfl) e11499))) (x11484.toInt + 6) rfl (by omega) (fun v11673 hv11673 => ?_)
                                  refine r_goto ?_
                                  exact ih11490 (405 - v11673.toInt) _ _ ⟨v11672, v11673, by first | rfl | omega, hI11667, hF11668, (((gI_sW).trans ((gI_sW).trans ((gI_sW).trans ((gI_sW).trans ((gI_sW).trans ((gI_sW).trans (gI_sW))))))).trans e11491), (((eA_sA_ne hI11664.1 ka_233 (by first | decide | omega) (by first | decide | omega) (by first | decide | omega)).trans ((eA_sA_ne hI11661.1 ka_233 (by first | decide | omega) (by first | decide | omega) (by first | decide | omega)).trans ((eA_sA_ne hI11658.1 ka_233 (by first | decide | omega) (by first | decide | omega) (by first | decide | omega)).trans ((eA_sA_ne hI11654.1 ka_233 (by first | decide | omega) (by first | decide | omega) (by first | decide | omega)).trans ((eA_sA_ne hI11650.1 ka_233 (by first | decide | omega) (by first | decide | omega) (by first | decide | omega)).trans ((eA_sA_ne hI11647.1 ka_233 (by first | decide | omega) (by first | decide | omega) (by first | decide | omega)).trans (eA_sA_ne hI11486.1 ka_233 (by first | decide | omega) (by first | decide | omega) (by first | decide | omega)))))))).trans e11492), (((eA_sA_ne hI11664.1 ka_233 (by first | decide | omega) (by first | decide | omega) (by first | decide | omega)).trans ((eA_sA_ne hI11661.1 ka_233 (by first | decide | omega) (by first | decide | omega) (by first | decide | omega)).trans ((eA_sA_ne hI11658.1 ka_233 (by first | decide | omega) (by first | decide | omega) (by first | decide | omega)).trans ((eA_sA_ne hI11654.1 ka_233 (by first | decide | omega) (by first | decide | omega) (by first | decide | omega)).trans ((eA_sA_ne hI11650.1 ka_233 (by first | decide | omega) (by first | decide | omega) (by first | decide | omega)).trans ((eA_sA_ne hI11647.1 ka_233 (by first | decide | omega) (by first | decide | omega) (by first | decide | omega)).trans (eA_sA_ne hI11486.1 ka_233 (by first | decide | omega) (by first | decide | omega) (by first | decide | omega)))))))).trans e11493), (((eA_sA_ne hI11664.1 ka_233 (by first | decide | omega) (by first | decide | omega) (by first | decide | omega)).trans ((eA_sA_ne hI11661.1 ka_233 (by first | decide | omega) (by first | decide | omega) (by first | decide | omega)).trans ((eA_sA_ne hI11658.1 ka_233 (by first | decide | omega) (by first | decide | omega) (by first | decide | omega)).trans ((eA_sA_ne hI11654.1 ka_233 (by first | decide | omega) (by first | decide | omega) (by first | decide | omega)).trans ((eA_sA_ne hI11650.1 ka_233 (by first | decide | omega) (by first | decide | omega) (by first | decide | omega)).trans ((eA_sA_ne hI11647.1 ka_233 (by first | decide | omega) (by first | decide | omega) (by first | decide | omega)).trans (eA_sA_ne hI11486.1 ka_233 (by first | decide | omega) (by first | decide | omega) (by first | decide | omega)))))))).trans e11494), (((eA_sA_ne hI11664.1 ka_233 (by first | decide | omega) (by first | decide | omega) (by first | decide | omega)).trans ((eA_sA_ne hI11661.1 ka_233 (by first | decide | omega) (by first | decide | omega) (by first | decide | omega)).trans ((eA_sA_ne hI11658.1 ka_233 (by first | decide | omega) (by first | decide | omega) (by first | decide | omega)).trans ((eA_sA_ne hI11654.1 ka_233 (by first | decide | omega) (by first | decide | omega) (by first | decide | omega)).trans ((eA_sA_ne hI11650.1 ka_233 (by first | decide | omega) (by first | decide | omega) (by first | decide | omega)).trans ((eA_sA_ne hI11647.1 ka_233 (by first | decide | omega) (by first | decide | omega) (by first | decide | omega)).trans (eA_sA_ne hI11486.1 ka_233 (by first | decide | omega) (by first | decide | omega) (by first | decide | omega)))))))).trans e11495), (w_p1 (by decide) (Or.inr rfl) (w_p1 (by decide) (Or.inr rfl) (w_p1 (by decide) (Or.inr rfl) (w_p1 (by decide) (Or.inr rfl) e11496)))), (w_p1 (by decide) (Or.inr rfl) (w_p1 (by decide) (Or.inr rfl) (w_p1 (by decide) (Or.inr rfl) (w_p1 (by decide) (Or.inr rfl) e11497)))), (w_p1 (by decide) (Or.inr rfl) (w_e1 _ _ _)), (w_e1 _ _ _), by omega, by omega, by omega, (by intro i i0 i1; exact (Decidable.em (i = 1)).elim (fun k183_ => by refine (eA_eqT hI11664.1 ka_233 k183_ (by first | decide | omega) (by first | decide | omega)).trans ?_; (first | (rfl) | (omega))) (fun k183_ => by refine (eA_neT hI11664.1 ka_233 k183_ (by first | decide | omega) (by omega)).trans ?_; exact (Decidable.em (i = (6 * v11540.toInt + 51))).elim (fun k184_ => by refine (eA_eqT hI11661.1 ka_233 k184_ (by first | decide | omega) (by first | decide | omega)).trans ?_; (first | (rfl) | (omega) | (refine (congrArg Int32.toInt hv11553).symm.trans ?_; (first | rfl | exact eA_ix (by omega) | omega)))) (fun k184_ => by refine (eA_neT hI11661.1 ka_233 k184_ (by first | decide | omega) (by omega)).trans ?_; exact (Decidable.em (i = (6 * v11540.toInt + 50))).elim (fun k185_ => by refine (eA_eqT hI11658.1 ka_233 k185_ (by first | decide | omega) (by first | decide | omega)).trans ?_; (first | (rfl) | (omega) | (refine (congrArg Int32.toInt hv11551).symm.trans ?_; (first | rfl | exact eA_ix (by omega) | omega)))) (fun k185_ => by refine (eA_neT hI11658.1 ka_233 k185_ (by first | decide | omega) (by omega)).trans ?_; exact (Decidable.em (i = (6 * v11540.toInt + 49))).elim (fun k186_ => by refine (eA_eqT hI11654.1 ka_233 k186_ (by first | decide | omega) (by first | decide | omega)).trans ?_; (first | (rfl) | (omega) | (refine (congrArg Int32.toInt hv11549).symm.trans ?_; (first | rfl | exact eA_ix (by omega) | omega)))) (fun k186_ => by refine (eA_neT hI11654.1 ka_233 k186_ (by first | decide | omega) (by omega)).trans ?_; exact (Decidable.em (i = (6 * v11540.toInt + 48))).elim (fun k187_ => by refine (eA_eqT hI11650.1 ka_233 k187_ (by first | decide | omega) (by first | decide | omega)).trans ?_; (first | (rfl) | (omega) | (refine (congrArg Int32.toInt hv11624).symm.trans ?_; (first | rfl | exact eA_ix (by omega) | omega)))) (fun k187_ => by refine (eA_neT hI11650.1 ka_233 k187_ (by first | decide | omega) (by omega)).trans ?_; exact (Decidable.em (i = (6 * v11540.toInt + 47))).elim (fun k188_ => by refine (eA_eqT hI11647.1 ka_233 k188_ (by first | decide | omega) (by first | decide | omega)).trans ?_; (first | (rfl) | (omega) | (refine (congrArg Int32.toInt hv11607).symm.trans ?_; (first | rfl | exact eA_ix (by omega) | omega)))) (fun k188_ => by refine (eA_neT hI11647.1 ka_233 k188_ (by first | decide | omega) (by omega)).trans ?_; exact (Decidable.em (i = (6 * v11540.toInt + 46))).elim (fun k189_ => by refine (eA_eqT hI11486.1 ka_233 k189_ (by first | decide | omega) (by first | decide | omega)).trans ?_; (first | (rfl) | (omega) | (refine (congrArg Int32.toInt hv11547).symm.trans ?_; (first | rfl | exact eA_ix (by omega) | omega)))) (fun k189_ => by refine (eA_neT hI11486.1 ka_233 k189_ (by first | decide | omega) (by omega)).trans ?_; (first | (refine ((q11503 (i) (by omega) (by omega))).trans ?_; (first | rfl | exact eA_ix (by omega) | omega)) | (refine ((q11504 (i) (by omega) (by omega))).trans ?_; (first | rfl | exact eA_ix (by omega) | omega))))))))))), (by intro i i0 i1; exact (Decidable.em (i = 1)).elim (fun k190_ => by refine (eA_eqT hI11664.1 ka_233 k190_ (by first | decide | omega) (by first | decide | omega)).trans ?_; (first | (rfl) | (omega))) (fun k190_ => by refine (eA_neT hI11664.1 ka_233 k190_ (by first | decide | omega) (by omega)).trans ?_; exact (Decidable.em (i = (6 * v11540.toInt + 51))).elim (fun k191_ => by refine (eA_eqT hI11661.1 ka_233 k191_ (by first | decide | omega) (by first | decide | omega)).trans ?_; (first | (rfl) | (omega) | (refine (congrArg Int32.toInt hv11553).symm.trans ?_; (first | rfl | exact eA_ix (by omega) | omega)))) (fun k191_ => by refine (eA_neT hI11661.1 ka_233 k191_ (by first | decide | omega) (by omega)).trans ?_; exact (Decidable.em (i = (6 * v11540.toInt + 50))).elim (fun k192_ => by refine (eA_eqT hI11658.1 ka_233 k192_ (by first | decide | omega) (by first | decide | omega)).trans ?_; (first | (rfl) | (omega) | (refine (congrArg Int32.toInt hv11551).symm.trans ?_; (first | rfl | exact eA_ix (by omega) | omega)))) (fun k192_ => by refine (eA_neT hI11658.1 ka_233 k192_ (by first | decide | omega) (by omega)).trans ?_; exact (Decidable.em (i = (6 * v11540.toInt + 49))).elim (fun k193_ => by refine (eA_eqT hI11654.1 ka_233 k193_ (by first | decide | omega) (by first | decide | omega)).trans ?_; (first | (rfl) | (omega) | (refine (congrArg Int32.toInt hv11549).symm.trans ?_; (first | rfl | exact eA_ix (by omega) | omega)))) (fun k193_ => by refine (eA_neT hI11654.1 ka_233 k193_ (by first | decide | omega) (by omega)).trans ?_; exact (Decidable.em (i = (6 * v11540.toInt + 48))).elim (fun k194_ => by refine (eA_eqT hI11650.1 ka_233 k194_ (by first | decide | omega) (by first | decide | omega)).trans ?_; (first | (rfl) | (omega) | (refine (congrArg Int32.toInt hv11624).symm.trans ?_; (first | rfl | exact eA_ix (by omega) | omega)))) (fun k194_ => by refine (eA_neT hI11650.1 ka_233 k194_ (by first | decide | omega) (by omega)).trans ?_; exact (Decidable.em (i = (6 * v11540.toInt + 47))).elim (fun k195_ => by refine (eA_eqT hI11647.1 ka_233 k195_ (by first | decide | omega) (by first | decide | omega)).trans ?_; (first | (rfl) | (omega) | (refine (congrArg Int32.toInt hv11607).symm.trans ?_; (first | rfl | exact eA_ix (by omega) | omega)))) (fun k195_ => by refine (eA_neT hI11647.1 ka_233 k195_ (by first | decide | omega) (by omega)).trans ?_; exact (Decidable.em (i = (6 * v11540.toInt + 46))).elim (fun k196_ => by refine (eA_eqT hI11486.1 ka_233 k196_ (by first | decide | omega) (by first | decide | omega)).trans ?_; (first | (rfl) | (omega) | (refine (congrArg Int32.toInt hv11547).symm.trans ?_; (first | rfl | exact eA_ix (by omega) | omega)))) (fun k196_ => by refine (eA_neT hI11486.1 ka_233 k196_ (by first | decide | omega) (by omega)).trans ?_; (first | (refine ((q11503 (i) (by omega) (by omega))).trans ?_; (first | rfl | exact eA_ix (by omega) | omega)) | (refine ((q11504 (i) (by omega) (by omega))).trans ?_; (first | rfl | exact eA_ix (by omega) | omega)))))))))))⟩ ⟨by omega, by omega⟩
  · have c7786_ : v7783.toInt = 0 := en_k_ne_f c7786
    refine At.enter rfl ?_
    refine r_aload_n rfl ?_
    refine r_bipush (-6) rfl ?_
    refine r_callV 25 rfl [.ref 231, .int (-6)] [] (Nat.le_of_ble_eq_true rfl) rfl (T_X11_tell_231 _ hI7784 (-6) (by decide)) ?_
    rintro _ _ ⟨g11674, rfl, hI11675, hF11676, v11677, rfl, hr11678⟩
    refine At.sti ?_
    have hF11679 := Fr.tr hF7785 hF11676 rfl rfl
    have zv11680 : ((-6) : Int32).toInt = (-6) := rfl
    refine At.enter rfl ?_
    refine r_ireti ?_
    have x11681 := HI.eqI hI11675 (p := 231) (b := 8) (((hF11676.1 231 8 (by decide)).trans (gI_sI_eq hI7781.1 kx_231 rfl _)))
    have zv11682 : (0 : Int32).toInt = 0 := rfl
    obtain ⟨v11683, hv11683⟩ : ∃ v, eA g0 233 0 = v := ⟨_, rfl⟩
    have tv11683 := congrArg Int32.toInt hv11683
    have wv11683 := HI.t0 hI0
    rw [hv11683] at wv11683
    have tv11683 := congrArg Int32.toInt hv11683
    have x11684 := HI.eqA hI11675 (p := 233) (j := 0) ((((eA_c (hF11676.2.1 233 (by decide))).trans ((eA_c gA_sI).trans (eA_c gA_sI))).trans hv11683))
    obtain ⟨v11685, hv11685⟩ : ∃ v, eA g0 233 4 = v := ⟨_, rfl⟩
    have wv11685 := HI.t4 hI0
    rw [hv11685] at wv11685
    have tv11685 := congrArg Int32.toInt hv11685
    have x11686 := HI.eqA hI11675 (p := 233) (j := 4) ((((eA_c (hF11676.2.1 233 (by decide))).trans ((eA_c gA_sI).trans (eA_c gA_sI))).trans hv11685))
    obtain ⟨v11687, hv11687⟩ : ∃ v, eA g0 233 5 = v := ⟨_, rfl⟩
    have wv11687 := HI.t5 hI0
    rw [hv11687] at wv11687
    have tv11687 := congrArg Int32.toInt hv11687
    have x11688 := HI.eqA hI11675 (p := 233) (j := 5) ((((eA_c (hF11676.2.1 233 (by decide))).trans ((eA_c gA_sI).trans (eA_c gA_sI))).trans hv11687))
    obtain ⟨v11689, hv11689⟩ : ∃ v, eA g0 233 6 = v := ⟨_, rfl⟩
    have wv11689 := HI.t6 hI0
    rw [hv11689] at wv11689
    have tv11689 := congrArg Int32.toInt hv11689
    have x11690 := HI.eqA hI11675 (p := 233) (j := 6) ((((eA_c (hF11676.2.1 233 (by decide))).trans ((eA_c gA_sI).trans (eA_c gA_sI))).trans hv11689))
    have x11691 := HI.eqA hI0 (p := 233) (j := 0) (hv11683)
    have x11692 := HI.eqA hI0 (p := 233) (j := 4) (hv11685)
    have x11693 := HI.eqA hI0 (p := 233) (j := 5) (hv11687)
    have x11694 := HI.eqA hI0 (p := 233) (j := 6) (hv11689)
    exact ⟨_, rfl, hI11675, hF11679, _, rfl, by omega, ⟨⟨by omega, by omega, by omega, by omega, by omega⟩, (by intro i i0 i1; refine (eA_ti (((hF11676.2.1 233 (by decide)).trans ((gA_sI).trans (gA_sI))))).trans ?_; (first | rfl | exact eA_ix (by omega) | omega)), (by intro i i0 i1; refine (eA_ti (((hF11676.2.1 233 (by decide)).trans ((gA_sI).trans (gA_sI))))).trans ?_; (first | rfl | exact eA_ix (by omega) | omega))⟩⟩
