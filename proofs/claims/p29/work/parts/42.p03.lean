def F_X11_inner_231 : List (Nat × Nat) := []
def A_X11_inner_231 : List Nat := []
set_option maxRecDepth 100000 in
set_option maxHeartbeats 4000000 in
theorem T_X11_inner_231 (d : Nat) {N : Nat} {g0 : List en_E} (hI0 : HI g0) : Ev (d + 1) 199 [.ref 231] (g0, N) (fun w h' => ∃ g', h' = (g', N) ∧ HI g' ∧ Fr F_X11_inner_231 A_X11_inner_231 g0 g' ∧ ∃ r : Int32, w = some (.int r) ∧ ((-1) ≤ r.toInt ∧ r.toInt ≤ 31) ∧ INN g0 (gI g0 231 23).toInt r.toInt) := by
  have hF0 : Fr F_X11_inner_231 A_X11_inner_231 g0 g0 := Fr.rf
  obtain ⟨v1, hv1⟩ : ∃ v, gI g0 231 23 = v := ⟨_, rfl⟩
  have rv1 := RgF.at hI0.2.1 (p := 231) (b := 23) rfl
  rw [hv1] at rv1
  dsimp only at rv1
  have tv1 := congrArg Int32.toInt hv1
  refine Ev.mk rfl rfl ⟨Nat.le_of_ble_eq_true rfl, Or.inr (q_rc hI0.1 kx_231 rfl)⟩ ?_
  show At _ none _ _ (0, [(0, .ref 231)], [], (_, _)) _
  refine At.enter rfl ?_
  refine r_iconst (-1) rfl ?_
  refine r_istore_n ([(1, .int (-1)), (0, .ref 231)]) rfl ?_
  refine r_iconst 0 rfl ?_
  refine r_istore_n ([(2, .int 0), (1, .int (-1)), (0, .ref 231)]) rfl ?_
  refine Ar.fall 4 rfl ?_
  have z_595 : ((-1) : Int32).toInt = (-1) := rfl
  have z_596 : (0 : Int32).toInt = 0 := rfl
  refine w_loopI (fun n_ l_ g_ => ∃ x580 : Int32, ∃ x581 : Int32, n_ = 400 - x581.toInt ∧ HI g_ ∧ Fr F_X11_inner_231 A_X11_inner_231 g0 g_ ∧ en_get 0 l_ = some (.ref 231) ∧ en_get 1 l_ = some (.int x580) ∧ en_get 2 l_ = some (.int x581) ∧ ((-1) ≤ x580.toInt ∧ x580.toInt ≤ 31) ∧ (0 ≤ x581.toInt ∧ x581.toInt ≤ 400) ∧ (INN g0 x581.toInt x580.toInt) ∧ (x581.toInt ≤ (gI g0 231 23).toInt)) ?_ (400 - 0) ⟨(-1), 0, by first | rfl | omega, hI0, hF0, rfl, rfl, rfl, by decide, by decide, INN.zero, by omega⟩
  rintro n586 l585 g582 ⟨x580, x581, hm597, hI583, hF584, e588, e589, e590, r591, r592, q593, q594⟩ ih587
  refine At.enter rfl ?_
  refine r_iload_n e590 ?_
  refine r_aload_n e588 ?_
  refine q_getI (Sh.int hI583.1 kx_231 rfl) v1 ((hF584.1 231 23 (by decide)).trans hv1) ?_
  have bv599 := q_bnd x581
  have bv600 := q_bnd v1
  refine r_ics 12 rfl (fun c598 => ?_) (fun c598 => ?_)
  · have c598_ : x581.toInt ≥ v1.toInt := en_i_ge_t c598
    refine At.enter rfl ?_
    refine r_iload_n e589 ?_
    refine r_ireti ?_
    have x601 := HI.eqI hI583 (p := 231) (b := 23) (((hF584.1 231 23 (by decide)).trans hv1))
    have x602 := HI.eqI hI0 (p := 231) (b := 23) (hv1)
    exact ⟨_, rfl, hI583, hF584, _, rfl, by omega, (INN.eqk q593 (by omega))⟩
  · have c598_ : x581.toInt < v1.toInt := en_i_ge_f c598
    refine At.enter rfl ?_
    refine r_aload_n e588 ?_
    refine q_getR (Sh.ref hI583.1 kx_231 rfl) ?_
    refine r_iload_n e590 ?_
    obtain ⟨v603, hv603⟩ : ∃ v, eA g0 240 x581.toInt = v := ⟨_, rfl⟩
    have rv603 := RgA.at hI0.2.2.1 (Sh.arr hI0.1 ka_240).2 (p := 240) rfl (j := x581.toInt) (by omega)
    rw [hv603] at rv603
    dsimp only at rv603
    refine q_iald (Sh.arr hI583.1 ka_240) x581.toInt rfl (by omega) v603 ((eA_c (hF584.2.1 240 (by decide))).trans hv603) ?_
    refine r_bipush 30 rfl ?_
    refine r_ics 23 rfl (fun c604 => ?_) (fun c604 => ?_)
    · have c604_ : v603.toInt < 30 := en_i_lt_t c604
      refine At.enter rfl ?_
      refine r_iload_n e589 ?_
      refine Ar.fall 33 rfl ?_
      refine At.enter rfl ?_
      refine r_istore_n _ rfl ?_
      refine q_iinc (w_p1 (by decide) (Or.inr rfl) e590) (x581.toInt + 1) rfl (by omega) (fun v605 hv605 => ?_)
      refine r_goto ?_
      exact ih587 (400 - v605.toInt) _ _ ⟨x580, v605, by first | rfl | omega, hI583, hF584, (w_p1 (by decide) (Or.inr rfl) (w_p1 (by decide) (Or.inr rfl) e588)), (w_p1 (by decide) (Or.inr rfl) (w_e1 _ _ _)), (w_e1 _ _ _), by omega, by omega, (INN.step q593 (by omega) (by omega) (by have hz : pE g0 240 x581.toInt = v603.toInt := congrArg Int32.toInt hv603; rw [hz]; omega)), by omega⟩ ⟨by omega, by omega⟩
    · have c604_ : v603.toInt ≥ 30 := en_i_lt_f c604
      refine At.enter rfl ?_
      refine r_aload_n e588 ?_
      refine q_getR (Sh.ref hI583.1 kx_231 rfl) ?_
      refine r_iload_n e590 ?_
      refine q_iald (Sh.arr hI583.1 ka_240) x581.toInt rfl (by omega) v603 ((eA_c (hF584.2.1 240 (by decide))).trans hv603) ?_
      refine r_goto ?_
      refine At.enter rfl ?_
      refine r_istore_n _ rfl ?_
      refine q_iinc (w_p1 (by decide) (Or.inr rfl) e590) (x581.toInt + 1) rfl (by omega) (fun v606 hv606 => ?_)
      refine r_goto ?_
      exact ih587 (400 - v606.toInt) _ _ ⟨v603, v606, by first | rfl | omega, hI583, hF584, (w_p1 (by decide) (Or.inr rfl) (w_p1 (by decide) (Or.inr rfl) e588)), (w_p1 (by decide) (Or.inr rfl) (w_e1 _ _ _)), (w_e1 _ _ _), by omega, by omega, (INN.step q593 (by omega) (by omega) (by have hz : pE g0 240 x581.toInt = v603.toInt := congrArg Int32.toInt hv603; rw [hz]; omega)), by omega⟩ ⟨by omega, by omega⟩

def F_X11_isCompared_231 : List (Nat × Nat) := []
def A_X11_isCompared_231 : List Nat := []
set_option maxRecDepth 100000 in
set_option maxHeartbeats 4000000 in
theorem T_X11_isCompared_231 (d : Nat) {N : Nat} {g0 : List en_E} (hI0 : HI g0) : Ev (d + 2) 200 [.ref 231] (g0, N) (fun w h' => ∃ g', h' = (g', N) ∧ HI g' ∧ Fr F_X11_isCompared_231 A_X11_isCompared_231 g0 g' ∧ ∃ r : Int32, w = some (.int r) ∧ (0 ≤ r.toInt ∧ r.toInt ≤ 1) ∧ CMPD g0 r.toInt) := by
  have hF0 : Fr F_X11_isCompared_231 A_X11_isCompared_231 g0 g0 := Fr.rf
  obtain ⟨v1, hv1⟩ : ∃ v, gI g0 231 23 = v := ⟨_, rfl⟩
  have rv1 := RgF.at hI0.2.1 (p := 231) (b := 23) rfl
  rw [hv1] at rv1
  dsimp only at rv1
  have tv1 := congrArg Int32.toInt hv1
  refine Ev.mk rfl rfl ⟨Nat.le_of_ble_eq_true rfl, Or.inr (q_rc hI0.1 kx_231 rfl)⟩ ?_
  show At _ none _ _ (0, [(0, .ref 231)], [], (_, _)) _
  refine At.enter rfl ?_
  refine r_aload_n rfl ?_
  refine q_getI (Sh.int hI0.1 kx_231 rfl) v1 hv1 ?_
  refine r_iconst 1 rfl ?_
  refine q_isub (v1.toInt - 1) rfl (by omega) (fun v124 hv124 => ?_)
  refine r_istore_n ([(1, .int v124), (0, .ref 231)]) rfl ?_
  refine Ar.fall 7 rfl ?_
  have x169 := HI.eqI hI0 (p := 231) (b := 23) (hv1)
  refine w_loopI (fun n_ l_ g_ => ∃ x157 : Int32, n_ = x157.toInt - (-1) ∧ HI g_ ∧ Fr F_X11_isCompared_231 A_X11_isCompared_231 g0 g_ ∧ en_get 0 l_ = some (.ref 231) ∧ en_get 1 l_ = some (.int x157) ∧ ((-1) ≤ x157.toInt ∧ x157.toInt ≤ 399) ∧ (∀ j : Int, x157.toInt < j → j < (gI g0 231 23).toInt → (eA g0 240 j).toInt ≤ 23) ∧ (x157.toInt < (gI g0 231 23).toInt)) ?_ (v124.toInt - (-1)) ⟨v124, by first | rfl | omega, hI0, hF0, rfl, rfl, by omega, (fun j h0 h1 => False.elim (by omega)), by omega⟩
  rintro n162 l161 g158 ⟨x157, hm170, hI159, hF160, e164, e165, r166, q167, q168⟩ ih163
  refine At.enter rfl ?_
  refine r_iload_n e165 ?_
  refine r_ifs 11 rfl (fun c171 => ?_) (fun c171 => ?_)
  · have c171_ : x157.toInt < 0 := en_k_lt_t c171
    refine At.enter rfl ?_
    refine r_iload_n e165 ?_
    refine r_ifs 40 rfl (fun c172 => ?_) (fun c172 => ?_)
    · have c172_ : x157.toInt < 0 := en_k_lt_t c172
      refine At.enter rfl ?_
      refine r_iconst 0 rfl ?_
      refine Ar.fall 64 rfl ?_
      refine At.enter rfl ?_
      refine r_iretz (by decide) ?_
      have zv173 : (0 : Int32).toInt = 0 := rfl
      exact ⟨_, rfl, hI159, hF160, _, rfl, by decide, (Or.inr ⟨by omega, Or.inl (fun j h0 h1 => q167 j (by omega) h1)⟩)⟩
    · have c172_ : x157.toInt ≥ 0 := en_k_lt_f c172
      exfalso; omega
  · have c171_ : x157.toInt ≥ 0 := en_k_lt_f c171
    refine At.enter rfl ?_
    refine r_aload_n e164 ?_
    refine q_getR (Sh.ref hI159.1 kx_231 rfl) ?_
    refine r_iload_n e165 ?_
    obtain ⟨v175, hv175⟩ : ∃ v, eA g0 240 x157.toInt = v := ⟨_, rfl⟩
    have rv175 := RgA.at hI0.2.2.1 (Sh.arr hI0.1 ka_240).2 (p := 240) rfl (j := x157.toInt) (by omega)
    rw [hv175] at rv175
    dsimp only at rv175
    refine q_iald (Sh.arr hI159.1 ka_240) x157.toInt rfl (by omega) v175 ((eA_c (hF160.2.1 240 (by decide))).trans hv175) ?_
    refine q_i2l (fun v176 hv176 => ?_)
    refine r_ldc2 20 rfl ?_
    refine r_ldc2 23 rfl ?_
    refine q_inlS 27 rfl [.long v176, .long 20, .long 23] [] (Nat.le_of_ble_eq_true rfl) rfl ?_
    refine Ev.mk rfl rfl ⟨Nat.le_of_ble_eq_true rfl, Or.inl rfl⟩ ?_
    show At _ none _ _ (0, [(0, .long v176), (2, .long 20), (4, .long 23)], [], (_, _)) _
    refine At.enter rfl ?_
    refine r_lload_n rfl ?_
    refine r_lload_n rfl ?_
    refine r_lcmp _ rfl ?_
    refine r_ifs 6 rfl (fun c177 => ?_) (fun c177 => ?_)
    · have c177_ : v176.toInt < 20 := en_j_lt_t c177
      refine At.enter rfl ?_
      refine r_iconst 0 rfl ?_
      refine Ar.fall 18 rfl ?_
      refine At.enter rfl ?_
      refine q_iretz (by decide) ?_
      refine At.enter rfl ?_
      refine r_ift (by decide) ?_
      refine At.enter rfl ?_
      refine r_iload_n e165 ?_
      refine r_ifs 40 rfl (fun c178 => ?_) (fun c178 => ?_)
      · have c178_ : x157.toInt < 0 := en_k_lt_t c178
        exfalso; omega
      · have c178_ : x157.toInt ≥ 0 := en_k_lt_f c178
        refine At.enter rfl ?_
        refine r_aload_n e164 ?_
        refine q_getR (Sh.ref hI159.1 kx_231 rfl) ?_
        refine r_iload_n e165 ?_
        refine q_iald (Sh.arr hI159.1 ka_240) x157.toInt rfl (by omega) v175 ((eA_c (hF160.2.1 240 (by decide))).trans hv175) ?_
        refine q_i2l (fun v179 hv179 => ?_)
        refine r_ldc2 24 rfl ?_
        refine r_ldc2 26 rfl ?_
        refine q_inlS 56 rfl [.long v179, .long 24, .long 26] [] (Nat.le_of_ble_eq_true rfl) rfl ?_
        refine Ev.mk rfl rfl ⟨Nat.le_of_ble_eq_true rfl, Or.inl rfl⟩ ?_
        show At _ none _ _ (0, [(0, .long v179), (2, .long 24), (4, .long 26)], [], (_, _)) _
        refine At.enter rfl ?_
        refine r_lload_n rfl ?_
        refine r_lload_n rfl ?_
        refine r_lcmp _ rfl ?_
        refine r_ifs 6 rfl (fun c180 => ?_) (fun c180 => ?_)
        · have c180_ : v179.toInt < 24 := en_j_lt_t c180
          refine At.enter rfl ?_
          refine r_iconst 0 rfl ?_
          refine Ar.fall 18 rfl ?_
          refine At.enter rfl ?_
          refine q_iretz (by decide) ?_
          refine At.enter rfl ?_
          refine r_ift (by decide) ?_
          refine At.enter rfl ?_
          refine r_iconst 0 rfl ?_
          refine Ar.fall 64 rfl ?_
          refine At.enter rfl ?_
          refine r_iretz (by decide) ?_
          have zv181 : (0 : Int32).toInt = 0 := rfl
          exact ⟨_, rfl, hI159, hF160, _, rfl, by decide, (Or.inr ⟨by omega, Or.inr ⟨x157.toInt, by omega, by omega, (by show (eA g0 240 x157.toInt).toInt < 20 ∨ 26 < (eA g0 240 x157.toInt).toInt; rw [hv175]; omega), q167⟩⟩)⟩
        · have c180_ : v179.toInt ≥ 24 := en_j_lt_f c180
          exfalso; omega
    · have c177_ : v176.toInt ≥ 20 := en_j_lt_f c177
      refine At.enter rfl ?_
      refine r_lload_n rfl ?_
      refine r_lload rfl ?_
      refine r_lcmp _ rfl ?_
      refine r_ifs 13 rfl (fun c183 => ?_) (fun c183 => ?_)
      · have c183_ : v176.toInt > 23 := en_j_gt_t c183
        refine At.enter rfl ?_
        refine r_iconst 0 rfl ?_
        refine Ar.fall 18 rfl ?_
        refine At.enter rfl ?_
        refine q_iretz (by decide) ?_
        refine At.enter rfl ?_
        refine r_ift (by decide) ?_
        refine At.enter rfl ?_
        refine r_iload_n e165 ?_
        refine r_ifs 40 rfl (fun c184 => ?_) (fun c184 => ?_)
        · have c184_ : x157.toInt < 0 := en_k_lt_t c184
          exfalso; omega
        · have c184_ : x157.toInt ≥ 0 := en_k_lt_f c184
          refine At.enter rfl ?_
          refine r_aload_n e164 ?_
          refine q_getR (Sh.ref hI159.1 kx_231 rfl) ?_
          refine r_iload_n e165 ?_
          refine q_iald (Sh.arr hI159.1 ka_240) x157.toInt rfl (by omega) v175 ((eA_c (hF160.2.1 240 (by decide))).trans hv175) ?_
          refine q_i2l (fun v185 hv185 => ?_)
          refine r_ldc2 24 rfl ?_
          refine r_ldc2 26 rfl ?_
          refine q_inlS 56 rfl [.long v185, .long 24, .long 26] [] (Nat.le_of_ble_eq_true rfl) rfl ?_
          refine Ev.mk rfl rfl ⟨Nat.le_of_ble_eq_true rfl, Or.inl rfl⟩ ?_
          show At _ none _ _ (0, [(0, .long v185), (2, .long 24), (4, .long 26)], [], (_, _)) _
          refine At.enter rfl ?_
          refine r_lload_n rfl ?_
          refine r_lload_n rfl ?_
          refine r_lcmp _ rfl ?_
          refine r_ifs 6 rfl (fun c186 => ?_) (fun c186 => ?_)
          · have c186_ : v185.toInt < 24 := en_j_lt_t c186
            exfalso; omega
          · have c186_ : v185.toInt ≥ 24 := en_j_lt_f c186
            refine At.enter rfl ?_
            refine r_lload_n rfl ?_
            refine r_lload rfl ?_
            refine r_lcmp _ rfl ?_
            refine r_ifs 13 rfl (fun c187 => ?_) (fun c187 => ?_)
            · have c187_ : v185.toInt > 26 := en_j_gt_t c187
              refine At.enter rfl ?_
              refine r_iconst 0 rfl ?_
              refine Ar.fall 18 rfl ?_
              refine At.enter rfl ?_
              refine q_iretz (by decide) ?_
              refine At.enter rfl ?_
              refine r_ift (by decide) ?_
              refine At.enter rfl ?_
              refine r_iconst 0 rfl ?_
              refine Ar.fall 64 rfl ?_
              refine At.enter rfl ?_
              refine r_iretz (by decide) ?_
              have zv188 : (0 : Int32).toInt = 0 := rfl
              exact ⟨_, rfl, hI159, hF160, _, rfl, by decide, (Or.inr ⟨by omega, Or.inr ⟨x157.toInt, by omega, by omega, (by show (eA g0 240 x157.toInt).toInt < 20 ∨ 26 < (eA g0 240 x157.toInt).toInt; rw [hv175]; omega), q167⟩⟩)⟩
            · have c187_ : v185.toInt ≤ 26 := en_j_gt_f c187
              refine At.enter rfl ?_
              refine r_iconst 1 rfl ?_
              refine r_goto ?_
              refine At.enter rfl ?_
              refine q_iretz (by decide) ?_
              refine At.enter rfl ?_
              refine r_iff 59 rfl (by decide) ?_
              refine At.enter rfl ?_
              refine r_iconst 1 rfl ?_
              refine r_goto ?_
              refine At.enter rfl ?_
              refine r_iretz (by decide) ?_
              have zv190 : (1 : Int32).toInt = 1 := rfl
              exact ⟨_, rfl, hI159, hF160, _, rfl, by decide, (Or.inl ⟨by omega, x157.toInt, by omega, by omega, (by show 24 ≤ (eA g0 240 x157.toInt).toInt ∧ (eA g0 240 x157.toInt).toInt ≤ 26; rw [hv175]; omega), q167⟩)⟩
      · have c183_ : v176.toInt ≤ 23 := en_j_gt_f c183
        refine At.enter rfl ?_
        refine r_iconst 1 rfl ?_
        refine r_goto ?_
        refine At.enter rfl ?_
        refine q_iretz (by decide) ?_
        refine At.enter rfl ?_
        refine r_iff 30 rfl (by decide) ?_
        refine At.enter rfl ?_
        refine q_iinc e165 (x157.toInt + (-1)) rfl (by omega) (fun v192 hv192 => ?_)
        refine r_goto ?_
        exact ih163 (v192.toInt - (-1)) _ _ ⟨v192, by first | rfl | omega, hI159, hF160, (w_p1 (by decide) (Or.inr rfl) e164), (w_e1 _ _ _), by omega, (fun j h0 h1 => (Decidable.em (j = x157.toInt)).elim (fun e => by rw [e, hv175]; omega) (fun e => q167 j (by omega) h1)), by omega⟩ ⟨by omega, by omega⟩

def F_X11_partAt_231 : List (Nat × Nat) := []
def A_X11_partAt_231 : List Nat := []
theorem mf_X11_isWord_231_231_9 : memF F_X11_isWord_231 231 9 = false := by decide
theorem mf_X11_isWord_231_231_10 : memF F_X11_isWord_231 231 10 = false := by decide
theorem mf_X11_isWord_231_231_11 : memF F_X11_isWord_231 231 11 = false := by decide
set_option maxRecDepth 100000 in
set_option maxHeartbeats 4000000 in
theorem T_X11_partAt_231 (d : Nat) {N : Nat} {g0 : List en_E} (hI0 : HI g0) (h1 : 0 ≤ (gI g0 231 11).toInt) (hK : TKM g0) : Ev (d + 2) 201 [.ref 231] (g0, N) (fun w h' => ∃ g', h' = (g', N) ∧ HI g' ∧ Fr F_X11_partAt_231 A_X11_partAt_231 g0 g' ∧ ∃ r : Int32, w = some (.int r) ∧ ((-1) ≤ r.toInt ∧ r.toInt ≤ 9) ∧ (r.toInt + 1 ≤ 10 * (gI g0 231 11).toInt ∧ PAI (CDM g0) 9 r.toInt)) := by
  have hF0 : Fr F_X11_partAt_231 A_X11_partAt_231 g0 g0 := Fr.rf
  obtain ⟨v1, hv1⟩ : ∃ v, gI g0 231 11 = v := ⟨_, rfl⟩
  have tv1 := congrArg Int32.toInt hv1
  refine Ev.mk rfl rfl ⟨Nat.le_of_ble_eq_true rfl, Or.inr (q_rc hI0.1 kx_231 rfl)⟩ ?_
  show At _ none _ _ (0, [(0, .ref 231)], [], (_, _)) _
  refine At.enter rfl ?_
  refine r_iconst (-1) rfl ?_
  refine r_istore_n ([(1, .int (-1)), (0, .ref 231)]) rfl ?_
  refine r_iconst 0 rfl ?_
  refine r_istore_n ([(2, .int 0), (1, .int (-1)), (0, .ref 231)]) rfl ?_
  refine Ar.fall 4 rfl ?_
  have z_1044 : ((-1) : Int32).toInt = (-1) := rfl
  have z_1045 : (0 : Int32).toInt = 0 := rfl
  refine w_loopI (fun n_ l_ g_ => ∃ x1028 : Int32, ∃ x1029 : Int32, n_ = 9 - x1029.toInt ∧ HI g_ ∧ Fr F_X11_partAt_231 A_X11_partAt_231 g0 g_ ∧ gI g_ 231 11 = v1 ∧ en_get 0 l_ = some (.ref 231) ∧ en_get 1 l_ = some (.int x1028) ∧ en_get 2 l_ = some (.int x1029) ∧ ((-1) ≤ x1028.toInt ∧ x1028.toInt ≤ 9) ∧ (0 ≤ x1029.toInt ∧ x1029.toInt ≤ 9) ∧ (x1028.toInt + 1 ≤ 10 * (gI g0 231 11).toInt) ∧ (PAI (CDM g0) x1029.toInt x1028.toInt)) ?_ (9 - 0) ⟨(-1), 0, by first | rfl | omega, hI0, hF0, hv1, rfl, rfl, rfl, by decide, by decide, by omega, (PAI.z (by first | rfl | omega) (by first | rfl | omega))⟩
  rintro n1034 l1033 g1030 ⟨x1028, x1029, hm1046, hI1031, hF1032, e1036, e1037, e1038, e1039, r1040, r1041, q1042, q1043⟩ ih1035
  have tv1047 := congrArg Int32.toInt e1036
  refine At.enter rfl ?_
  refine r_iload_n e1039 ?_
  refine r_bipush 9 rfl ?_
  refine r_ics 10 rfl (fun c1048 => ?_) (fun c1048 => ?_)
  · have c1048_ : x1029.toInt ≥ 9 := en_i_ge_t c1048
    refine At.enter rfl ?_
    refine r_iload_n e1038 ?_
    refine r_ireti ?_
    have x1049 := HI.eqI hI1031 (p := 231) (b := 11) (((hF1032.1 231 11 (by decide)).trans hv1))
    exact ⟨_, rfl, hI1031, hF1032, _, rfl, by omega, ⟨by omega, (show PAI (CDM g0) 9 _ from (show x1029.toInt = 9 from by omega) ▸ q1043)⟩⟩
  · have c1048_ : x1029.toInt < 9 := en_i_ge_f c1048
    refine At.enter rfl ?_
    refine r_aload_n e1037 ?_
    refine r_aload_n e1037 ?_
    refine q_getR (Sh.ref hI1031.1 kx_231 rfl) ?_
    refine r_iload_n e1039 ?_
    refine q_laldE (Sh.lar hI1031.1 ka_242) (x1029.toInt) rfl (by omega) (fun v1051 hv1051 => ?_)
    have wwv1051 := WDV.a hI1031 hv1051 (by omega)
    have x1052 := HI.eqI hI1031 (p := 231) (b := 11) (((hF1032.1 231 11 (by decide)).trans hv1))
    refine r_callV 20 rfl [.ref 231, .long v1051] [] (Nat.le_of_ble_eq_true rfl) rfl (T_X11_isWord_231 _ hI1031 v1051 (by omega)) ?_
    rintro _ _ ⟨g1053, rfl, hI1054, hF1055, v1056, rfl, hr1057⟩
    refine At.sti ?_
    have hF1058 := Fr.tr hF1032 hF1055 rfl rfl
    obtain ⟨v1059, hv1059⟩ : ∃ v, gI g0 231 9 = v := ⟨_, rfl⟩
    have rv1059 := RgF.at hI0.2.1 (p := 231) (b := 9) rfl
    rw [hv1059] at rv1059
    dsimp only at rv1059
    have tv1059 := congrArg Int32.toInt hv1059
    have x1060 := HI.eqI hI1031 (p := 231) (b := 9) (((hF1032.1 231 9 (by decide)).trans hv1059))
    obtain ⟨v1061, hv1061⟩ : ∃ v, gI g0 231 10 = v := ⟨_, rfl⟩
    have rv1061 := RgF.at hI0.2.1 (p := 231) (b := 10) rfl
    rw [hv1061] at rv1061
    dsimp only at rv1061
    have tv1061 := congrArg Int32.toInt hv1061
    have x1062 := HI.eqI hI1031 (p := 231) (b := 10) (((hF1032.1 231 10 (by decide)).trans hv1061))
    have x1064 := HI.eqI hI1054 (p := 231) (b := 9) ((((hF1055.1 231 9 mf_X11_isWord_231_231_9).trans (hF1032.1 231 9 (by decide))).trans hv1059))
    have x1065 := HI.eqI hI1054 (p := 231) (b := 10) ((((hF1055.1 231 10 mf_X11_isWord_231_231_10).trans (hF1032.1 231 10 (by decide))).trans hv1061))
    have x1066 := HI.eqI hI1054 (p := 231) (b := 11) ((((hF1055.1 231 11 mf_X11_isWord_231_231_11).trans (hF1032.1 231 11 (by decide))).trans hv1))
    obtain ⟨c1070, c1067, isw1068, ib1069⟩ := hr1057
    have hb1071 : BL (CDM g0 = 40 + x1029.toInt) v1056.toInt := by have z := ISM.word (c := 40 + x1029.toInt) ib1069 (TKM.c hK ((hF1032.2.1 236 (by decide))) ((hF1032.1 231 8 (by decide))) ((hF1032.1 231 9 (by decide))) ((hF1032.1 231 10 (by decide))) ((hF1032.1 231 11 (by decide))) ((hF1032.2.2 231 12 (by decide)))) (isWC_d (by omega)) wwv1051.1.symm wwv1051.2; rw [CDM.c ((hF1032.2.1 236 (by decide))) ((hF1032.1 231 9 (by decide))) ((hF1032.1 231 10 (by decide))) ((hF1032.1 231 11 (by decide)))] at z; exact z
    refine At.enter rfl ?_
    refine r_ifs 23 rfl (fun c1072 => ?_) (fun c1072 => ?_)
    · have c1072_ : v1056.toInt = 0 := en_k_eq_t c1072
      have i1073 := BL.no hb1071 (by omega)
      refine At.enter rfl ?_
      refine r_iload_n e1038 ?_
      refine Ar.fall 30 rfl ?_
      refine At.enter rfl ?_
      refine r_istore_n _ rfl ?_
      refine q_iinc (w_p1 (by decide) (Or.inr rfl) e1039) (x1029.toInt + 1) rfl (by omega) (fun v1074 hv1074 => ?_)
      refine r_goto ?_
      exact ih1035 (9 - v1074.toInt) _ _ ⟨x1028, v1074, by first | rfl | omega, hI1054, hF1058, (((hF1055.1 231 11 mf_X11_isWord_231_231_11).trans (hF1032.1 231 11 (by decide))).trans hv1), (w_p1 (by decide) (Or.inr rfl) (w_p1 (by decide) (Or.inr rfl) e1037)), (w_p1 (by decide) (Or.inr rfl) (w_e1 _ _ _)), (w_e1 _ _ _), by omega, by omega, by omega, (PAI.st q1043 (show v1074.toInt = x1029.toInt + 1 from by omega) (by omega) hb1071 rfl (by omega))⟩ ⟨by omega, by omega⟩
    · have c1072_ : v1056.toInt ≠ 0 := en_k_eq_f c1072
      have i1075 := BL.yes hb1071 (by omega)
      refine At.enter rfl ?_
      refine r_iload_n e1039 ?_
      refine r_iconst 1 rfl ?_
      refine q_iadd (x1029.toInt + 1) rfl (by omega) (fun v1076 hv1076 => ?_)
      refine r_goto ?_
      refine At.enter rfl ?_
      refine r_istore_n _ rfl ?_
      refine q_iinc (w_p1 (by decide) (Or.inr rfl) e1039) (x1029.toInt + 1) rfl (by omega) (fun v1077 hv1077 => ?_)
      refine r_goto ?_
      exact ih1035 (9 - v1077.toInt) _ _ ⟨v1076, v1077, by first | rfl | omega, hI1054, hF1058, (((hF1055.1 231 11 mf_X11_isWord_231_231_11).trans (hF1032.1 231 11 (by decide))).trans hv1), (w_p1 (by decide) (Or.inr rfl) (w_p1 (by decide) (Or.inr rfl) e1037)), (w_p1 (by decide) (Or.inr rfl) (w_e1 _ _ _)), (w_e1 _ _ _), by omega, by omega, by omega, (PAI.st q1043 (show v1077.toInt = x1029.toInt + 1 from by omega) (by omega) hb1071 rfl (by omega))⟩ ⟨by omega, by omega⟩
