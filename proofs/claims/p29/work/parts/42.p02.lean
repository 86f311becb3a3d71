def F_X11_emit_231 : List (Nat × Nat) := [(231, 17)]
def A_X11_emit_231 : List Nat := [238, 239]
set_option maxRecDepth 100000 in
set_option maxHeartbeats 4000000 in
theorem T_X11_emit_231 (d : Nat) {N : Nat} {g0 : List en_E} (hI0 : HI g0) (a1 : Int32) (a2 : Int32) (h1 : (gI g0 231 17).toInt ≤ 399) : Ev (d + 1) 195 [.ref 231, .int a1, .int a2] (g0, N) (fun w h' => ∃ g', h' = (g', N) ∧ HI g' ∧ Fr F_X11_emit_231 A_X11_emit_231 g0 g' ∧ w = none ∧ (EMIT g0 g' a1.toInt ∧ EMG g0 g' a1.toInt a2.toInt)) := by
  have hF0 : Fr F_X11_emit_231 A_X11_emit_231 g0 g0 := Fr.rf
  obtain ⟨v1, hv1⟩ : ∃ v, gI g0 231 17 = v := ⟨_, rfl⟩
  have rv1 := RgF.at hI0.2.1 (p := 231) (b := 17) rfl
  rw [hv1] at rv1
  dsimp only at rv1
  have tv1 := congrArg Int32.toInt hv1
  refine Ev.mk rfl rfl ⟨Nat.le_of_ble_eq_true rfl, Or.inr (q_rc hI0.1 kx_231 rfl)⟩ ?_
  show At _ none _ _ (0, [(0, .ref 231), (1, .int a1), (2, .int a2)], [], (_, _)) _
  refine At.enter rfl ?_
  refine r_aload_n rfl ?_
  refine q_getR (Sh.ref hI0.1 kx_231 rfl) ?_
  refine r_aload_n rfl ?_
  refine q_getI (Sh.int hI0.1 kx_231 rfl) v1 hv1 ?_
  refine r_iload_n rfl ?_
  refine q_iast (Sh.arr hI0.1 ka_238) (v1.toInt) rfl (by omega) ?_
  have hI16 := HI.wA0 hI0 ka_238 (p := 238) rfl rfl (v1.toInt) (a1)
  have hF17 := Fr.wA (p := 238) (j := v1.toInt) (v := a1) hF0 rfl
  refine r_aload_n rfl ?_
  refine q_getR (Sh.ref hI16.1 kx_231 rfl) ?_
  refine r_aload_n rfl ?_
  refine q_getI (Sh.int hI16.1 kx_231 rfl) v1 ((gI_sW).trans hv1) ?_
  refine r_iload_n rfl ?_
  refine q_iast (Sh.arr hI16.1 ka_239) (v1.toInt) rfl (by omega) ?_
  have hI18 := HI.wA0 hI16 ka_239 (p := 239) rfl rfl (v1.toInt) (a2)
  have hF19 := Fr.wA (p := 239) (j := v1.toInt) (v := a2) hF17 rfl
  refine r_aload_n rfl ?_
  refine r_dup rfl ?_
  refine q_getI (Sh.int hI18.1 kx_231 rfl) v1 (((gI_sW).trans (gI_sW)).trans hv1) ?_
  refine r_iconst 1 rfl ?_
  refine q_iadd (v1.toInt + 1) rfl (by omega) (fun v20 hv20 => ?_)
  refine q_putI (Sh.int hI18.1 kx_231 rfl) rfl ?_
  have hI21 := HI.wI1 hI18 kx_231 rfl (p := 231) (b := 17) (v := v20) rfl (by dsimp only; omega)
  have hF22 := Fr.wI (p := 231) (b := 17) (v := v20) hF19 rfl
  refine r_vret ?_
  have x23 := HI.eqI hI21 (p := 231) (b := 17) ((gI_sI_eq hI18.1 kx_231 rfl _))
  have x24 := HI.eqI hI0 (p := 231) (b := 17) (hv1)
  exact ⟨_, rfl, hI21, hF22, rfl, ⟨⟨by show (gI _ 231 17).toInt = (gI _ 231 17).toInt + 1; omega, (fun i i0 hne => by have hne : i ≠ (gI g0 231 17).toInt := hne; exact ((eA_c gA_sI).trans ((eA_c (gA_sA_ne (by decide))).trans (eA_sA_ne (i := i) hI0.1 ka_238 (by omega) (by omega) (by omega))))), (fun i i0 hne => by have hne : i ≠ (gI g0 231 17).toInt := hne; exact ((eA_c gA_sI).trans ((eA_sA_ne (i := i) hI16.1 ka_239 (by omega) (by omega) (by omega)).trans (eA_c (gA_sA_ne (by decide)))))), (by show (eA _ 238 (gI g0 231 17).toInt).toInt = _; rw [hv1]; exact congrArg Int32.toInt (((eA_c gA_sI).trans ((eA_c (gA_sA_ne (by decide))).trans (eA_sA_eq hI0.1 ka_238 (by first | rfl | omega) (by first | decide | omega) (by first | decide | omega))))))⟩, EMG_mk ⟨by show (gI _ 231 17).toInt = (gI _ 231 17).toInt + 1; omega, (fun i i0 hne => by have hne : i ≠ (gI g0 231 17).toInt := hne; exact ((eA_c gA_sI).trans ((eA_c (gA_sA_ne (by decide))).trans (eA_sA_ne (i := i) hI0.1 ka_238 (by omega) (by omega) (by omega))))), (fun i i0 hne => by have hne : i ≠ (gI g0 231 17).toInt := hne; exact ((eA_c gA_sI).trans ((eA_sA_ne (i := i) hI16.1 ka_239 (by omega) (by omega) (by omega)).trans (eA_c (gA_sA_ne (by decide)))))), (by show (eA _ 238 (gI g0 231 17).toInt).toInt = _; rw [hv1]; exact congrArg Int32.toInt (((eA_c gA_sI).trans ((eA_c (gA_sA_ne (by decide))).trans (eA_sA_eq hI0.1 ka_238 (by first | rfl | omega) (by first | decide | omega) (by first | decide | omega))))))⟩ (by show (eA _ 239 (gI g0 231 17).toInt).toInt = _; rw [hv1]; exact congrArg Int32.toInt (((eA_c gA_sI).trans (eA_sA_eq hI16.1 ka_239 (by first | rfl | omega) (by first | decide | omega) (by first | decide | omega))))) (by show 0 ≤ (gI g0 231 17).toInt; omega)⟩⟩

def F_X11_push_231 : List (Nat × Nat) := [(231, 23)]
def A_X11_push_231 : List Nat := [240, 241]
set_option maxRecDepth 100000 in
set_option maxHeartbeats 4000000 in
theorem T_X11_push_231 (d : Nat) {N : Nat} {g0 : List en_E} (hI0 : HI g0) (a1 : Int32) (h_a1 : 0 ≤ a1.toInt ∧ a1.toInt ≤ 31) (a2 : Int32) (h_a2 : 0 ≤ a2.toInt ∧ a2.toInt ≤ 399) (h1 : (gI g0 231 23).toInt ≤ 399) : Ev (d + 1) 196 [.ref 231, .int a1, .int a2] (g0, N) (fun w h' => ∃ g', h' = (g', N) ∧ HI g' ∧ Fr F_X11_push_231 A_X11_push_231 g0 g' ∧ w = none ∧ PUSH g0 g' a1.toInt a2.toInt) := by
  have hF0 : Fr F_X11_push_231 A_X11_push_231 g0 g0 := Fr.rf
  obtain ⟨v1, hv1⟩ : ∃ v, gI g0 231 23 = v := ⟨_, rfl⟩
  have rv1 := RgF.at hI0.2.1 (p := 231) (b := 23) rfl
  rw [hv1] at rv1
  dsimp only at rv1
  have tv1 := congrArg Int32.toInt hv1
  refine Ev.mk rfl rfl ⟨Nat.le_of_ble_eq_true rfl, Or.inr (q_rc hI0.1 kx_231 rfl)⟩ ?_
  show At _ none _ _ (0, [(0, .ref 231), (1, .int a1), (2, .int a2)], [], (_, _)) _
  refine At.enter rfl ?_
  refine r_aload_n rfl ?_
  refine q_getR (Sh.ref hI0.1 kx_231 rfl) ?_
  refine r_aload_n rfl ?_
  refine q_getI (Sh.int hI0.1 kx_231 rfl) v1 hv1 ?_
  refine r_iload_n rfl ?_
  refine q_iast (Sh.arr hI0.1 ka_240) (v1.toInt) rfl (by omega) ?_
  have hI16 := HI.wA1 hI0 ka_240 (p := 240) rfl rfl (v1.toInt) (v := a1) (by dsimp only; omega)
  have hF17 := Fr.wA (p := 240) (j := v1.toInt) (v := a1) hF0 rfl
  refine r_aload_n rfl ?_
  refine q_getR (Sh.ref hI16.1 kx_231 rfl) ?_
  refine r_aload_n rfl ?_
  refine q_getI (Sh.int hI16.1 kx_231 rfl) v1 ((gI_sW).trans hv1) ?_
  refine r_iload_n rfl ?_
  refine q_iast (Sh.arr hI16.1 ka_241) (v1.toInt) rfl (by omega) ?_
  have hI18 := HI.wA1 hI16 ka_241 (p := 241) rfl rfl (v1.toInt) (v := a2) (by dsimp only; omega)
  have hF19 := Fr.wA (p := 241) (j := v1.toInt) (v := a2) hF17 rfl
  refine r_aload_n rfl ?_
  refine r_dup rfl ?_
  refine q_getI (Sh.int hI18.1 kx_231 rfl) v1 (((gI_sW).trans (gI_sW)).trans hv1) ?_
  refine r_iconst 1 rfl ?_
  refine q_iadd (v1.toInt + 1) rfl (by omega) (fun v20 hv20 => ?_)
  refine q_putI (Sh.int hI18.1 kx_231 rfl) rfl ?_
  have hI21 := HI.wI1 hI18 kx_231 rfl (p := 231) (b := 23) (v := v20) rfl (by dsimp only; omega)
  have hF22 := Fr.wI (p := 231) (b := 23) (v := v20) hF19 rfl
  refine r_vret ?_
  have x23 := HI.eqI hI21 (p := 231) (b := 23) ((gI_sI_eq hI18.1 kx_231 rfl _))
  have x24 := HI.eqI hI0 (p := 231) (b := 23) (hv1)
  exact ⟨_, rfl, hI21, hF22, rfl, ⟨by show (gI _ 231 23).toInt = (gI _ 231 23).toInt + 1; omega, (fun i i0 hne => by have hne : i ≠ (gI g0 231 23).toInt := hne; exact ((eA_c gA_sI).trans ((eA_c (gA_sA_ne (by decide))).trans (eA_sA_ne (i := i) hI0.1 ka_240 (by omega) (by omega) (by omega))))), (fun i i0 hne => by have hne : i ≠ (gI g0 231 23).toInt := hne; exact ((eA_c gA_sI).trans ((eA_sA_ne (i := i) hI16.1 ka_241 (by omega) (by omega) (by omega)).trans (eA_c (gA_sA_ne (by decide)))))), (by show (eA _ 240 (gI g0 231 23).toInt).toInt = _; rw [hv1]; exact congrArg Int32.toInt (((eA_c gA_sI).trans ((eA_c (gA_sA_ne (by decide))).trans (eA_sA_eq hI0.1 ka_240 (by first | rfl | omega) (by first | decide | omega) (by first | decide | omega)))))), (by show (eA _ 241 (gI g0 231 23).toInt).toInt = _; rw [hv1]; exact congrArg Int32.toInt (((eA_c gA_sI).trans (eA_sA_eq hI16.1 ka_241 (by first | rfl | omega) (by first | decide | omega) (by first | decide | omega)))))⟩⟩

def F_X11_settle_231 : List (Nat × Nat) := [(231, 17), (231, 23)]
def A_X11_settle_231 : List Nat := [238, 239]
theorem mf_X11_emit_231_231_23 : memF F_X11_emit_231 231 23 = false := by decide
theorem ma_X11_emit_231_240 : memA A_X11_emit_231 240 = false := by decide
theorem ma_X11_emit_231_241 : memA A_X11_emit_231 241 = false := by decide
set_option maxRecDepth 100000 in
set_option maxHeartbeats 4000000 in
theorem T_X11_settle_231 (d : Nat) {N : Nat} {g0 : List en_E} (hI0 : HI g0) (a1 : Int32) (h_a1 : 1 ≤ a1.toInt ∧ a1.toInt ≤ 6) (h1 : (gI g0 231 17).toInt + (gI g0 231 23).toInt ≤ 400) : Ev (d + 2) 198 [.ref 231, .int a1] (g0, N) (fun w h' => ∃ g', h' = (g', N) ∧ HI g' ∧ Fr F_X11_settle_231 A_X11_settle_231 g0 g' ∧ w = none ∧ (SETP g0 g' a1.toInt ∧ SETQ g0 g' a1.toInt ∧ SETG g0 g' a1.toInt)) := by
  have hF0 : Fr F_X11_settle_231 A_X11_settle_231 g0 g0 := Fr.rf
  obtain ⟨v1, hv1⟩ : ∃ v, gI g0 231 17 = v := ⟨_, rfl⟩
  have rv1 := RgF.at hI0.2.1 (p := 231) (b := 17) rfl
  rw [hv1] at rv1
  dsimp only at rv1
  have tv1 := congrArg Int32.toInt hv1
  obtain ⟨v2, hv2⟩ : ∃ v, gI g0 231 23 = v := ⟨_, rfl⟩
  have rv2 := RgF.at hI0.2.1 (p := 231) (b := 23) rfl
  rw [hv2] at rv2
  dsimp only at rv2
  have tv2 := congrArg Int32.toInt hv2
  refine Ev.mk rfl rfl ⟨Nat.le_of_ble_eq_true rfl, Or.inr (q_rc hI0.1 kx_231 rfl)⟩ ?_
  show At _ none _ _ (0, [(0, .ref 231), (1, .int a1)], [], (_, _)) _
  refine w_loopI (fun n_ l_ g_ => ∃ x923 : Int32, ∃ x924 : Int32, n_ = x924.toInt ∧ HI g_ ∧ Fr F_X11_settle_231 A_X11_settle_231 g0 g_ ∧ gI g_ 231 17 = x923 ∧ gI g_ 231 23 = x924 ∧ en_get 0 l_ = some (.ref 231) ∧ en_get 1 l_ = some (.int a1) ∧ (0 ≤ x923.toInt ∧ x923.toInt ≤ 400) ∧ (0 ≤ x924.toInt ∧ x924.toInt ≤ 400) ∧ (x923.toInt + x924.toInt ≤ (gI g0 231 17).toInt + (gI g0 231 23).toInt) ∧ (∀ (b : Int) (o0 a0 : Int → Int), PG g0 b 1 o0 a0 → PG g_ b 1 o0 a0) ∧ (∀ j : Int, x924.toInt ≤ j → j < (gI g0 231 23).toInt → (eA g0 240 j).toInt < 30) ∧ (x924.toInt ≤ (gI g0 231 23).toInt) ∧ (∀ j : Int, x924.toInt ≤ j → j < (gI g0 231 23).toInt → 5 ≤ a1.toInt → (eA g0 240 j).toInt ≤ 23) ∧ (SEG g0 g_ a1.toInt)) ?_ (v2.toInt) ⟨v1, v2, by first | rfl | omega, hI0, hF0, hv1, hv2, rfl, rfl, by omega, by omega, by omega, (fun _ _ _ h => h), (fun j h0 h1 => absurd h1 (by omega)), by omega, (fun j h0 h1 ha => absurd h1 (by omega)), SEG_rf⟩
  rintro n929 l928 g925 ⟨x923, x924, hm943, hI926, hF927, e931, e932, e933, e934, r935, r936, q937, q938, q939, q940, q941, q942⟩ ih930
  have tv944 := congrArg Int32.toInt e931
  have tv945 := congrArg Int32.toInt e932
  refine At.enter rfl ?_
  refine r_aload_n e933 ?_
  refine q_getI (Sh.int hI926.1 kx_231 rfl) x924 e932 ?_
  refine r_ifs 7 rfl (fun c946 => ?_) (fun c946 => ?_)
  · have c946_ : x924.toInt ≤ 0 := en_k_le_t c946
    refine At.enter rfl ?_
    refine r_vret ?_
    have x947 := HI.eqI hI926 (p := 231) (b := 17) (e931)
    have x948 := HI.eqI hI926 (p := 231) (b := 23) (e932)
    exact ⟨_, rfl, hI926, hF927, rfl, ⟨⟨by show (gI _ 231 23).toInt ≤ (gI _ 231 23).toInt; omega, by show (gI _ 231 17).toInt + (gI _ 231 23).toInt ≤ (gI _ 231 17).toInt + (gI _ 231 23).toInt; omega, q938, (fun j h0 h1 => q939 j (by have h0 : (gI g925 231 23).toInt ≤ j := h0; omega) h1), hF927.2.1 240 (by decide), (Or.inl (by show (gI g925 231 23).toInt = 0; omega))⟩, SETQ.mk (by show 0 ≤ (gI _ 231 23).toInt; omega) (by show (gI _ 231 23).toInt ≤ (gI _ 231 23).toInt; omega) (hF927.2.1 240 (by decide)) (fun j h0 h1 => q939 j (by have h0 : (gI g925 231 23).toInt ≤ j := h0; omega) h1) (fun j h0 h1 ha => q941 j (by have h0 : (gI g925 231 23).toInt ≤ j := h0; omega) h1 ha), ⟨q942, (fun hz => False.elim (by have hz2 : 0 < (gI g925 231 23).toInt := hz; omega))⟩⟩⟩
  · have c946_ : x924.toInt > 0 := en_k_le_f c946
    refine At.enter rfl ?_
    refine r_aload_n e933 ?_
    refine q_getR (Sh.ref hI926.1 kx_231 rfl) ?_
    refine r_aload_n e933 ?_
    refine q_getI (Sh.int hI926.1 kx_231 rfl) x924 e932 ?_
    refine r_iconst 1 rfl ?_
    refine q_isub (x924.toInt - 1) rfl (by omega) (fun v949 hv949 => ?_)
    obtain ⟨v950, hv950⟩ : ∃ v, eA g0 240 (x924.toInt + (-1)) = v := ⟨_, rfl⟩
    have rv950 := RgA.at hI0.2.2.1 (Sh.arr hI0.1 ka_240).2 (p := 240) rfl (j := (x924.toInt + (-1))) (by omega)
    rw [hv950] at rv950
    dsimp only at rv950
    refine q_iald (Sh.arr hI926.1 ka_240) (x924.toInt + (-1)) (by omega) (by omega) v950 ((eA_c (hF927.2.1 240 (by decide))).trans hv950) ?_
    refine q_inlS 21 rfl [.int v950] [] (Nat.le_of_ble_eq_true rfl) rfl ?_
    refine Ev.mk rfl rfl ⟨Nat.le_of_ble_eq_true rfl, Or.inl rfl⟩ ?_
    show At _ none _ _ (0, [(0, .int v950)], [], (_, _)) _
    refine At.enter rfl ?_
    refine r_iload_n rfl ?_
    refine r_bipush 30 rfl ?_
    refine r_ics 6 rfl (fun c951 => ?_) (fun c951 => ?_)
    · have c951_ : v950.toInt < 30 := en_i_lt_t c951
      refine At.enter rfl ?_
      refine r_iload_n rfl ?_
      refine r_bipush 29 rfl ?_
      refine r_ics 16 rfl (fun c952 => ?_) (fun c952 => ?_)
      · have c952_ : v950.toInt ≠ 29 := en_i_ne_t c952
        refine At.enter rfl ?_
        refine r_iload_n rfl ?_
        refine r_bipush 28 rfl ?_
        refine r_ics 26 rfl (fun c953 => ?_) (fun c953 => ?_)
        · have c953_ : v950.toInt ≠ 28 := en_i_ne_t c953
          refine At.enter rfl ?_
          refine r_iload_n rfl ?_
          refine r_bipush 27 rfl ?_
          refine r_ics 36 rfl (fun c954 => ?_) (fun c954 => ?_)
          · have c954_ : v950.toInt ≠ 27 := en_i_ne_t c954
            refine At.enter rfl ?_
            refine r_iload_n rfl ?_
            refine r_bipush 24 rfl ?_
            refine r_ics 46 rfl (fun c955 => ?_) (fun c955 => ?_)
            · have c955_ : v950.toInt < 24 := en_i_lt_t c955
              refine At.enter rfl ?_
              refine r_iload_n rfl ?_
              refine r_bipush 22 rfl ?_
              refine r_ics 56 rfl (fun c956 => ?_) (fun c956 => ?_)
              · have c956_ : v950.toInt < 22 := en_i_lt_t c956
                refine At.enter rfl ?_
                refine r_iconst 5 rfl ?_
                refine Ar.fall 62 rfl ?_
                refine At.enter rfl ?_
                refine q_ireti ?_
                refine At.enter rfl ?_
                refine r_iload_n e934 ?_
                refine r_ics 25 rfl (fun c957 => ?_) (fun c957 => ?_)
                · have c957_ : 5 < a1.toInt := en_i_lt_t c957
                  refine At.enter rfl ?_
                  refine r_vret ?_
                  have x958 := HI.eqI hI926 (p := 231) (b := 17) (e931)
                  have x959 := HI.eqI hI926 (p := 231) (b := 23) (e932)
                  exact ⟨_, rfl, hI926, hF927, rfl, ⟨⟨by show (gI _ 231 23).toInt ≤ (gI _ 231 23).toInt; omega, by show (gI _ 231 17).toInt + (gI _ 231 23).toInt ≤ (gI _ 231 17).toInt + (gI _ 231 23).toInt; omega, q938, (fun j h0 h1 => q939 j (by have h0 : (gI g925 231 23).toInt ≤ j := h0; omega) h1), hF927.2.1 240 (by decide), (by show (gI g925 231 23).toInt = 0 ∨ ((a1.toInt = 1 → 30 ≤ (eA g0 240 ((gI g925 231 23).toInt - 1)).toInt) ∧ (a1.toInt = 5 → 24 ≤ (eA g0 240 ((gI g925 231 23).toInt - 1)).toInt)); rw [show (gI g925 231 23).toInt - 1 = (x924.toInt + (-1)) by omega, hv950]; omega)⟩, SETQ.mk (by show 0 ≤ (gI _ 231 23).toInt; omega) (by show (gI _ 231 23).toInt ≤ (gI _ 231 23).toInt; omega) (hF927.2.1 240 (by decide)) (fun j h0 h1 => q939 j (by have h0 : (gI g925 231 23).toInt ≤ j := h0; omega) h1) (fun j h0 h1 ha => q941 j (by have h0 : (gI g925 231 23).toInt ≤ j := h0; omega) h1 ha), ⟨q942, (fun hz => by have bb := bdn_rg v950.toInt; rw [show pP g925 (pI g925 23 - 1) = v950.toInt from by show (eA g925 240 ((gI g925 231 23).toInt - 1)).toInt = _; rw [show (gI g925 231 23).toInt - 1 = (x924.toInt + (-1)) by omega, eA_c (j := (x924.toInt + (-1))) (hF927.2.1 240 (by decide)), hv950]]; omega)⟩⟩⟩
                · have c957_ : 5 ≥ a1.toInt := en_i_lt_f c957
                  refine At.enter rfl ?_
                  refine r_aload_n e933 ?_
                  refine r_dup rfl ?_
                  refine q_getI (Sh.int hI926.1 kx_231 rfl) x924 e932 ?_
                  refine r_iconst 1 rfl ?_
                  refine q_isub (x924.toInt - 1) rfl (by omega) (fun v960 hv960 => ?_)
                  refine q_putI (Sh.int hI926.1 kx_231 rfl) rfl ?_
                  have hI961 := HI.wI1 hI926 kx_231 rfl (p := 231) (b := 23) (v := v960) rfl (by dsimp only; omega)
                  have hF962 := Fr.wI (p := 231) (b := 23) (v := v960) hF927 rfl
                  refine r_aload_n e933 ?_
                  refine q_getR (Sh.ref hI961.1 kx_231 rfl) ?_
                  refine r_aload_n e933 ?_
                  refine q_getI (Sh.int hI961.1 kx_231 rfl) v960 (gI_sI_eq hI926.1 kx_231 rfl _) ?_
                  refine q_iald (Sh.arr hI961.1 ka_240) (x924.toInt + (-1)) (by omega) (by omega) v950 ((eA_c ((gA_sI).trans (hF927.2.1 240 (by decide)))).trans hv950) ?_
                  refine r_bipush 28 rfl ?_
                  refine r_ics 49 rfl (fun c963 => ?_) (fun c963 => ?_)
                  · have c963_ : v950.toInt = 28 := en_i_eq_t c963
                    exfalso; omega
                  · have c963_ : v950.toInt ≠ 28 := en_i_eq_f c963
                    refine At.enter rfl ?_
                    refine r_aload_n e933 ?_
                    refine q_getR (Sh.ref hI961.1 kx_231 rfl) ?_
                    refine r_aload_n e933 ?_
                    refine q_getI (Sh.int hI961.1 kx_231 rfl) v960 (gI_sI_eq hI926.1 kx_231 rfl _) ?_
                    refine q_iald (Sh.arr hI961.1 ka_240) (x924.toInt + (-1)) (by omega) (by omega) v950 ((eA_c ((gA_sI).trans (hF927.2.1 240 (by decide)))).trans hv950) ?_
                    refine r_bipush 29 rfl ?_
                    refine r_ics 63 rfl (fun c964 => ?_) (fun c964 => ?_)
                    · have c964_ : v950.toInt ≠ 29 := en_i_ne_t c964
                      refine At.enter rfl ?_
                      refine r_aload_n e933 ?_
                      refine r_aload_n e933 ?_
                      refine q_getR (Sh.ref hI961.1 kx_231 rfl) ?_
                      refine r_aload_n e933 ?_
                      refine q_getI (Sh.int hI961.1 kx_231 rfl) v960 (gI_sI_eq hI926.1 kx_231 rfl _) ?_
                      refine q_iald (Sh.arr hI961.1 ka_240) (x924.toInt + (-1)) (by omega) (by omega) v950 ((eA_c ((gA_sI).trans (hF927.2.1 240 (by decide)))).trans hv950) ?_
                      refine r_iconst 0 rfl ?_
                      have x965 := HI.eqI hI961 (p := 231) (b := 17) (((gI_sI_ne (by decide)).trans e931))
                      have zv966 : (0 : Int32).toInt = 0 := rfl
                      refine r_callV 98 rfl [.ref 231, .int v950, .int 0] [] (Nat.le_of_ble_eq_true rfl) rfl (T_X11_emit_231 _ hI961 v950 0 (by omega)) ?_
                      rintro _ _ ⟨g967, rfl, hI968, hF969, rfl, hr971⟩
                      refine At.stn ?_
                      have hF972 := Fr.tr hF962 hF969 rfl rfl
                      have x975 := HI.eqI hI961 (p := 231) (b := 23) ((gI_sI_eq hI926.1 kx_231 rfl _))
                      obtain ⟨v976, hv976⟩ : ∃ v, gI g967 231 17 = v := ⟨_, rfl⟩
                      have rv976 := RgF.at hI968.2.1 (p := 231) (b := 17) rfl
                      rw [hv976] at rv976
                      dsimp only at rv976
                      have tv976 := congrArg Int32.toInt hv976
                      have y978 : (gI _ 231 17).toInt = (gI _ 231 17).toInt + 1 := hr971.1.1
                      refine At.enter rfl ?_
                      refine r_goto ?_
                      exact ih930 (v960.toInt) _ _ ⟨v976, v960, by first | rfl | omega, hI968, hF972, hv976, ((hF969.1 231 23 mf_X11_emit_231_231_23).trans (gI_sI_eq hI926.1 kx_231 rfl _)), e933, e934, by omega, by omega, by omega, (fun b o0 a0 h => PG.settleO (q938 b o0 a0 h) ((gA_sI)) ((gA_sI)) ((gA_sI)) ((gA_sI)) ((gI_sI_ne (by decide))) (by show (gI _ 231 23).toInt = (gI _ 231 23).toInt - 1; omega) (by show 1 ≤ (gI _ 231 23).toInt; omega) hr971.1 (hF969.2.1 240 ma_X11_emit_231_240) (hF969.2.1 241 ma_X11_emit_231_241) (hF969.1 231 23 mf_X11_emit_231_231_23) (by show (eA g925 240 ((gI g925 231 23).toInt - 1)).toInt = _; rw [show (gI g925 231 23).toInt - 1 = (x924.toInt + (-1)) by omega, eA_c (j := (x924.toInt + (-1))) (hF927.2.1 240 (by decide)), hv950]) (by omega)), (fun j h0 h1 => (Decidable.em (j = x924.toInt - 1)).elim (fun e => by rw [e, show x924.toInt - 1 = (x924.toInt + (-1)) by omega, hv950]; omega) (fun e => q939 j (by omega) h1)), by omega, (fun j h0 h1 ha => (Decidable.em (j = x924.toInt - 1)).elim (fun e => by rw [e, show x924.toInt - 1 = (x924.toInt + (-1)) by omega, hv950]; omega) (fun e => q941 j (by omega) h1 ha)), (SEG_sn q942 (by show 1 ≤ (gI _ 231 23).toInt; omega) (by have bb := bdn_rg v950.toInt; rw [(show pP g925 (pI g925 23 - 1) = v950.toInt from by show (eA g925 240 ((gI g925 231 23).toInt - 1)).toInt = _; rw [show (gI g925 231 23).toInt - 1 = (x924.toInt + (-1)) by omega, eA_c (j := (x924.toInt + (-1))) (hF927.2.1 240 (by decide)), hv950])]; omega) (fun t b K q => CGM_op (((hF969.2.1 240 ma_X11_emit_231_240).trans (gA_sI))) (((hF969.2.1 241 ma_X11_emit_231_241).trans (gA_sI))) (by have jf := HI.eqI hI968 (p := 231) (b := 23) (((hF969.1 231 23 mf_X11_emit_231_231_23).trans (gI_sI_eq hI926.1 kx_231 rfl _))); show (gI _ 231 23).toInt = (gI _ 231 23).toInt - 1; omega) (by show 1 ≤ (gI _ 231 23).toInt; omega) ⟨by rw [(show pP g925 (pI g925 23 - 1) = v950.toInt from by show (eA g925 240 ((gI g925 231 23).toInt - 1)).toInt = _; rw [show (gI g925 231 23).toInt - 1 = (x924.toInt + (-1)) by omega, eA_c (j := (x924.toInt + (-1))) (hF927.2.1 240 (by decide)), hv950])]; omega, by rw [(show pP g925 (pI g925 23 - 1) = v950.toInt from by show (eA g925 240 ((gI g925 231 23).toInt - 1)).toInt = _; rw [show (gI g925 231 23).toInt - 1 = (x924.toInt + (-1)) by omega, eA_c (j := (x924.toInt + (-1))) (hF927.2.1 240 (by decide)), hv950])]; omega⟩ (EMG_e (EMG_fr hr971.2 (SMG_mk ((gA_sI)) ((gA_sI)) ((gI_sI_ne (by decide)))) SMG_rf) (show pP g925 (pI g925 23 - 1) = v950.toInt from by show (eA g925 240 ((gI g925 231 23).toInt - 1)).toInt = _; rw [show (gI g925 231 23).toInt - 1 = (x924.toInt + (-1)) by omega, eA_c (j := (x924.toInt + (-1))) (hF927.2.1 240 (by decide)), hv950]).symm rfl)))⟩ ⟨by omega, by omega⟩
                    · have c964_ : v950.toInt = 29 := en_i_ne_f c964
                      exfalso; omega
              · have c956_ : v950.toInt ≥ 22 := en_i_lt_f c956
                refine At.enter rfl ?_
                refine r_bipush 6 rfl ?_
                refine r_goto ?_
                refine At.enter rfl ?_
                refine q_ireti ?_
                refine At.enter rfl ?_
                refine r_iload_n e934 ?_
                refine r_ics 25 rfl (fun c979 => ?_) (fun c979 => ?_)
                · have c979_ : 6 < a1.toInt := en_i_lt_t c979
                  exfalso; omega
                · have c979_ : 6 ≥ a1.toInt := en_i_lt_f c979
                  refine At.enter rfl ?_
                  refine r_aload_n e933 ?_
                  refine r_dup rfl ?_
                  refine q_getI (Sh.int hI926.1 kx_231 rfl) x924 e932 ?_
                  refine r_iconst 1 rfl ?_
                  refine q_isub (x924.toInt - 1) rfl (by omega) (fun v980 hv980 => ?_)
                  refine q_putI (Sh.int hI926.1 kx_231 rfl) rfl ?_
                  have hI981 := HI.wI1 hI926 kx_231 rfl (p := 231) (b := 23) (v := v980) rfl (by dsimp only; omega)
                  have hF982 := Fr.wI (p := 231) (b := 23) (v := v980) hF927 rfl
                  refine r_aload_n e933 ?_
                  refine q_getR (Sh.ref hI981.1 kx_231 rfl) ?_
                  refine r_aload_n e933 ?_
                  refine q_getI (Sh.int hI981.1 kx_231 rfl) v980 (gI_sI_eq hI926.1 kx_231 rfl _) ?_
                  refine q_iald (Sh.arr hI981.1 ka_240) (x924.toInt + (-1)) (by omega) (by omega) v950 ((eA_c ((gA_sI).trans (hF927.2.1 240 (by decide)))).trans hv950) ?_
                  refine r_bipush 28 rfl ?_
                  refine r_ics 49 rfl (fun c983 => ?_) (fun c983 => ?_)
                  · have c983_ : v950.toInt = 28 := en_i_eq_t c983
                    exfalso; omega
                  · have c983_ : v950.toInt ≠ 28 := en_i_eq_f c983
                    refine At.enter rfl ?_
                    refine r_aload_n e933 ?_
                    refine q_getR (Sh.ref hI981.1 kx_231 rfl) ?_
                    refine r_aload_n e933 ?_
                    refine q_getI (Sh.int hI981.1 kx_231 rfl) v980 (gI_sI_eq hI926.1 kx_231 rfl _) ?_
                    refine q_iald (Sh.arr hI981.1 ka_240) (x924.toInt + (-1)) (by omega) (by omega) v950 ((eA_c ((gA_sI).trans (hF927.2.1 240 (by decide)))).trans hv950) ?_
                    refine r_bipush 29 rfl ?_
                    refine r_ics 63 rfl (fun c984 => ?_) (fun c984 => ?_)
                    · have c984_ : v950.toInt ≠ 29 := en_i_ne_t c984
                      refine At.enter rfl ?_
                      refine r_aload_n e933 ?_
                      refine r_aload_n e933 ?_
                      refine q_getR (Sh.ref hI981.1 kx_231 rfl) ?_
                      refine r_aload_n e933 ?_
                      refine q_getI (Sh.int hI981.1 kx_231 rfl) v980 (gI_sI_eq hI926.1 kx_231 rfl _) ?_
                      refine q_iald (Sh.arr hI981.1 ka_240) (x924.toInt + (-1)) (by omega) (by omega) v950 ((eA_c ((gA_sI).trans (hF927.2.1 240 (by decide)))).trans hv950) ?_
                      refine r_iconst 0 rfl ?_
                      have x985 := HI.eqI hI981 (p := 231) (b := 17) (((gI_sI_ne (by decide)).trans e931))
                      have zv986 : (0 : Int32).toInt = 0 := rfl
                      refine r_callV 98 rfl [.ref 231, .int v950, .int 0] [] (Nat.le_of_ble_eq_true rfl) rfl (T_X11_emit_231 _ hI981 v950 0 (by omega)) ?_
                      rintro _ _ ⟨g987, rfl, hI988, hF989, rfl, hr991⟩
                      refine At.stn ?_
                      have hF992 := Fr.tr hF982 hF989 rfl rfl
                      have x995 := HI.eqI hI981 (p := 231) (b := 23) ((gI_sI_eq hI926.1 kx_231 rfl _))
                      obtain ⟨v996, hv996⟩ : ∃ v, gI g987 231 17 = v := ⟨_, rfl⟩
                      have rv996 := RgF.at hI988.2.1 (p := 231) (b := 17) rfl
                      rw [hv996] at rv996
                      dsimp only at rv996
                      have tv996 := congrArg Int32.toInt hv996
                      have y998 : (gI _ 231 17).toInt = (gI _ 231 17).toInt + 1 := hr991.1.1
                      refine At.enter rfl ?_
                      refine r_goto ?_
                      exact ih930 (v980.toInt) _ _ ⟨v996, v980, by first | rfl | omega, hI988, hF992, hv996, ((hF989.1 231 23 mf_X11_emit_231_231_23).trans (gI_sI_eq hI926.1 kx_231 rfl _)), e933, e934, by omega, by omega, by omega, (fun b o0 a0 h => PG.settleO (q938 b o0 a0 h) ((gA_sI)) ((gA_sI)) ((gA_sI)) ((gA_sI)) ((gI_sI_ne (by decide))) (by show (gI _ 231 23).toInt = (gI _ 231 23).toInt - 1; omega) (by show 1 ≤ (gI _ 231 23).toInt; omega) hr991.1 (hF989.2.1 240 ma_X11_emit_231_240) (hF989.2.1 241 ma_X11_emit_231_241) (hF989.1 231 23 mf_X11_emit_231_231_23) (by show (eA g925 240 ((gI g925 231 23).toInt - 1)).toInt = _; rw [show (gI g925 231 23).toInt - 1 = (x924.toInt + (-1)) by omega, eA_c (j := (x924.toInt + (-1))) (hF927.2.1 240 (by decide)), hv950]) (by omega)), (fun j h0 h1 => (Decidable.em (j = x924.toInt - 1)).elim (fun e => by rw [e, show x924.toInt - 1 = (x924.toInt + (-1)) by omega, hv950]; omega) (fun e => q939 j (by omega) h1)), by omega, (fun j h0 h1 ha => (Decidable.em (j = x924.toInt - 1)).elim (fun e => by rw [e, show x924.toInt - 1 = (x924.toInt + (-1)) by omega, hv950]; omega) (fun e => q941 j (by omega) h1 ha)), (SEG_sn q942 (by show 1 ≤ (gI _ 231 23).toInt; omega) (by have bb := bdn_rg v950.toInt; rw [(show pP g925 (pI g925 23 - 1) = v950.toInt from by show (eA g925 240 ((gI g925 231 23).toInt - 1)).toInt = _; rw [show (gI g925 231 23).toInt - 1 = (x924.toInt + (-1)) by omega, eA_c (j := (x924.toInt + (-1))) (hF927.2.1 240 (by decide)), hv950])]; omega) (fun t b K q => CGM_op (((hF989.2.1 240 ma_X11_emit_231_240).trans (gA_sI))) (((hF989.2.1 241 ma_X11_emit_231_241).trans (gA_sI))) (by have jf := HI.eqI hI988 (p := 231) (b := 23) (((hF989.1 231 23 mf_X11_emit_231_231_23).trans (gI_sI_eq hI926.1 kx_231 rfl _))); show (gI _ 231 23).toInt = (gI _ 231 23).toInt - 1; omega) (by show 1 ≤ (gI _ 231 23).toInt; omega) ⟨by rw [(show pP g925 (pI g925 23 - 1) = v950.toInt from by show (eA g925 240 ((gI g925 231 23).toInt - 1)).toInt = _; rw [show (gI g925 231 23).toInt - 1 = (x924.toInt + (-1)) by omega, eA_c (j := (x924.toInt + (-1))) (hF927.2.1 240 (by decide)), hv950])]; omega, by rw [(show pP g925 (pI g925 23 - 1) = v950.toInt from by show (eA g925 240 ((gI g925 231 23).toInt - 1)).toInt = _; rw [show (gI g925 231 23).toInt - 1 = (x924.toInt + (-1)) by omega, eA_c (j := (x924.toInt + (-1))) (hF927.2.1 240 (by decide)), hv950])]; omega⟩ (EMG_e (EMG_fr hr991.2 (SMG_mk ((gA_sI)) ((gA_sI)) ((gI_sI_ne (by decide)))) SMG_rf) (show pP g925 (pI g925 23 - 1) = v950.toInt from by show (eA g925 240 ((gI g925 231 23).toInt - 1)).toInt = _; rw [show (gI g925 231 23).toInt - 1 = (x924.toInt + (-1)) by omega, eA_c (j := (x924.toInt + (-1))) (hF927.2.1 240 (by decide)), hv950]).symm rfl)))⟩ ⟨by omega, by omega⟩
                    · have c984_ : v950.toInt = 29 := en_i_ne_f c984
                      exfalso; omega
            · have c955_ : v950.toInt ≥ 24 := en_i_lt_f c955
              refine At.enter rfl ?_
              refine r_iconst 4 rfl ?_
              refine r_goto ?_
              refine At.enter rfl ?_
              refine q_ireti ?_
              refine At.enter rfl ?_
              refine r_iload_n e934 ?_
              refine r_ics 25 rfl (fun c999 => ?_) (fun c999 => ?_)
              · have c999_ : 4 < a1.toInt := en_i_lt_t c999
                refine At.enter rfl ?_
                refine r_vret ?_
                have x1000 := HI.eqI hI926 (p := 231) (b := 17) (e931)
                have x1001 := HI.eqI hI926 (p := 231) (b := 23) (e932)
                exact ⟨_, rfl, hI926, hF927, rfl, ⟨⟨by show (gI _ 231 23).toInt ≤ (gI _ 231 23).toInt; omega, by show (gI _ 231 17).toInt + (gI _ 231 23).toInt ≤ (gI _ 231 17).toInt + (gI _ 231 23).toInt; omega, q938, (fun j h0 h1 => q939 j (by have h0 : (gI g925 231 23).toInt ≤ j := h0; omega) h1), hF927.2.1 240 (by decide), (by show (gI g925 231 23).toInt = 0 ∨ ((a1.toInt = 1 → 30 ≤ (eA g0 240 ((gI g925 231 23).toInt - 1)).toInt) ∧ (a1.toInt = 5 → 24 ≤ (eA g0 240 ((gI g925 231 23).toInt - 1)).toInt)); rw [show (gI g925 231 23).toInt - 1 = (x924.toInt + (-1)) by omega, hv950]; omega)⟩, SETQ.mk (by show 0 ≤ (gI _ 231 23).toInt; omega) (by show (gI _ 231 23).toInt ≤ (gI _ 231 23).toInt; omega) (hF927.2.1 240 (by decide)) (fun j h0 h1 => q939 j (by have h0 : (gI g925 231 23).toInt ≤ j := h0; omega) h1) (fun j h0 h1 ha => q941 j (by have h0 : (gI g925 231 23).toInt ≤ j := h0; omega) h1 ha), ⟨q942, (fun hz => by have bb := bdn_rg v950.toInt; rw [show pP g925 (pI g925 23 - 1) = v950.toInt from by show (eA g925 240 ((gI g925 231 23).toInt - 1)).toInt = _; rw [show (gI g925 231 23).toInt - 1 = (x924.toInt + (-1)) by omega, eA_c (j := (x924.toInt + (-1))) (hF927.2.1 240 (by decide)), hv950]]; omega)⟩⟩⟩
              · have c999_ : 4 ≥ a1.toInt := en_i_lt_f c999
                refine At.enter rfl ?_
                refine r_aload_n e933 ?_
                refine r_dup rfl ?_
                refine q_getI (Sh.int hI926.1 kx_231 rfl) x924 e932 ?_
                refine r_iconst 1 rfl ?_
                refine q_isub (x924.toInt - 1) rfl (by omega) (fun v1002 hv1002 => ?_)
                refine q_putI (Sh.int hI926.1 kx_231 rfl) rfl ?_
                have hI1003 := HI.wI1 hI926 kx_231 rfl (p := 231) (b := 23) (v := v1002) rfl (by dsimp only; omega)
                have hF1004 := Fr.wI (p := 231) (b := 23) (v := v1002) hF927 rfl
                refine r_aload_n e933 ?_
                refine q_getR (Sh.ref hI1003.1 kx_231 rfl) ?_
                refine r_aload_n e933 ?_
                refine q_getI (Sh.int hI1003.1 kx_231 rfl) v1002 (gI_sI_eq hI926.1 kx_231 rfl _) ?_
                refine q_iald (Sh.arr hI1003.1 ka_240) (x924.toInt + (-1)) (by omega) (by omega) v950 ((eA_c ((gA_sI).trans (hF927.2.1 240 (by decide)))).trans hv950) ?_
                refine r_bipush 28 rfl ?_
                refine r_ics 49 rfl (fun c1005 => ?_) (fun c1005 => ?_)
                · have c1005_ : v950.toInt = 28 := en_i_eq_t c1005
                  exfalso; omega
                · have c1005_ : v950.toInt ≠ 28 := en_i_eq_f c1005
                  refine At.enter rfl ?_
                  refine r_aload_n e933 ?_
                  refine q_getR (Sh.ref hI1003.1 kx_231 rfl) ?_
                  refine r_aload_n e933 ?_
                  refine q_getI (Sh.int hI1003.1 kx_231 rfl) v1002 (gI_sI_eq hI926.1 kx_231 rfl _) ?_
                  refine q_iald (Sh.arr hI1003.1 ka_240) (x924.toInt + (-1)) (by omega) (by omega) v950 ((eA_c ((gA_sI).trans (hF927.2.1 240 (by decide)))).trans hv950) ?_
                  refine r_bipush 29 rfl ?_
                  refine r_ics 63 rfl (fun c1006 => ?_) (fun c1006 => ?_)
                  · have c1006_ : v950.toInt ≠ 29 := en_i_ne_t c1006
                    refine At.enter rfl ?_
                    refine r_aload_n e933 ?_
                    refine r_aload_n e933 ?_
                    refine q_getR (Sh.ref hI1003.1 kx_231 rfl) ?_
                    refine r_aload_n e933 ?_
                    refine q_getI (Sh.int hI1003.1 kx_231 rfl) v1002 (gI_sI_eq hI926.1 kx_231 rfl _) ?_
                    refine q_iald (Sh.arr hI1003.1 ka_240) (x924.toInt + (-1)) (by omega) (by omega) v950 ((eA_c ((gA_sI).trans (hF927.2.1 240 (by decide)))).trans hv950) ?_
                    refine r_iconst 0 rfl ?_
                    have x1007 := HI.eqI hI1003 (p := 231) (b := 17) (((gI_sI_ne (by decide)).trans e931))
                    have zv1008 : (0 : Int32).toInt = 0 := rfl
                    refine r_callV 98 rfl [.ref 231, .int v950, .int 0] [] (Nat.le_of_ble_eq_true rfl) rfl (T_X11_emit_231 _ hI1003 v950 0 (by omega)) ?_
                    rintro _ _ ⟨g1009, rfl, hI1010, hF1011, rfl, hr1013⟩
                    refine At.stn ?_
                    have hF1014 := Fr.tr hF1004 hF1011 rfl rfl
                    have x1017 := HI.eqI hI1003 (p := 231) (b := 23) ((gI_sI_eq hI926.1 kx_231 rfl _))
                    obtain ⟨v1018, hv1018⟩ : ∃ v, gI g1009 231 17 = v := ⟨_, rfl⟩
                    have rv1018 := RgF.at hI1010.2.1 (p := 231) (b := 17) rfl
                    rw [hv1018] at rv1018
                    dsimp only at rv1018
                    have tv1018 := congrArg Int32.toInt hv1018
                    have y1020 : (gI _ 231 17).toInt = (gI _ 231 17).toInt + 1 := hr1013.1.1
                    refine At.enter rfl ?_
                    refine r_goto ?_
                    exact ih930 (v1002.toInt) _ _ ⟨v1018, v1002, by first | rfl | omega, hI1010, hF1014, hv1018, ((hF1011.1 231 23 mf_X11_emit_231_231_23).trans (gI_sI_eq hI926.1 kx_231 rfl _)), e933, e934, by omega, by omega, by omega, (fun b o0 a0 h => PG.settleO (q938 b o0 a0 h) ((gA_sI)) ((gA_sI)) ((gA_sI)) ((gA_sI)) ((gI_sI_ne (by decide))) (by show (gI _ 231 23).toInt = (gI _ 231 23).toInt - 1; omega) (by show 1 ≤ (gI _ 231 23).toInt; omega) hr1013.1 (hF1011.2.1 240 ma_X11_emit_231_240) (hF1011.2.1 241 ma_X11_emit_231_241) (hF1011.1 231 23 mf_X11_emit_231_231_23) (by show (eA g925 240 ((gI g925 231 23).toInt - 1)).toInt = _; rw [show (gI g925 231 23).toInt - 1 = (x924.toInt + (-1)) by omega, eA_c (j := (x924.toInt + (-1))) (hF927.2.1 240 (by decide)), hv950]) (by omega)), (fun j h0 h1 => (Decidable.em (j = x924.toInt - 1)).elim (fun e => by rw [e, show x924.toInt - 1 = (x924.toInt + (-1)) by omega, hv950]; omega) (fun e => q939 j (by omega) h1)), by omega, (fun j h0 h1 ha => (Decidable.em (j = x924.toInt - 1)).elim (fun e => by rw [e, show x924.toInt - 1 = (x924.toInt + (-1)) by omega, hv950]; omega) (fun e => q941 j (by omega) h1 ha)), (SEG_sn q942 (by show 1 ≤ (gI _ 231 23).toInt; omega) (by have bb := bdn_rg v950.toInt; rw [(show pP g925 (pI g925 23 - 1) = v950.toInt from by show (eA g925 240 ((gI g925 231 23).toInt - 1)).toInt = _; rw [show (gI g925 231 23).toInt - 1 = (x924.toInt + (-1)) by omega, eA_c (j := (x924.toInt + (-1))) (hF927.2.1 240 (by decide)), hv950])]; omega) (fun t b K q => CGM_op (((hF1011.2.1 240 ma_X11_emit_231_240).trans (gA_sI))) (((hF1011.2.1 241 ma_X11_emit_231_241).trans (gA_sI))) (by have jf := HI.eqI hI1010 (p := 231) (b := 23) (((hF1011.1 231 23 mf_X11_emit_231_231_23).trans (gI_sI_eq hI926.1 kx_231 rfl _))); show (gI _ 231 23).toInt = (gI _ 231 23).toInt - 1; omega) (by show 1 ≤ (gI _ 231 23).toInt; omega) ⟨by rw [(show pP g925 (pI g925 23 - 1) = v950.toInt from by show (eA g925 240 ((gI g925 231 23).toInt - 1)).toInt = _; rw [show (gI g925 231 23).toInt - 1 = (x924.toInt + (-1)) by omega, eA_c (j := (x924.toInt + (-1))) (hF927.2.1 240 (by decide)), hv950])]; omega, by rw [(show pP g925 (pI g925 23 - 1) = v950.toInt from by show (eA g925 240 ((gI g925 231 23).toInt - 1)).toInt = _; rw [show (gI g925 231 23).toInt - 1 = (x924.toInt + (-1)) by omega, eA_c (j := (x924.toInt + (-1))) (hF927.2.1 240 (by decide)), hv950])]; omega⟩ (EMG_e (EMG_fr hr1013.2 (SMG_mk ((gA_sI)) ((gA_sI)) ((gI_sI_ne (by decide)))) SMG_rf) (show pP g925 (pI g925 23 - 1) = v950.toInt from by show (eA g925 240 ((gI g925 231 23).toInt - 1)).toInt = _; rw [show (gI g925 231 23).toInt - 1 = (x924.toInt + (-1)) by omega, eA_c (j := (x924.toInt + (-1))) (hF927.2.1 240 (by decide)), hv950]).symm rfl)))⟩ ⟨by omega, by omega⟩
                  · have c1006_ : v950.toInt = 29 := en_i_ne_f c1006
                    exfalso; omega
          · have c954_ : v950.toInt = 27 := en_i_ne_f c954
            refine At.enter rfl ?_
            refine r_iconst 3 rfl ?_
            refine r_goto ?_
            refine At.enter rfl ?_
            refine q_ireti ?_
            refine At.enter rfl ?_
            refine r_iload_n e934 ?_
            refine r_ics 25 rfl (fun c1021 => ?_) (fun c1021 => ?_)
            · have c1021_ : 3 < a1.toInt := en_i_lt_t c1021
              refine At.enter rfl ?_
              refine r_vret ?_
              have x1022 := HI.eqI hI926 (p := 231) (b := 17) (e931)
              have x1023 := HI.eqI hI926 (p := 231) (b := 23) (e932)
              exact ⟨_, rfl, hI926, hF927, rfl, ⟨⟨by show (gI _ 231 23).toInt ≤ (gI _ 231 23).toInt; omega, by show (gI _ 231 17).toInt + (gI _ 231 23).toInt ≤ (gI _ 231 17).toInt + (gI _ 231 23).toInt; omega, q938, (fun j h0 h1 => q939 j (by have h0 : (gI g925 231 23).toInt ≤ j := h0; omega) h1), hF927.2.1 240 (by decide), (by show (gI g925 231 23).toInt = 0 ∨ ((a1.toInt = 1 → 30 ≤ (eA g0 240 ((gI g925 231 23).toInt - 1)).toInt) ∧ (a1.toInt = 5 → 24 ≤ (eA g0 240 ((gI g925 231 23).toInt - 1)).toInt)); rw [show (gI g925 231 23).toInt - 1 = (x924.toInt + (-1)) by omega, hv950]; omega)⟩, SETQ.mk (by show 0 ≤ (gI _ 231 23).toInt; omega) (by show (gI _ 231 23).toInt ≤ (gI _ 231 23).toInt; omega) (hF927.2.1 240 (by decide)) (fun j h0 h1 => q939 j (by have h0 : (gI g925 231 23).toInt ≤ j := h0; omega) h1) (fun j h0 h1 ha => q941 j (by have h0 : (gI g925 231 23).toInt ≤ j := h0; omega) h1 ha), ⟨q942, (fun hz => by have bb := bdn_rg v950.toInt; rw [show pP g925 (pI g925 23 - 1) = v950.toInt from by show (eA g925 240 ((gI g925 231 23).toInt - 1)).toInt = _; rw [show (gI g925 231 23).toInt - 1 = (x924.toInt + (-1)) by omega, eA_c (j := (x924.toInt + (-1))) (hF927.2.1 240 (by decide)), hv950]]; omega)⟩⟩⟩
            · have c1021_ : 3 ≥ a1.toInt := en_i_lt_f c1021
              refine At.enter rfl ?_
              refine r_aload_n e933 ?_
              refine r_dup rfl ?_
              refine q_getI (Sh.int hI926.1 kx_231 rfl) x924 e932 ?_
              refine r_iconst 1 rfl ?_
              refine q_isub (x924.toInt - 1) rfl (by omega) (fun v1024 hv1024 => ?_)
              refine q_putI (Sh.int hI926.1 kx_231 rfl) rfl ?_
              have hI1025 := HI.wI1 hI926 kx_231 rfl (p := 231) (b := 23) (v := v1024) rfl (by dsimp only; omega)
              have hF1026 := Fr.wI (p := 231) (b := 23) (v := v1024) hF927 rfl
              refine r_aload_n e933 ?_
              refine q_getR (Sh.ref hI1025.1 kx_231 rfl) ?_
              refine r_aload_n e933 ?_
              refine q_getI (Sh.int hI1025.1 kx_231 rfl) v1024 (gI_sI_eq hI926.1 kx_231 rfl _) ?_
              refine q_iald (Sh.arr hI1025.1 ka_240) (x924.toInt + (-1)) (by omega) (by omega) v950 ((eA_c ((gA_sI).trans (hF927.2.1 240 (by decide)))).trans hv950) ?_
              refine r_bipush 28 rfl ?_
              refine r_ics 49 rfl (fun c1027 => ?_) (fun c1027 => ?_)
              · have c1027_ : v950.toInt = 28 := en_i_eq_t c1027
                exfalso; omega
              · have c1027_ : v950.toInt ≠ 28 := en_i_eq_f c1027
                refine At.enter rfl ?_
                refine r_aload_n e933 ?_
                refine q_getR (Sh.ref hI1025.1 kx_231 rfl) ?_
                refine r_aload_n e933 ?_
                refine q_getI (Sh.int hI1025.1 kx_231 rfl) v1024 (gI_sI_eq hI926.1 kx_231 rfl _) ?_
                refine q_iald (Sh.arr hI1025.1 ka_240) (x924.toInt + (-1)) (by omega) (by omega) v950 ((eA_c ((gA_sI).trans (hF927.2.1 240 (by decide)))).trans hv950) ?_
                refine r_bipush 29 rfl ?_
                refine r_ics 63 rfl (fun c1028 => ?_) (fun c1028 => ?_)
                · have c1028_ : v950.toInt ≠ 29 := en_i_ne_t c1028
                  refine At.enter rfl ?_
                  refine r_aload_n e933 ?_
                  refine r_aload_n e933 ?_
                  refine q_getR (Sh.ref hI1025.1 kx_231 rfl) ?_
                  refine r_aload_n e933 ?_
                  refine q_getI (Sh.int hI1025.1 kx_231 rfl) v1024 (gI_sI_eq hI926.1 kx_231 rfl _) ?_
                  refine q_iald (Sh.arr hI1025.1 ka_240) (x924.toInt + (-1)) (by omega) (by omega) v950 ((eA_c ((gA_sI).trans (hF927.2.1 240 (by decide)))).trans hv950) ?_
                  refine r_iconst 0 rfl ?_
                  have x1029 := HI.eqI hI1025 (p := 231) (b := 17) (((gI_sI_ne (by decide)).trans e931))
                  have zv1030 : (0 : Int32).toInt = 0 := rfl
                  refine r_callV 98 rfl [.ref 231, .int v950, .int 0] [] (Nat.le_of_ble_eq_true rfl) rfl (T_X11_emit_231 _ hI1025 v950 0 (by omega)) ?_
                  rintro _ _ ⟨g1031, rfl, hI1032, hF1033, rfl, hr1035⟩
                  refine At.stn ?_
                  have hF1036 := Fr.tr hF1026 hF1033 rfl rfl
                  have x1039 := HI.eqI hI1025 (p := 231) (b := 23) ((gI_sI_eq hI926.1 kx_231 rfl _))
                  obtain ⟨v1040, hv1040⟩ : ∃ v, gI g1031 231 17 = v := ⟨_, rfl⟩
                  have rv1040 := RgF.at hI1032.2.1 (p := 231) (b := 17) rfl
                  rw [hv1040] at rv1040
                  dsimp only at rv1040
                  have tv1040 := congrArg Int32.toInt hv1040
                  have y1042 : (gI _ 231 17).toInt = (gI _ 231 17).toInt + 1 := hr1035.1.1
                  refine At.enter rfl ?_
                  refine r_goto ?_
                  exact ih930 (v1024.toInt) _ _ ⟨v1040, v1024, by first | rfl | omega, hI1032, hF1036, hv1040, ((hF1033.1 231 23 mf_X11_emit_231_231_23).trans (gI_sI_eq hI926.1 kx_231 rfl _)), e933, e934, by omega, by omega, by omega, (fun b o0 a0 h => PG.settleO (q938 b o0 a0 h) ((gA_sI)) ((gA_sI)) ((gA_sI)) ((gA_sI)) ((gI_sI_ne (by decide))) (by show (gI _ 231 23).toInt = (gI _ 231 23).toInt - 1; omega) (by show 1 ≤ (gI _ 231 23).toInt; omega) hr1035.1 (hF1033.2.1 240 ma_X11_emit_231_240) (hF1033.2.1 241 ma_X11_emit_231_241) (hF1033.1 231 23 mf_X11_emit_231_231_23) (by show (eA g925 240 ((gI g925 231 23).toInt - 1)).toInt = _; rw [show (gI g925 231 23).toInt - 1 = (x924.toInt + (-1)) by omega, eA_c (j := (x924.toInt + (-1))) (hF927.2.1 240 (by decide)), hv950]) (by omega)), (fun j h0 h1 => (Decidable.em (j = x924.toInt - 1)).elim (fun e => by rw [e, show x924.toInt - 1 = (x924.toInt + (-1)) by omega, hv950]; omega) (fun e => q939 j (by omega) h1)), by omega, (fun j h0 h1 ha => (Decidable.em (j = x924.toInt - 1)).elim (fun e => by rw [e, show x924.toInt - 1 = (x924.toInt + (-1)) by omega, hv950]; omega) (fun e => q941 j (by omega) h1 ha)), (SEG_sn q942 (by show 1 ≤ (gI _ 231 23).toInt; omega) (by have bb := bdn_rg v950.toInt; rw [(show pP g925 (pI g925 23 - 1) = v950.toInt from by show (eA g925 240 ((gI g925 231 23).toInt - 1)).toInt = _; rw [show (gI g925 231 23).toInt - 1 = (x924.toInt + (-1)) by omega, eA_c (j := (x924.toInt + (-1))) (hF927.2.1 240 (by decide)), hv950])]; omega) (fun t b K q => CGM_op (((hF1033.2.1 240 ma_X11_emit_231_240).trans (gA_sI))) (((hF1033.2.1 241 ma_X11_emit_231_241).trans (gA_sI))) (by have jf := HI.eqI hI1032 (p := 231) (b := 23) (((hF1033.1 231 23 mf_X11_emit_231_231_23).trans (gI_sI_eq hI926.1 kx_231 rfl _))); show (gI _ 231 23).toInt = (gI _ 231 23).toInt - 1; omega) (by show 1 ≤ (gI _ 231 23).toInt; omega) ⟨by rw [(show pP g925 (pI g925 23 - 1) = v950.toInt from by show (eA g925 240 ((gI g925 231 23).toInt - 1)).toInt = _; rw [show (gI g925 231 23).toInt - 1 = (x924.toInt + (-1)) by omega, eA_c (j := (x924.toInt + (-1))) (hF927.2.1 240 (by decide)), hv950])]; omega, by rw [(show pP g925 (pI g925 23 - 1) = v950.toInt from by show (eA g925 240 ((gI g925 231 23).toInt - 1)).toInt = _; rw [show (gI g925 231 23).toInt - 1 = (x924.toInt + (-1)) by omega, eA_c (j := (x924.toInt + (-1))) (hF927.2.1 240 (by decide)), hv950])]; omega⟩ (EMG_e (EMG_fr hr1035.2 (SMG_mk ((gA_sI)) ((gA_sI)) ((gI_sI_ne (by decide)))) SMG_rf) (show pP g925 (pI g925 23 - 1) = v950.toInt from by show (eA g925 240 ((gI g925 231 23).toInt - 1)).toInt = _; rw [show (gI g925 231 23).toInt - 1 = (x924.toInt + (-1)) by omega, eA_c (j := (x924.toInt + (-1))) (hF927.2.1 240 (by decide)), hv950]).symm rfl)))⟩ ⟨by omega, by omega⟩
                · have c1028_ : v950.toInt = 29 := en_i_ne_f c1028
                  exfalso; omega
        · have c953_ : v950.toInt = 28 := en_i_ne_f c953
          refine At.enter rfl ?_
          refine r_iconst 2 rfl ?_
          refine r_goto ?_
          refine At.enter rfl ?_
          refine q_ireti ?_
          refine At.enter rfl ?_
          refine r_iload_n e934 ?_
          refine r_ics 25 rfl (fun c1043 => ?_) (fun c1043 => ?_)
          · have c1043_ : 2 < a1.toInt := en_i_lt_t c1043
            refine At.enter rfl ?_
            refine r_vret ?_
            have x1044 := HI.eqI hI926 (p := 231) (b := 17) (e931)
            have x1045 := HI.eqI hI926 (p := 231) (b := 23) (e932)
            exact ⟨_, rfl, hI926, hF927, rfl, ⟨⟨by show (gI _ 231 23).toInt ≤ (gI _ 231 23).toInt; omega, by show (gI _ 231 17).toInt + (gI _ 231 23).toInt ≤ (gI _ 231 17).toInt + (gI _ 231 23).toInt; omega, q938, (fun j h0 h1 => q939 j (by have h0 : (gI g925 231 23).toInt ≤ j := h0; omega) h1), hF927.2.1 240 (by decide), (by show (gI g925 231 23).toInt = 0 ∨ ((a1.toInt = 1 → 30 ≤ (eA g0 240 ((gI g925 231 23).toInt - 1)).toInt) ∧ (a1.toInt = 5 → 24 ≤ (eA g0 240 ((gI g925 231 23).toInt - 1)).toInt)); rw [show (gI g925 231 23).toInt - 1 = (x924.toInt + (-1)) by omega, hv950]; omega)⟩, SETQ.mk (by show 0 ≤ (gI _ 231 23).toInt; omega) (by show (gI _ 231 23).toInt ≤ (gI _ 231 23).toInt; omega) (hF927.2.1 240 (by decide)) (fun j h0 h1 => q939 j (by have h0 : (gI g925 231 23).toInt ≤ j := h0; omega) h1) (fun j h0 h1 ha => q941 j (by have h0 : (gI g925 231 23).toInt ≤ j := h0; omega) h1 ha), ⟨q942, (fun hz => by have bb := bdn_rg v950.toInt; rw [show pP g925 (pI g925 23 - 1) = v950.toInt from by show (eA g925 240 ((gI g925 231 23).toInt - 1)).toInt = _; rw [show (gI g925 231 23).toInt - 1 = (x924.toInt + (-1)) by omega, eA_c (j := (x924.toInt + (-1))) (hF927.2.1 240 (by decide)), hv950]]; omega)⟩⟩⟩
          · have c1043_ : 2 ≥ a1.toInt := en_i_lt_f c1043
            refine At.enter rfl ?_
            refine r_aload_n e933 ?_
            refine r_dup rfl ?_
            refine q_getI (Sh.int hI926.1 kx_231 rfl) x924 e932 ?_
            refine r_iconst 1 rfl ?_
            refine q_isub (x924.toInt - 1) rfl (by omega) (fun v1046 hv1046 => ?_)
            refine q_putI (Sh.int hI926.1 kx_231 rfl) rfl ?_
            have hI1047 := HI.wI1 hI926 kx_231 rfl (p := 231) (b := 23) (v := v1046) rfl (by dsimp only; omega)
            have hF1048 := Fr.wI (p := 231) (b := 23) (v := v1046) hF927 rfl
            refine r_aload_n e933 ?_
            refine q_getR (Sh.ref hI1047.1 kx_231 rfl) ?_
            refine r_aload_n e933 ?_
            refine q_getI (Sh.int hI1047.1 kx_231 rfl) v1046 (gI_sI_eq hI926.1 kx_231 rfl _) ?_
            refine q_iald (Sh.arr hI1047.1 ka_240) (x924.toInt + (-1)) (by omega) (by omega) v950 ((eA_c ((gA_sI).trans (hF927.2.1 240 (by decide)))).trans hv950) ?_
            refine r_bipush 28 rfl ?_
            refine r_ics 49 rfl (fun c1049 => ?_) (fun c1049 => ?_)
            · have c1049_ : v950.toInt = 28 := en_i_eq_t c1049
              refine At.enter rfl ?_
              refine r_aload_n e933 ?_
              refine q_getR (Sh.ref hI1047.1 kx_231 rfl) ?_
              refine r_aload_n e933 ?_
              refine q_getR (Sh.ref hI1047.1 kx_231 rfl) ?_
              refine r_aload_n e933 ?_
              refine q_getI (Sh.int hI1047.1 kx_231 rfl) v1046 (gI_sI_eq hI926.1 kx_231 rfl _) ?_
              obtain ⟨v1050, hv1050⟩ : ∃ v, eA g0 241 (x924.toInt + (-1)) = v := ⟨_, rfl⟩
              have rv1050 := RgA.at hI0.2.2.1 (Sh.arr hI0.1 ka_241).2 (p := 241) rfl (j := (x924.toInt + (-1))) (by omega)
              rw [hv1050] at rv1050
              dsimp only at rv1050
              refine q_iald (Sh.arr hI1047.1 ka_241) (x924.toInt + (-1)) (by omega) (by omega) v1050 ((eA_c ((gA_sI).trans (hF927.2.1 241 (by decide)))).trans hv1050) ?_
              refine r_aload_n e933 ?_
              refine q_getI (Sh.int hI1047.1 kx_231 rfl) x923 ((gI_sI_ne (by decide)).trans e931) ?_
              refine q_iast (Sh.arr hI1047.1 ka_239) (v1050.toInt) rfl (by omega) ?_
              have hI1051 := HI.wA0 hI1047 ka_239 (p := 239) rfl rfl (v1050.toInt) (x923)
              have hF1052 := Fr.wA (p := 239) (j := v1050.toInt) (v := x923) hF1048 rfl
              refine r_goto ?_
              exact ih930 (v1046.toInt) _ _ ⟨x923, v1046, by first | rfl | omega, hI1051, hF1052, (((gI_sW).trans (gI_sI_ne (by decide))).trans e931), ((gI_sW).trans (gI_sI_eq hI926.1 kx_231 rfl _)), e933, e934, by omega, by omega, by omega, (fun b o0 a0 h => PG.settleJ (q938 b o0 a0 h) (((gA_sA_ne (by decide)).trans (gA_sI))) (((gA_sA_ne (by decide)).trans (gA_sI))) (((gA_sA_ne (by decide)).trans (gA_sI))) (((gI_sW).trans (gI_sI_ne (by decide)))) (by have jf := HI.eqI hI1051 (p := 231) (b := 23) (((gI_sW).trans (gI_sI_eq hI926.1 kx_231 rfl _))); show (gI _ 231 23).toInt = (gI _ 231 23).toInt - 1; omega) (by show 1 ≤ (gI _ 231 23).toInt; omega) (by show 28 ≤ (eA g925 240 ((gI g925 231 23).toInt - 1)).toInt ∧ (eA g925 240 ((gI g925 231 23).toInt - 1)).toInt ≤ 29; rw [show (gI g925 231 23).toInt - 1 = (x924.toInt + (-1)) by omega, eA_c (j := (x924.toInt + (-1))) (hF927.2.1 240 (by decide)), hv950]; omega) (by show (eA _ 239 (eA g925 241 ((gI g925 231 23).toInt - 1)).toInt).toInt = (gI g925 231 17).toInt; rw [show (gI g925 231 23).toInt - 1 = (x924.toInt + (-1)) by omega, eA_c (j := (x924.toInt + (-1))) (hF927.2.1 241 (by decide)), hv1050, show eA _ 239 v1050.toInt = _ from (eA_sA_eq hI1047.1 ka_239 (by first | rfl | omega) (by first | decide | omega) (by first | decide | omega))]; omega) (fun i i0 hne => by have hne : i ≠ (eA g925 241 ((gI g925 231 23).toInt - 1)).toInt := hne; rw [show (gI g925 231 23).toInt - 1 = (x924.toInt + (-1)) by omega, eA_c (j := (x924.toInt + (-1))) (hF927.2.1 241 (by decide)), hv1050] at hne; exact ((eA_sA_ne (i := i) hI1047.1 ka_239 (by omega) (by omega) (by omega)).trans (eA_c gA_sI)))), (fun j h0 h1 => (Decidable.em (j = x924.toInt - 1)).elim (fun e => by rw [e, show x924.toInt - 1 = (x924.toInt + (-1)) by omega, hv950]; omega) (fun e => q939 j (by omega) h1)), by omega, (fun j h0 h1 ha => (Decidable.em (j = x924.toInt - 1)).elim (fun e => by rw [e, show x924.toInt - 1 = (x924.toInt + (-1)) by omega, hv950]; omega) (fun e => q941 j (by omega) h1 ha)), (SEG_sn q942 (by show 1 ≤ (gI _ 231 23).toInt; omega) (by have bb := bdn_rg v950.toInt; rw [(show pP g925 (pI g925 23 - 1) = v950.toInt from by show (eA g925 240 ((gI g925 231 23).toInt - 1)).toInt = _; rw [show (gI g925 231 23).toInt - 1 = (x924.toInt + (-1)) by omega, eA_c (j := (x924.toInt + (-1))) (hF927.2.1 240 (by decide)), hv950])]; omega) (fun t b K q => CGM_jmp (((gA_sA_ne (by decide)).trans (gA_sI))) (((gA_sA_ne (by decide)).trans (gA_sI))) (by have jf := HI.eqI hI1051 (p := 231) (b := 23) (((gI_sW).trans (gI_sI_eq hI926.1 kx_231 rfl _))); show (gI _ 231 23).toInt = (gI _ 231 23).toInt - 1; omega) (by show 1 ≤ (gI _ 231 23).toInt; omega) (by rw [(show pP g925 (pI g925 23 - 1) = v950.toInt from by show (eA g925 240 ((gI g925 231 23).toInt - 1)).toInt = _; rw [show (gI g925 231 23).toInt - 1 = (x924.toInt + (-1)) by omega, eA_c (j := (x924.toInt + (-1))) (hF927.2.1 240 (by decide)), hv950])]; omega) (OG_c (((gA_sA_ne (by decide)).trans (gA_sI)))) (pI.c (((gI_sW).trans (gI_sI_ne (by decide))))) (by rw [(show pE g925 241 (pI g925 23 - 1) = v1050.toInt from by show (eA g925 241 ((gI g925 231 23).toInt - 1)).toInt = _; rw [show (gI g925 231 23).toInt - 1 = (x924.toInt + (-1)) by omega, eA_c (j := (x924.toInt + (-1))) (hF927.2.1 241 (by decide)), hv1050])]; exact AG_upd (by omega) (by show (eA _ 239 v1050.toInt).toInt = (gI g925 231 17).toInt; rw [show eA _ 239 v1050.toInt = _ from (eA_sA_eq hI1047.1 ka_239 (by first | rfl | omega) (by first | decide | omega) (by first | decide | omega))]; omega) (fun i i0 hne => ((eA_sA_ne (i := i) hI1047.1 ka_239 (by omega) (by omega) (by omega)).trans (eA_c gA_sI))))))⟩ ⟨by omega, by omega⟩
            · have c1049_ : v950.toInt ≠ 28 := en_i_eq_f c1049
              exfalso; omega
      · have c952_ : v950.toInt = 29 := en_i_ne_f c952
        refine At.enter rfl ?_
        refine r_iconst 1 rfl ?_
        refine r_goto ?_
        refine At.enter rfl ?_
        refine q_ireti ?_
        refine At.enter rfl ?_
        refine r_iload_n e934 ?_
        refine r_ics 25 rfl (fun c1053 => ?_) (fun c1053 => ?_)
        · have c1053_ : 1 < a1.toInt := en_i_lt_t c1053
          refine At.enter rfl ?_
          refine r_vret ?_
          have x1054 := HI.eqI hI926 (p := 231) (b := 17) (e931)
          have x1055 := HI.eqI hI926 (p := 231) (b := 23) (e932)
          exact ⟨_, rfl, hI926, hF927, rfl, ⟨⟨by show (gI _ 231 23).toInt ≤ (gI _ 231 23).toInt; omega, by show (gI _ 231 17).toInt + (gI _ 231 23).toInt ≤ (gI _ 231 17).toInt + (gI _ 231 23).toInt; omega, q938, (fun j h0 h1 => q939 j (by have h0 : (gI g925 231 23).toInt ≤ j := h0; omega) h1), hF927.2.1 240 (by decide), (by show (gI g925 231 23).toInt = 0 ∨ ((a1.toInt = 1 → 30 ≤ (eA g0 240 ((gI g925 231 23).toInt - 1)).toInt) ∧ (a1.toInt = 5 → 24 ≤ (eA g0 240 ((gI g925 231 23).toInt - 1)).toInt)); rw [show (gI g925 231 23).toInt - 1 = (x924.toInt + (-1)) by omega, hv950]; omega)⟩, SETQ.mk (by show 0 ≤ (gI _ 231 23).toInt; omega) (by show (gI _ 231 23).toInt ≤ (gI _ 231 23).toInt; omega) (hF927.2.1 240 (by decide)) (fun j h0 h1 => q939 j (by have h0 : (gI g925 231 23).toInt ≤ j := h0; omega) h1) (fun j h0 h1 ha => q941 j (by have h0 : (gI g925 231 23).toInt ≤ j := h0; omega) h1 ha), ⟨q942, (fun hz => by have bb := bdn_rg v950.toInt; rw [show pP g925 (pI g925 23 - 1) = v950.toInt from by show (eA g925 240 ((gI g925 231 23).toInt - 1)).toInt = _; rw [show (gI g925 231 23).toInt - 1 = (x924.toInt + (-1)) by omega, eA_c (j := (x924.toInt + (-1))) (hF927.2.1 240 (by decide)), hv950]]; omega)⟩⟩⟩
        · have c1053_ : 1 ≥ a1.toInt := en_i_lt_f c1053
          refine At.enter rfl ?_
          refine r_aload_n e933 ?_
          refine r_dup rfl ?_
          refine q_getI (Sh.int hI926.1 kx_231 rfl) x924 e932 ?_
          refine r_iconst 1 rfl ?_
          refine q_isub (x924.toInt - 1) rfl (by omega) (fun v1056 hv1056 => ?_)
          refine q_putI (Sh.int hI926.1 kx_231 rfl) rfl ?_
          have hI1057 := HI.wI1 hI926 kx_231 rfl (p := 231) (b := 23) (v := v1056) rfl (by dsimp only; omega)
          have hF1058 := Fr.wI (p := 231) (b := 23) (v := v1056) hF927 rfl
          refine r_aload_n e933 ?_
          refine q_getR (Sh.ref hI1057.1 kx_231 rfl) ?_
          refine r_aload_n e933 ?_
          refine q_getI (Sh.int hI1057.1 kx_231 rfl) v1056 (gI_sI_eq hI926.1 kx_231 rfl _) ?_
          refine q_iald (Sh.arr hI1057.1 ka_240) (x924.toInt + (-1)) (by omega) (by omega) v950 ((eA_c ((gA_sI).trans (hF927.2.1 240 (by decide)))).trans hv950) ?_
          refine r_bipush 28 rfl ?_
          refine r_ics 49 rfl (fun c1059 => ?_) (fun c1059 => ?_)
          · have c1059_ : v950.toInt = 28 := en_i_eq_t c1059
            exfalso; omega
          · have c1059_ : v950.toInt ≠ 28 := en_i_eq_f c1059
            refine At.enter rfl ?_
            refine r_aload_n e933 ?_
            refine q_getR (Sh.ref hI1057.1 kx_231 rfl) ?_
            refine r_aload_n e933 ?_
            refine q_getI (Sh.int hI1057.1 kx_231 rfl) v1056 (gI_sI_eq hI926.1 kx_231 rfl _) ?_
            refine q_iald (Sh.arr hI1057.1 ka_240) (x924.toInt + (-1)) (by omega) (by omega) v950 ((eA_c ((gA_sI).trans (hF927.2.1 240 (by decide)))).trans hv950) ?_
            refine r_bipush 29 rfl ?_
            refine r_ics 63 rfl (fun c1060 => ?_) (fun c1060 => ?_)
            · have c1060_ : v950.toInt ≠ 29 := en_i_ne_t c1060
              exfalso; omega
            · have c1060_ : v950.toInt = 29 := en_i_ne_f c1060
              refine At.enter rfl ?_
              refine r_aload_n e933 ?_
              refine q_getR (Sh.ref hI1057.1 kx_231 rfl) ?_
              refine r_aload_n e933 ?_
              refine q_getR (Sh.ref hI1057.1 kx_231 rfl) ?_
              refine r_aload_n e933 ?_
              refine q_getI (Sh.int hI1057.1 kx_231 rfl) v1056 (gI_sI_eq hI926.1 kx_231 rfl _) ?_
              obtain ⟨v1061, hv1061⟩ : ∃ v, eA g0 241 (x924.toInt + (-1)) = v := ⟨_, rfl⟩
              have rv1061 := RgA.at hI0.2.2.1 (Sh.arr hI0.1 ka_241).2 (p := 241) rfl (j := (x924.toInt + (-1))) (by omega)
              rw [hv1061] at rv1061
              dsimp only at rv1061
              refine q_iald (Sh.arr hI1057.1 ka_241) (x924.toInt + (-1)) (by omega) (by omega) v1061 ((eA_c ((gA_sI).trans (hF927.2.1 241 (by decide)))).trans hv1061) ?_
              refine r_aload_n e933 ?_
              refine q_getI (Sh.int hI1057.1 kx_231 rfl) x923 ((gI_sI_ne (by decide)).trans e931) ?_
              refine q_iast (Sh.arr hI1057.1 ka_239) (v1061.toInt) rfl (by omega) ?_
              have hI1062 := HI.wA0 hI1057 ka_239 (p := 239) rfl rfl (v1061.toInt) (x923)
              have hF1063 := Fr.wA (p := 239) (j := v1061.toInt) (v := x923) hF1058 rfl
              refine r_goto ?_
              exact ih930 (v1056.toInt) _ _ ⟨x923, v1056, by first | rfl | omega, hI1062, hF1063, (((gI_sW).trans (gI_sI_ne (by decide))).trans e931), ((gI_sW).trans (gI_sI_eq hI926.1 kx_231 rfl _)), e933, e934, by omega, by omega, by omega, (fun b o0 a0 h => PG.settleJ (q938 b o0 a0 h) (((gA_sA_ne (by decide)).trans (gA_sI))) (((gA_sA_ne (by decide)).trans (gA_sI))) (((gA_sA_ne (by decide)).trans (gA_sI))) (((gI_sW).trans (gI_sI_ne (by decide)))) (by have jf := HI.eqI hI1062 (p := 231) (b := 23) (((gI_sW).trans (gI_sI_eq hI926.1 kx_231 rfl _))); show (gI _ 231 23).toInt = (gI _ 231 23).toInt - 1; omega) (by show 1 ≤ (gI _ 231 23).toInt; omega) (by show 28 ≤ (eA g925 240 ((gI g925 231 23).toInt - 1)).toInt ∧ (eA g925 240 ((gI g925 231 23).toInt - 1)).toInt ≤ 29; rw [show (gI g925 231 23).toInt - 1 = (x924.toInt + (-1)) by omega, eA_c (j := (x924.toInt + (-1))) (hF927.2.1 240 (by decide)), hv950]; omega) (by show (eA _ 239 (eA g925 241 ((gI g925 231 23).toInt - 1)).toInt).toInt = (gI g925 231 17).toInt; rw [show (gI g925 231 23).toInt - 1 = (x924.toInt + (-1)) by omega, eA_c (j := (x924.toInt + (-1))) (hF927.2.1 241 (by decide)), hv1061, show eA _ 239 v1061.toInt = _ from (eA_sA_eq hI1057.1 ka_239 (by first | rfl | omega) (by first | decide | omega) (by first | decide | omega))]; omega) (fun i i0 hne => by have hne : i ≠ (eA g925 241 ((gI g925 231 23).toInt - 1)).toInt := hne; rw [show (gI g925 231 23).toInt - 1 = (x924.toInt + (-1)) by omega, eA_c (j := (x924.toInt + (-1))) (hF927.2.1 241 (by decide)), hv1061] at hne; exact ((eA_sA_ne (i := i) hI1057.1 ka_239 (by omega) (by omega) (by omega)).trans (eA_c gA_sI)))), (fun j h0 h1 => (Decidable.em (j = x924.toInt - 1)).elim (fun e => by rw [e, show x924.toInt - 1 = (x924.toInt + (-1)) by omega, hv950]; omega) (fun e => q939 j (by omega) h1)), by omega, (fun j h0 h1 ha => (Decidable.em (j = x924.toInt - 1)).elim (fun e => by rw [e, show x924.toInt - 1 = (x924.toInt + (-1)) by omega, hv950]; omega) (fun e => q941 j (by omega) h1 ha)), (SEG_sn q942 (by show 1 ≤ (gI _ 231 23).toInt; omega) (by have bb := bdn_rg v950.toInt; rw [(show pP g925 (pI g925 23 - 1) = v950.toInt from by show (eA g925 240 ((gI g925 231 23).toInt - 1)).toInt = _; rw [show (gI g925 231 23).toInt - 1 = (x924.toInt + (-1)) by omega, eA_c (j := (x924.toInt + (-1))) (hF927.2.1 240 (by decide)), hv950])]; omega) (fun t b K q => CGM_jmp (((gA_sA_ne (by decide)).trans (gA_sI))) (((gA_sA_ne (by decide)).trans (gA_sI))) (by have jf := HI.eqI hI1062 (p := 231) (b := 23) (((gI_sW).trans (gI_sI_eq hI926.1 kx_231 rfl _))); show (gI _ 231 23).toInt = (gI _ 231 23).toInt - 1; omega) (by show 1 ≤ (gI _ 231 23).toInt; omega) (by rw [(show pP g925 (pI g925 23 - 1) = v950.toInt from by show (eA g925 240 ((gI g925 231 23).toInt - 1)).toInt = _; rw [show (gI g925 231 23).toInt - 1 = (x924.toInt + (-1)) by omega, eA_c (j := (x924.toInt + (-1))) (hF927.2.1 240 (by decide)), hv950])]; omega) (OG_c (((gA_sA_ne (by decide)).trans (gA_sI)))) (pI.c (((gI_sW).trans (gI_sI_ne (by decide))))) (by rw [(show pE g925 241 (pI g925 23 - 1) = v1061.toInt from by show (eA g925 241 ((gI g925 231 23).toInt - 1)).toInt = _; rw [show (gI g925 231 23).toInt - 1 = (x924.toInt + (-1)) by omega, eA_c (j := (x924.toInt + (-1))) (hF927.2.1 241 (by decide)), hv1061])]; exact AG_upd (by omega) (by show (eA _ 239 v1061.toInt).toInt = (gI g925 231 17).toInt; rw [show eA _ 239 v1061.toInt = _ from (eA_sA_eq hI1057.1 ka_239 (by first | rfl | omega) (by first | decide | omega) (by first | decide | omega))]; omega) (fun i i0 hne => ((eA_sA_ne (i := i) hI1057.1 ka_239 (by omega) (by omega) (by omega)).trans (eA_c gA_sI))))))⟩ ⟨by omega, by omega⟩
    · have c951_ : v950.toInt ≥ 30 := en_i_lt_f c951
      refine At.enter rfl ?_
      refine r_iconst 0 rfl ?_
      refine r_goto ?_
      refine At.enter rfl ?_
      refine q_ireti ?_
      refine At.enter rfl ?_
      refine r_iload_n e934 ?_
      refine r_ics 25 rfl (fun c1064 => ?_) (fun c1064 => ?_)
      · have c1064_ : 0 < a1.toInt := en_i_lt_t c1064
        refine At.enter rfl ?_
        refine r_vret ?_
        have x1065 := HI.eqI hI926 (p := 231) (b := 17) (e931)
        have x1066 := HI.eqI hI926 (p := 231) (b := 23) (e932)
        exact ⟨_, rfl, hI926, hF927, rfl, ⟨⟨by show (gI _ 231 23).toInt ≤ (gI _ 231 23).toInt; omega, by show (gI _ 231 17).toInt + (gI _ 231 23).toInt ≤ (gI _ 231 17).toInt + (gI _ 231 23).toInt; omega, q938, (fun j h0 h1 => q939 j (by have h0 : (gI g925 231 23).toInt ≤ j := h0; omega) h1), hF927.2.1 240 (by decide), (by show (gI g925 231 23).toInt = 0 ∨ ((a1.toInt = 1 → 30 ≤ (eA g0 240 ((gI g925 231 23).toInt - 1)).toInt) ∧ (a1.toInt = 5 → 24 ≤ (eA g0 240 ((gI g925 231 23).toInt - 1)).toInt)); rw [show (gI g925 231 23).toInt - 1 = (x924.toInt + (-1)) by omega, hv950]; omega)⟩, SETQ.mk (by show 0 ≤ (gI _ 231 23).toInt; omega) (by show (gI _ 231 23).toInt ≤ (gI _ 231 23).toInt; omega) (hF927.2.1 240 (by decide)) (fun j h0 h1 => q939 j (by have h0 : (gI g925 231 23).toInt ≤ j := h0; omega) h1) (fun j h0 h1 ha => q941 j (by have h0 : (gI g925 231 23).toInt ≤ j := h0; omega) h1 ha), ⟨q942, (fun hz => by have bb := bdn_rg v950.toInt; rw [show pP g925 (pI g925 23 - 1) = v950.toInt from by show (eA g925 240 ((gI g925 231 23).toInt - 1)).toInt = _; rw [show (gI g925 231 23).toInt - 1 = (x924.toInt + (-1)) by omega, eA_c (j := (x924.toInt + (-1))) (hF927.2.1 240 (by decide)), hv950]]; omega)⟩⟩⟩
      · have c1064_ : 0 ≥ a1.toInt := en_i_lt_f c1064
        exfalso; omega
