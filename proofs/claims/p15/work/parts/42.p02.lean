def F_X11_emit_231 : List (Nat × Nat) := [(231, 17)]
def A_X11_emit_231 : List Nat := [238, 239]
set_option maxRecDepth 100000 in
set_option maxHeartbeats 4000000 in
theorem T_X11_emit_231 (d : Nat) {N : Nat} {g0 : List en_E} (hI0 : HI g0) (a1 : Int32) (a2 : Int32) (h1 : (gI g0 231 17).toInt ≤ 399) : Ev (d + 1) 195 [.ref 231, .int a1, .int a2] (g0, N) (fun w h' => ∃ g', h' = (g', N) ∧ HI g' ∧ Fr F_X11_emit_231 A_X11_emit_231 g0 g' ∧ w = none ∧ EMIT g0 g' a1.toInt) := by
  have hF0 : Fr F_X11_emit_231 A_X11_emit_231 g0 g0 := Fr.rf
  obtain ⟨v1, hv1⟩ : ∃ v, gI g0 231 17 = v := ⟨_, rfl⟩
  have rv1 := RgF.at hI0.2.1 (p := 231) (b := 17) rfl
  rw [hv1] at rv1
  dsimp only at rv1
  have tv1 := congrArg Int32.toInt hv1
  refine Ev.mk rfl rfl ⟨Nat.le_of_ble_eq_true rfl, Or.inr (q_rc hI0.1 kx_231 rfl)⟩ ?_
  show At _ none _ _ (0, [(0, .ref 231), (1, .int a1), (2, .int a2)], [], (_, _)) _
  refine At.enter rfl ?_
  refine r_aload_n rfl ?_
  refine q_getR (Sh.ref hI0.1 kx_231 rfl) ?_
  refine r_aload_n rfl ?_
  refine q_getI (Sh.int hI0.1 kx_231 rfl) v1 hv1 ?_
  refine r_iload_n rfl ?_
  refine q_iast (Sh.arr hI0.1 ka_238) (v1.toInt) rfl (by omega) ?_
  have hI16 := HI.wA0 hI0 ka_238 (p := 238) rfl rfl (v1.toInt) (a1)
  have hF17 := Fr.wA (p := 238) (j := v1.toInt) (v := a1) hF0 rfl
  refine r_aload_n rfl ?_
  refine q_getR (Sh.ref hI16.1 kx_231 rfl) ?_
  refine r_aload_n rfl ?_
  refine q_getI (Sh.int hI16.1 kx_231 rfl) v1 ((gI_sW).trans hv1) ?_
  refine r_iload_n rfl ?_
  refine q_iast (Sh.arr hI16.1 ka_239) (v1.toInt) rfl (by omega) ?_
  have hI18 := HI.wA0 hI16 ka_239 (p := 239) rfl rfl (v1.toInt) (a2)
  have hF19 := Fr.wA (p := 239) (j := v1.toInt) (v := a2) hF17 rfl
  refine r_aload_n rfl ?_
  refine r_dup rfl ?_
  refine q_getI (Sh.int hI18.1 kx_231 rfl) v1 (((gI_sW).trans (gI_sW)).trans hv1) ?_
  refine r_iconst 1 rfl ?_
  refine q_iadd (v1.toInt + 1) rfl (by omega) (fun v20 hv20 => ?_)
  refine q_putI (Sh.int hI18.1 kx_231 rfl) rfl ?_
  have hI21 := HI.wI1 hI18 kx_231 rfl (p := 231) (b := 17) (v := v20) rfl (by dsimp only; omega)
  have hF22 := Fr.wI (p := 231) (b := 17) (v := v20) hF19 rfl
  refine r_vret ?_
  have x23 := HI.eqI hI21 (p := 231) (b := 17) ((gI_sI_eq hI18.1 kx_231 rfl _))
  have x24 := HI.eqI hI0 (p := 231) (b := 17) (hv1)
  exact ⟨_, rfl, hI21, hF22, rfl, ⟨by show (gI _ 231 17).toInt = (gI _ 231 17).toInt + 1; omega, (fun i i0 hne => by have hne : i ≠ (gI g0 231 17).toInt := hne; exact ((eA_c gA_sI).trans ((eA_c (gA_sA_ne (by decide))).trans (eA_sA_ne (i := i) hI0.1 ka_238 (by omega) (by omega) (by omega))))), (fun i i0 hne => by have hne : i ≠ (gI g0 231 17).toInt := hne; exact ((eA_c gA_sI).trans ((eA_sA_ne (i := i) hI16.1 ka_239 (by omega) (by omega) (by omega)).trans (eA_c (gA_sA_ne (by decide)))))), (by show (eA _ 238 (gI g0 231 17).toInt).toInt = _; rw [hv1]; exact congrArg Int32.toInt (((eA_c gA_sI).trans ((eA_c (gA_sA_ne (by decide))).trans (eA_sA_eq hI0.1 ka_238 (by first | rfl | omega) (by first | decide | omega) (by first | decide | omega))))))⟩⟩

def F_X11_push_231 : List (Nat × Nat) := [(231, 23)]
def A_X11_push_231 : List Nat := [240, 241]
set_option maxRecDepth 100000 in
set_option maxHeartbeats 4000000 in
theorem T_X11_push_231 (d : Nat) {N : Nat} {g0 : List en_E} (hI0 : HI g0) (a1 : Int32) (h_a1 : 0 ≤ a1.toInt ∧ a1.toInt ≤ 31) (a2 : Int32) (h_a2 : 0 ≤ a2.toInt ∧ a2.toInt ≤ 399) (h1 : (gI g0 231 23).toInt ≤ 399) : Ev (d + 1) 196 [.ref 231, .int a1, .int a2] (g0, N) (fun w h' => ∃ g', h' = (g', N) ∧ HI g' ∧ Fr F_X11_push_231 A_X11_push_231 g0 g' ∧ w = none ∧ PUSH g0 g' a1.toInt a2.toInt) := by
  have hF0 : Fr F_X11_push_231 A_X11_push_231 g0 g0 := Fr.rf
  obtain ⟨v1, hv1⟩ : ∃ v, gI g0 231 23 = v := ⟨_, rfl⟩
  have rv1 := RgF.at hI0.2.1 (p := 231) (b := 23) rfl
  rw [hv1] at rv1
  dsimp only at rv1
  have tv1 := congrArg Int32.toInt hv1
  refine Ev.mk rfl rfl ⟨Nat.le_of_ble_eq_true rfl, Or.inr (q_rc hI0.1 kx_231 rfl)⟩ ?_
  show At _ none _ _ (0, [(0, .ref 231), (1, .int a1), (2, .int a2)], [], (_, _)) _
  refine At.enter rfl ?_
  refine r_aload_n rfl ?_
  refine q_getR (Sh.ref hI0.1 kx_231 rfl) ?_
  refine r_aload_n rfl ?_
  refine q_getI (Sh.int hI0.1 kx_231 rfl) v1 hv1 ?_
  refine r_iload_n rfl ?_
  refine q_iast (Sh.arr hI0.1 ka_240) (v1.toInt) rfl (by omega) ?_
  have hI16 := HI.wA1 hI0 ka_240 (p := 240) rfl rfl (v1.toInt) (v := a1) (by dsimp only; omega)
  have hF17 := Fr.wA (p := 240) (j := v1.toInt) (v := a1) hF0 rfl
  refine r_aload_n rfl ?_
  refine q_getR (Sh.ref hI16.1 kx_231 rfl) ?_
  refine r_aload_n rfl ?_
  refine q_getI (Sh.int hI16.1 kx_231 rfl) v1 ((gI_sW).trans hv1) ?_
  refine r_iload_n rfl ?_
  refine q_iast (Sh.arr hI16.1 ka_241) (v1.toInt) rfl (by omega) ?_
  have hI18 := HI.wA1 hI16 ka_241 (p := 241) rfl rfl (v1.toInt) (v := a2) (by dsimp only; omega)
  have hF19 := Fr.wA (p := 241) (j := v1.toInt) (v := a2) hF17 rfl
  refine r_aload_n rfl ?_
  refine r_dup rfl ?_
  refine q_getI (Sh.int hI18.1 kx_231 rfl) v1 (((gI_sW).trans (gI_sW)).trans hv1) ?_
  refine r_iconst 1 rfl ?_
  refine q_iadd (v1.toInt + 1) rfl (by omega) (fun v20 hv20 => ?_)
  refine q_putI (Sh.int hI18.1 kx_231 rfl) rfl ?_
  have hI21 := HI.wI1 hI18 kx_231 rfl (p := 231) (b := 23) (v := v20) rfl (by dsimp only; omega)
  have hF22 := Fr.wI (p := 231) (b := 23) (v := v20) hF19 rfl
  refine r_vret ?_
  have x23 := HI.eqI hI21 (p := 231) (b := 23) ((gI_sI_eq hI18.1 kx_231 rfl _))
  have x24 := HI.eqI hI0 (p := 231) (b := 23) (hv1)
  exact ⟨_, rfl, hI21, hF22, rfl, ⟨by show (gI _ 231 23).toInt = (gI _ 231 23).toInt + 1; omega, (fun i i0 hne => by have hne : i ≠ (gI g0 231 23).toInt := hne; exact ((eA_c gA_sI).trans ((eA_c (gA_sA_ne (by decide))).trans (eA_sA_ne (i := i) hI0.1 ka_240 (by omega) (by omega) (by omega))))), (fun i i0 hne => by have hne : i ≠ (gI g0 231 23).toInt := hne; exact ((eA_c gA_sI).trans ((eA_sA_ne (i := i) hI16.1 ka_241 (by omega) (by omega) (by omega)).trans (eA_c (gA_sA_ne (by decide)))))), (by show (eA _ 240 (gI g0 231 23).toInt).toInt = _; rw [hv1]; exact congrArg Int32.toInt (((eA_c gA_sI).trans ((eA_c (gA_sA_ne (by decide))).trans (eA_sA_eq hI0.1 ka_240 (by first | rfl | omega) (by first | decide | omega) (by first | decide | omega)))))), (by show (eA _ 241 (gI g0 231 23).toInt).toInt = _; rw [hv1]; exact congrArg Int32.toInt (((eA_c gA_sI).trans (eA_sA_eq hI16.1 ka_241 (by first | rfl | omega) (by first | decide | omega) (by first | decide | omega)))))⟩⟩

def F_X11_settle_231 : List (Nat × Nat) := [(231, 17), (231, 23)]
def A_X11_settle_231 : List Nat := [238, 239]
theorem mf_X11_emit_231_231_23 : memF F_X11_emit_231 231 23 = false := by decide
theorem ma_X11_emit_231_240 : memA A_X11_emit_231 240 = false := by decide
theorem ma_X11_emit_231_241 : memA A_X11_emit_231 241 = false := by decide
set_option maxRecDepth 100000 in
set_option maxHeartbeats 4000000 in
theorem T_X11_settle_231 (d : Nat) {N : Nat} {g0 : List en_E} (hI0 : HI g0) (a1 : Int32) (h_a1 : 1 ≤ a1.toInt ∧ a1.toInt ≤ 6) (h1 : (gI g0 231 17).toInt + (gI g0 231 23).toInt ≤ 400) : Ev (d + 2) 198 [.ref 231, .int a1] (g0, N) (fun w h' => ∃ g', h' = (g', N) ∧ HI g' ∧ Fr F_X11_settle_231 A_X11_settle_231 g0 g' ∧ w = none ∧ (SETP g0 g' a1.toInt ∧ SETQ g0 g' a1.toInt)) := by
  have hF0 : Fr F_X11_settle_231 A_X11_settle_231 g0 g0 := Fr.rf
  obtain ⟨v1, hv1⟩ : ∃ v, gI g0 231 17 = v := ⟨_, rfl⟩
  have rv1 := RgF.at hI0.2.1 (p := 231) (b := 17) rfl
  rw [hv1] at rv1
  dsimp only at rv1
  have tv1 := congrArg Int32.toInt hv1
  obtain ⟨v2, hv2⟩ : ∃ v, gI g0 231 23 = v := ⟨_, rfl⟩
  have rv2 := RgF.at hI0.2.1 (p := 231) (b := 23) rfl
  rw [hv2] at rv2
  dsimp only at rv2
  have tv2 := congrArg Int32.toInt hv2
  refine Ev.mk rfl rfl ⟨Nat.le_of_ble_eq_true rfl, Or.inr (q_rc hI0.1 kx_231 rfl)⟩ ?_
  show At _ none _ _ (0, [(0, .ref 231), (1, .int a1)], [], (_, _)) _
  refine w_loopI (fun n_ l_ g_ => ∃ x921 : Int32, ∃ x922 : Int32, n_ = x922.toInt ∧ HI g_ ∧ Fr F_X11_settle_231 A_X11_settle_231 g0 g_ ∧ gI g_ 231 17 = x921 ∧ gI g_ 231 23 = x922 ∧ en_get 0 l_ = some (.ref 231) ∧ en_get 1 l_ = some (.int a1) ∧ (0 ≤ x921.toInt ∧ x921.toInt ≤ 400) ∧ (0 ≤ x922.toInt ∧ x922.toInt ≤ 400) ∧ (x921.toInt + x922.toInt ≤ (gI g0 231 17).toInt + (gI g0 231 23).toInt) ∧ (∀ (b : Int) (o0 a0 : Int → Int), PG g0 b 1 o0 a0 → PG g_ b 1 o0 a0) ∧ (∀ j : Int, x922.toInt ≤ j → j < (gI g0 231 23).toInt → (eA g0 240 j).toInt < 30) ∧ (x922.toInt ≤ (gI g0 231 23).toInt) ∧ (∀ j : Int, x922.toInt ≤ j → j < (gI g0 231 23).toInt → 5 ≤ a1.toInt → (eA g0 240 j).toInt ≤ 23)) ?_ (v2.toInt) ⟨v1, v2, by first | rfl | omega, hI0, hF0, hv1, hv2, rfl, rfl, by omega, by omega, by omega, (fun _ _ _ h => h), (fun j h0 h1 => absurd h1 (by omega)), by omega, (fun j h0 h1 ha => absurd h1 (by omega))⟩
  rintro n927 l926 g923 ⟨x921, x922, hm940, hI924, hF925, e929, e930, e931, e932, r933, r934, q935, q936, q937, q938, q939⟩ ih928
  have tv941 := congrArg Int32.toInt e929
  have tv942 := congrArg Int32.toInt e930
  refine At.enter rfl ?_
  refine r_aload_n e931 ?_
  refine q_getI (Sh.int hI924.1 kx_231 rfl) x922 e930 ?_
  refine r_ifs 7 rfl (fun c943 => ?_) (fun c943 => ?_)
  · have c943_ : x922.toInt ≤ 0 := en_k_le_t c943
    refine At.enter rfl ?_
    refine r_vret ?_
    have x944 := HI.eqI hI924 (p := 231) (b := 17) (e929)
    have x945 := HI.eqI hI924 (p := 231) (b := 23) (e930)
    exact ⟨_, rfl, hI924, hF925, rfl, ⟨⟨by show (gI _ 231 23).toInt ≤ (gI _ 231 23).toInt; omega, by show (gI _ 231 17).toInt + (gI _ 231 23).toInt ≤ (gI _ 231 17).toInt + (gI _ 231 23).toInt; omega, q936, (fun j h0 h1 => q937 j (by have h0 : (gI g923 231 23).toInt ≤ j := h0; omega) h1), hF925.2.1 240 (by decide), (Or.inl (by show (gI g923 231 23).toInt = 0; omega))⟩, SETQ.mk (by show 0 ≤ (gI _ 231 23).toInt; omega) (by show (gI _ 231 23).toInt ≤ (gI _ 231 23).toInt; omega) (hF925.2.1 240 (by decide)) (fun j h0 h1 => q937 j (by have h0 : (gI g923 231 23).toInt ≤ j := h0; omega) h1) (fun j h0 h1 ha => q939 j (by have h0 : (gI g923 231 23).toInt ≤ j := h0; omega) h1 ha)⟩⟩
  · have c943_ : x922.toInt > 0 := en_k_le_f c943
    refine At.enter rfl ?_
    refine r_aload_n e931 ?_
    refine q_getR (Sh.ref hI924.1 kx_231 rfl) ?_
    refine r_aload_n e931 ?_
    refine q_getI (Sh.int hI924.1 kx_231 rfl) x922 e930 ?_
    refine r_iconst 1 rfl ?_
    refine q_isub (x922.toInt - 1) rfl (by omega) (fun v946 hv946 => ?_)
    obtain ⟨v947, hv947⟩ : ∃ v, eA g0 240 (x922.toInt + (-1)) = v := ⟨_, rfl⟩
    have rv947 := RgA.at hI0.2.2.1 (Sh.arr hI0.1 ka_240).2 (p := 240) rfl (j := (x922.toInt + (-1))) (by omega)
    rw [hv947] at rv947
    dsimp only at rv947
    refine q_iald (Sh.arr hI924.1 ka_240) (x922.toInt + (-1)) (by omega) (by omega) v947 ((eA_c (hF925.2.1 240 (by decide))).trans hv947) ?_
    refine q_inlS 21 rfl [.int v947] [] (Nat.le_of_ble_eq_true rfl) rfl ?_
    refine Ev.mk rfl rfl ⟨Nat.le_of_ble_eq_true rfl, Or.inl rfl⟩ ?_
    show At _ none _ _ (0, [(0, .int v947)], [], (_, _)) _
    refine At.enter rfl ?_
    refine r_iload_n rfl ?_
    refine r_bipush 30 rfl ?_
    refine r_ics 6 rfl (fun c948 => ?_) (fun c948 => ?_)
    · have c948_ : v947.toInt < 30 := en_i_lt_t c948
      refine At.enter rfl ?_
      refine r_iload_n rfl ?_
      refine r_bipush 29 rfl ?_
      refine r_ics 16 rfl (fun c949 => ?_) (fun c949 => ?_)
      · have c949_ : v947.toInt ≠ 29 := en_i_ne_t c949
        refine At.enter rfl ?_
        refine r_iload_n rfl ?_
        refine r_bipush 28 rfl ?_
        refine r_ics 26 rfl (fun c950 => ?_) (fun c950 => ?_)
        · have c950_ : v947.toInt ≠ 28 := en_i_ne_t c950
          refine At.enter rfl ?_
          refine r_iload_n rfl ?_
          refine r_bipush 27 rfl ?_
          refine r_ics 36 rfl (fun c951 => ?_) (fun c951 => ?_)
          · have c951_ : v947.toInt ≠ 27 := en_i_ne_t c951
            refine At.enter rfl ?_
            refine r_iload_n rfl ?_
            refine r_bipush 24 rfl ?_
            refine r_ics 46 rfl (fun c952 => ?_) (fun c952 => ?_)
            · have c952_ : v947.toInt < 24 := en_i_lt_t c952
              refine At.enter rfl ?_
              refine r_iload_n rfl ?_
              refine r_bipush 22 rfl ?_
              refine r_ics 56 rfl (fun c953 => ?_) (fun c953 => ?_)
              · have c953_ : v947.toInt < 22 := en_i_lt_t c953
                refine At.enter rfl ?_
                refine r_iconst 5 rfl ?_
                refine Ar.fall 62 rfl ?_
                refine At.enter rfl ?_
                refine q_ireti ?_
                refine At.enter rfl ?_
                refine r_iload_n e932 ?_
                refine r_ics 25 rfl (fun c954 => ?_) (fun c954 => ?_)
                · have c954_ : 5 < a1.toInt := en_i_lt_t c954
                  refine At.enter rfl ?_
                  refine r_vret ?_
                  have x955 := HI.eqI hI924 (p := 231) (b := 17) (e929)
                  have x956 := HI.eqI hI924 (p := 231) (b := 23) (e930)
                  exact ⟨_, rfl, hI924, hF925, rfl, ⟨⟨by show (gI _ 231 23).toInt ≤ (gI _ 231 23).toInt; omega, by show (gI _ 231 17).toInt + (gI _ 231 23).toInt ≤ (gI _ 231 17).toInt + (gI _ 231 23).toInt; omega, q936, (fun j h0 h1 => q937 j (by have h0 : (gI g923 231 23).toInt ≤ j := h0; omega) h1), hF925.2.1 240 (by decide), (by show (gI g923 231 23).toInt = 0 ∨ ((a1.toInt = 1 → 30 ≤ (eA g0 240 ((gI g923 231 23).toInt - 1)).toInt) ∧ (a1.toInt = 5 → 24 ≤ (eA g0 240 ((gI g923 231 23).toInt - 1)).toInt)); rw [show (gI g923 231 23).toInt - 1 = (x922.toInt + (-1)) by omega, hv947]; omega)⟩, SETQ.mk (by show 0 ≤ (gI _ 231 23).toInt; omega) (by show (gI _ 231 23).toInt ≤ (gI _ 231 23).toInt; omega) (hF925.2.1 240 (by decide)) (fun j h0 h1 => q937 j (by have h0 : (gI g923 231 23).toInt ≤ j := h0; omega) h1) (fun j h0 h1 ha => q939 j (by have h0 : (gI g923 231 23).toInt ≤ j := h0; omega) h1 ha)⟩⟩
                · have c954_ : 5 ≥ a1.toInt := en_i_lt_f c954
                  refine At.enter rfl ?_
                  refine r_aload_n e931 ?_
                  refine r_dup rfl ?_
                  refine q_getI (Sh.int hI924.1 kx_231 rfl) x922 e930 ?_
                  refine r_iconst 1 rfl ?_
                  refine q_isub (x922.toInt - 1) rfl (by omega) (fun v957 hv957 => ?_)
                  refine q_putI (Sh.int hI924.1 kx_231 rfl) rfl ?_
                  have hI958 := HI.wI1 hI924 kx_231 rfl (p := 231) (b := 23) (v := v957) rfl (by dsimp only; omega)
                  have hF959 := Fr.wI (p := 231) (b := 23) (v := v957) hF925 rfl
                  refine r_aload_n e931 ?_
                  refine q_getR (Sh.ref hI958.1 kx_231 rfl) ?_
                  refine r_aload_n e931 ?_
                  refine q_getI (Sh.int hI958.1 kx_231 rfl) v957 (gI_sI_eq hI924.1 kx_231 rfl _) ?_
                  refine q_iald (Sh.arr hI958.1 ka_240) (x922.toInt + (-1)) (by omega) (by omega) v947 ((eA_c ((gA_sI).trans (hF925.2.1 240 (by decide)))).trans hv947) ?_
                  refine r_bipush 28 rfl ?_
                  refine r_ics 49 rfl (fun c960 => ?_) (fun c960 => ?_)
                  · have c960_ : v947.toInt = 28 := en_i_eq_t c960
                    exfalso; omega
                  · have c960_ : v947.toInt ≠ 28 := en_i_eq_f c960
                    refine At.enter rfl ?_
                    refine r_aload_n e931 ?_
                    refine q_getR (Sh.ref hI958.1 kx_231 rfl) ?_
                    refine r_aload_n e931 ?_
                    refine q_getI (Sh.int hI958.1 kx_231 rfl) v957 (gI_sI_eq hI924.1 kx_231 rfl _) ?_
                    refine q_iald (Sh.arr hI958.1 ka_240) (x922.toInt + (-1)) (by omega) (by omega) v947 ((eA_c ((gA_sI).trans (hF925.2.1 240 (by decide)))).trans hv947) ?_
                    refine r_bipush 29 rfl ?_
                    refine r_ics 63 rfl (fun c961 => ?_) (fun c961 => ?_)
                    · have c961_ : v947.toInt ≠ 29 := en_i_ne_t c961
                      refine At.enter rfl ?_
                      refine r_aload_n e931 ?_
                      refine r_aload_n e931 ?_
                      refine q_getR (Sh.ref hI958.1 kx_231 rfl) ?_
                      refine r_aload_n e931 ?_
                      refine q_getI (Sh.int hI958.1 kx_231 rfl) v957 (gI_sI_eq hI924.1 kx_231 rfl _) ?_
                      refine q_iald (Sh.arr hI958.1 ka_240) (x922.toInt + (-1)) (by omega) (by omega) v947 ((eA_c ((gA_sI).trans (hF925.2.1 240 (by decide)))).trans hv947) ?_
                      refine r_iconst 0 rfl ?_
                      have x962 := HI.eqI hI958 (p := 231) (b := 17) (((gI_sI_ne (by decide)).trans e929))
                      have zv963 : (0 : Int32).toInt = 0 := rfl
                      refine r_callV 98 rfl [.ref 231, .int v947, .int 0] [] (Nat.le_of_ble_eq_true rfl) rfl (T_X11_emit_231 _ hI958 v947 0 (by omega)) ?_
                      rintro _ _ ⟨g964, rfl, hI965, hF966, rfl, hr968⟩
                      refine At.stn ?_
                      have hF969 := Fr.tr hF959 hF966 rfl rfl
                      have x972 := HI.eqI hI958 (p := 231) (b := 23) ((gI_sI_eq hI924.1 kx_231 rfl _))
                      obtain ⟨v973, hv973⟩ : ∃ v, gI g964 231 17 = v := ⟨_, rfl⟩
                      have rv973 := RgF.at hI965.2.1 (p := 231) (b := 17) rfl
                      rw [hv973] at rv973
                      dsimp only at rv973
                      have tv973 := congrArg Int32.toInt hv973
                      have y975 : (gI _ 231 17).toInt = (gI _ 231 17).toInt + 1 := hr968.1
                      refine At.enter rfl ?_
                      refine r_goto ?_
                      exact ih928 (v957.toInt) _ _ ⟨v973, v957, by first | rfl | omega, hI965, hF969, hv973, ((hF966.1 231 23 mf_X11_emit_231_231_23).trans (gI_sI_eq hI924.1 kx_231 rfl _)), e931, e932, by omega, by omega, by omega, (fun b o0 a0 h => PG.settleO (q936 b o0 a0 h) ((gA_sI)) ((gA_sI)) ((gA_sI)) ((gA_sI)) ((gI_sI_ne (by decide))) (by show (gI _ 231 23).toInt = (gI _ 231 23).toInt - 1; omega) (by show 1 ≤ (gI _ 231 23).toInt; omega) hr968 (hF966.2.1 240 ma_X11_emit_231_240) (hF966.2.1 241 ma_X11_emit_231_241) (hF966.1 231 23 mf_X11_emit_231_231_23) (by show (eA g923 240 ((gI g923 231 23).toInt - 1)).toInt = _; rw [show (gI g923 231 23).toInt - 1 = (x922.toInt + (-1)) by omega, eA_c (j := (x922.toInt + (-1))) (hF925.2.1 240 (by decide)), hv947]) (by omega)), (fun j h0 h1 => (Decidable.em (j = x922.toInt - 1)).elim (fun e => by rw [e, show x922.toInt - 1 = (x922.toInt + (-1)) by omega, hv947]; omega) (fun e => q937 j (by omega) h1)), by omega, (fun j h0 h1 ha => (Decidable.em (j = x922.toInt - 1)).elim (fun e => by rw [e, show x922.toInt - 1 = (x922.toInt + (-1)) by omega, hv947]; omega) (fun e => q939 j (by omega) h1 ha))⟩ ⟨by omega, by omega⟩
                    · have c961_ : v947.toInt = 29 := en_i_ne_f c961
                      exfalso; omega
              · have c953_ : v947.toInt ≥ 22 := en_i_lt_f c953
                refine At.enter rfl ?_
                refine r_bipush 6 rfl ?_
                refine r_goto ?_
                refine At.enter rfl ?_
                refine q_ireti ?_
                refine At.enter rfl ?_
                refine r_iload_n e932 ?_
                refine r_ics 25 rfl (fun c976 => ?_) (fun c976 => ?_)
                · have c976_ : 6 < a1.toInt := en_i_lt_t c976
                  exfalso; omega
                · have c976_ : 6 ≥ a1.toInt := en_i_lt_f c976
                  refine At.enter rfl ?_
                  refine r_aload_n e931 ?_
                  refine r_dup rfl ?_
                  refine q_getI (Sh.int hI924.1 kx_231 rfl) x922 e930 ?_
                  refine r_iconst 1 rfl ?_
                  refine q_isub (x922.toInt - 1) rfl (by omega) (fun v977 hv977 => ?_)
                  refine q_putI (Sh.int hI924.1 kx_231 rfl) rfl ?_
                  have hI978 := HI.wI1 hI924 kx_231 rfl (p := 231) (b := 23) (v := v977) rfl (by dsimp only; omega)
                  have hF979 := Fr.wI (p := 231) (b := 23) (v := v977) hF925 rfl
                  refine r_aload_n e931 ?_
                  refine q_getR (Sh.ref hI978.1 kx_231 rfl) ?_
                  refine r_aload_n e931 ?_
                  refine q_getI (Sh.int hI978.1 kx_231 rfl) v977 (gI_sI_eq hI924.1 kx_231 rfl _) ?_
                  refine q_iald (Sh.arr hI978.1 ka_240) (x922.toInt + (-1)) (by omega) (by omega) v947 ((eA_c ((gA_sI).trans (hF925.2.1 240 (by decide)))).trans hv947) ?_
                  refine r_bipush 28 rfl ?_
                  refine r_ics 49 rfl (fun c980 => ?_) (fun c980 => ?_)
                  · have c980_ : v947.toInt = 28 := en_i_eq_t c980
                    exfalso; omega
                  · have c980_ : v947.toInt ≠ 28 := en_i_eq_f c980
                    refine At.enter rfl ?_
                    refine r_aload_n e931 ?_
                    refine q_getR (Sh.ref hI978.1 kx_231 rfl) ?_
                    refine r_aload_n e931 ?_
                    refine q_getI (Sh.int hI978.1 kx_231 rfl) v977 (gI_sI_eq hI924.1 kx_231 rfl _) ?_
                    refine q_iald (Sh.arr hI978.1 ka_240) (x922.toInt + (-1)) (by omega) (by omega) v947 ((eA_c ((gA_sI).trans (hF925.2.1 240 (by decide)))).trans hv947) ?_
                    refine r_bipush 29 rfl ?_
                    refine r_ics 63 rfl (fun c981 => ?_) (fun c981 => ?_)
                    · have c981_ : v947.toInt ≠ 29 := en_i_ne_t c981
                      refine At.enter rfl ?_
                      refine r_aload_n e931 ?_
                      refine r_aload_n e931 ?_
                      refine q_getR (Sh.ref hI978.1 kx_231 rfl) ?_
                      refine r_aload_n e931 ?_
                      refine q_getI (Sh.int hI978.1 kx_231 rfl) v977 (gI_sI_eq hI924.1 kx_231 rfl _) ?_
                      refine q_iald (Sh.arr hI978.1 ka_240) (x922.toInt + (-1)) (by omega) (by omega) v947 ((eA_c ((gA_sI).trans (hF925.2.1 240 (by decide)))).trans hv947) ?_
                      refine r_iconst 0 rfl ?_
                      have x982 := HI.eqI hI978 (p := 231) (b := 17) (((gI_sI_ne (by decide)).trans e929))
                      have zv983 : (0 : Int32).toInt = 0 := rfl
                      refine r_callV 98 rfl [.ref 231, .int v947, .int 0] [] (Nat.le_of_ble_eq_true rfl) rfl (T_X11_emit_231 _ hI978 v947 0 (by omega)) ?_
                      rintro _ _ ⟨g984, rfl, hI985, hF986, rfl, hr988⟩
                      refine At.stn ?_
                      have hF989 := Fr.tr hF979 hF986 rfl rfl
                      have x992 := HI.eqI hI978 (p := 231) (b := 23) ((gI_sI_eq hI924.1 kx_231 rfl _))
                      obtain ⟨v993, hv993⟩ : ∃ v, gI g984 231 17 = v := ⟨_, rfl⟩
                      have rv993 := RgF.at hI985.2.1 (p := 231) (b := 17) rfl
                      rw [hv993] at rv993
                      dsimp only at rv993
                      have tv993 := congrArg Int32.toInt hv993
                      have y995 : (gI _ 231 17).toInt = (gI _ 231 17).toInt + 1 := hr988.1
                      refine At.enter rfl ?_
                      refine r_goto ?_
                      exact ih928 (v977.toInt) _ _ ⟨v993, v977, by first | rfl | omega, hI985, hF989, hv993, ((hF986.1 231 23 mf_X11_emit_231_231_23).trans (gI_sI_eq hI924.1 kx_231 rfl _)), e931, e932, by omega, by omega, by omega, (fun b o0 a0 h => PG.settleO (q936 b o0 a0 h) ((gA_sI)) ((gA_sI)) ((gA_sI)) ((gA_sI)) ((gI_sI_ne (by decide))) (by show (gI _ 231 23).toInt = (gI _ 231 23).toInt - 1; omega) (by show 1 ≤ (gI _ 231 23).toInt; omega) hr988 (hF986.2.1 240 ma_X11_emit_231_240) (hF986.2.1 241 ma_X11_emit_231_241) (hF986.1 231 23 mf_X11_emit_231_231_23) (by show (eA g923 240 ((gI g923 231 23).toInt - 1)).toInt = _; rw [show (gI g923 231 23).toInt - 1 = (x922.toInt + (-1)) by omega, eA_c (j := (x922.toInt + (-1))) (hF925.2.1 240 (by decide)), hv947]) (by omega)), (fun j h0 h1 => (Decidable.em (j = x922.toInt - 1)).elim (fun e => by rw [e, show x922.toInt - 1 = (x922.toInt + (-1)) by omega, hv947]; omega) (fun e => q937 j (by omega) h1)), by omega, (fun j h0 h1 ha => (Decidable.em (j = x922.toInt - 1)).elim (fun e => by rw [e, show x922.toInt - 1 = (x922.toInt + (-1)) by omega, hv947]; omega) (fun e => q939 j (by omega) h1 ha))⟩ ⟨by omega, by omega⟩
                    · have c981_ : v947.toInt = 29 := en_i_ne_f c981
                      exfalso; omega
            · have c952_ : v947.toInt ≥ 24 := en_i_lt_f c952
              refine At.enter rfl ?_
              refine r_iconst 4 rfl ?_
              refine r_goto ?_
              refine At.enter rfl ?_
              refine q_ireti ?_
              refine At.enter rfl ?_
              refine r_iload_n e932 ?_
              refine r_ics 25 rfl (fun c996 => ?_) (fun c996 => ?_)
              · have c996_ : 4 < a1.toInt := en_i_lt_t c996
                refine At.enter rfl ?_
                refine r_vret ?_
                have x997 := HI.eqI hI924 (p := 231) (b := 17) (e929)
                have x998 := HI.eqI hI924 (p := 231) (b := 23) (e930)
                exact ⟨_, rfl, hI924, hF925, rfl, ⟨⟨by show (gI _ 231 23).toInt ≤ (gI _ 231 23).toInt; omega, by show (gI _ 231 17).toInt + (gI _ 231 23).toInt ≤ (gI _ 231 17).toInt + (gI _ 231 23).toInt; omega, q936, (fun j h0 h1 => q937 j (by have h0 : (gI g923 231 23).toInt ≤ j := h0; omega) h1), hF925.2.1 240 (by decide), (by show (gI g923 231 23).toInt = 0 ∨ ((a1.toInt = 1 → 30 ≤ (eA g0 240 ((gI g923 231 23).toInt - 1)).toInt) ∧ (a1.toInt = 5 → 24 ≤ (eA g0 240 ((gI g923 231 23).toInt - 1)).toInt)); rw [show (gI g923 231 23).toInt - 1 = (x922.toInt + (-1)) by omega, hv947]; omega)⟩, SETQ.mk (by show 0 ≤ (gI _ 231 23).toInt; omega) (by show (gI _ 231 23).toInt ≤ (gI _ 231 23).toInt; omega) (hF925.2.1 240 (by decide)) (fun j h0 h1 => q937 j (by have h0 : (gI g923 231 23).toInt ≤ j := h0; omega) h1) (fun j h0 h1 ha => q939 j (by have h0 : (gI g923 231 23).toInt ≤ j := h0; omega) h1 ha)⟩⟩
              · have c996_ : 4 ≥ a1.toInt := en_i_lt_f c996
                refine At.enter rfl ?_
                refine r_aload_n e931 ?_
                refine r_dup rfl ?_
                refine q_getI (Sh.int hI924.1 kx_231 rfl) x922 e930 ?_
                refine r_iconst 1 rfl ?_
                refine q_isub (x922.toInt - 1) rfl (by omega) (fun v999 hv999 => ?_)
                refine q_putI (Sh.int hI924.1 kx_231 rfl) rfl ?_
                have hI1000 := HI.wI1 hI924 kx_231 rfl (p := 231) (b := 23) (v := v999) rfl (by dsimp only; omega)
                have hF1001 := Fr.wI (p := 231) (b := 23) (v := v999) hF925 rfl
                refine r_aload_n e931 ?_
                refine q_getR (Sh.ref hI1000.1 kx_231 rfl) ?_
                refine r_aload_n e931 ?_
                refine q_getI (Sh.int hI1000.1 kx_231 rfl) v999 (gI_sI_eq hI924.1 kx_231 rfl _) ?_
                refine q_iald (Sh.arr hI1000.1 ka_240) (x922.toInt + (-1)) (by omega) (by omega) v947 ((eA_c ((gA_sI).trans (hF925.2.1 240 (by decide)))).trans hv947) ?_
                refine r_bipush 28 rfl ?_
                refine r_ics 49 rfl (fun c1002 => ?_) (fun c1002 => ?_)
                · have c1002_ : v947.toInt = 28 := en_i_eq_t c1002
                  exfalso; omega
                · have c1002_ : v947.toInt ≠ 28 := en_i_eq_f c1002
                  refine At.enter rfl ?_
                  refine r_aload_n e931 ?_
                  refine q_getR (Sh.ref hI1000.1 kx_231 rfl) ?_
                  refine r_aload_n e931 ?_
                  refine q_getI (Sh.int hI1000.1 kx_231 rfl) v999 (gI_sI_eq hI924.1 kx_231 rfl _) ?_
                  refine q_iald (Sh.arr hI1000.1 ka_240) (x922.toInt + (-1)) (by omega) (by omega) v947 ((eA_c ((gA_sI).trans (hF925.2.1 240 (by decide)))).trans hv947) ?_
                  refine r_bipush 29 rfl ?_
                  refine r_ics 63 rfl (fun c1003 => ?_) (fun c1003 => ?_)
                  · have c1003_ : v947.toInt ≠ 29 := en_i_ne_t c1003
                    refine At.enter rfl ?_
                    refine r_aload_n e931 ?_
                    refine r_aload_n e931 ?_
                    refine q_getR (Sh.ref hI1000.1 kx_231 rfl) ?_
                    refine r_aload_n e931 ?_
                    refine q_getI (Sh.int hI1000.1 kx_231 rfl) v999 (gI_sI_eq hI924.1 kx_231 rfl _) ?_
                    refine q_iald (Sh.arr hI1000.1 ka_240) (x922.toInt + (-1)) (by omega) (by omega) v947 ((eA_c ((gA_sI).trans (hF925.2.1 240 (by decide)))).trans hv947) ?_
                    refine r_iconst 0 rfl ?_
                    have x1004 := HI.eqI hI1000 (p := 231) (b := 17) (((gI_sI_ne (by decide)).trans e929))
                    have zv1005 : (0 : Int32).toInt = 0 := rfl
                    refine r_callV 98 rfl [.ref 231, .int v947, .int 0] [] (Nat.le_of_ble_eq_true rfl) rfl (T_X11_emit_231 _ hI1000 v947 0 (by omega)) ?_
                    rintro _ _ ⟨g1006, rfl, hI1007, hF1008, rfl, hr1010⟩
                    refine At.stn ?_
                    have hF1011 := Fr.tr hF1001 hF1008 rfl rfl
                    have x1014 := HI.eqI hI1000 (p := 231) (b := 23) ((gI_sI_eq hI924.1 kx_231 rfl _))
                    obtain ⟨v1015, hv1015⟩ : ∃ v, gI g1006 231 17 = v := ⟨_, rfl⟩
                    have rv1015 := RgF.at hI1007.2.1 (p := 231) (b := 17) rfl
                    rw [hv1015] at rv1015
                    dsimp only at rv1015
                    have tv1015 := congrArg Int32.toInt hv1015
                    have y1017 : (gI _ 231 17).toInt = (gI _ 231 17).toInt + 1 := hr1010.1
                    refine At.enter rfl ?_
                    refine r_goto ?_
                    exact ih928 (v999.toInt) _ _ ⟨v1015, v999, by first | rfl | omega, hI1007, hF1011, hv1015, ((hF1008.1 231 23 mf_X11_emit_231_231_23).trans (gI_sI_eq hI924.1 kx_231 rfl _)), e931, e932, by omega, by omega, by omega, (fun b o0 a0 h => PG.settleO (q936 b o0 a0 h) ((gA_sI)) ((gA_sI)) ((gA_sI)) ((gA_sI)) ((gI_sI_ne (by decide))) (by show (gI _ 231 23).toInt = (gI _ 231 23).toInt - 1; omega) (by show 1 ≤ (gI _ 231 23).toInt; omega) hr1010 (hF1008.2.1 240 ma_X11_emit_231_240) (hF1008.2.1 241 ma_X11_emit_231_241) (hF1008.1 231 23 mf_X11_emit_231_231_23) (by show (eA g923 240 ((gI g923 231 23).toInt - 1)).toInt = _; rw [show (gI g923 231 23).toInt - 1 = (x922.toInt + (-1)) by omega, eA_c (j := (x922.toInt + (-1))) (hF925.2.1 240 (by decide)), hv947]) (by omega)), (fun j h0 h1 => (Decidable.em (j = x922.toInt - 1)).elim (fun e => by rw [e, show x922.toInt - 1 = (x922.toInt + (-1)) by omega, hv947]; omega) (fun e => q937 j (by omega) h1)), by omega, (fun j h0 h1 ha => (Decidable.em (j = x922.toInt - 1)).elim (fun e => by rw [e, show x922.toInt - 1 = (x922.toInt + (-1)) by omega, hv947]; omega) (fun e => q939 j (by omega) h1 ha))⟩ ⟨by omega, by omega⟩
                  · have c1003_ : v947.toInt = 29 := en_i_ne_f c1003
                    exfalso; omega
          · have c951_ : v947.toInt = 27 := en_i_ne_f c951
            refine At.enter rfl ?_
            refine r_iconst 3 rfl ?_
            refine r_goto ?_
            refine At.enter rfl ?_
            refine q_ireti ?_
            refine At.enter rfl ?_
            refine r_iload_n e932 ?_
            refine r_ics 25 rfl (fun c1018 => ?_) (fun c1018 => ?_)
            · have c1018_ : 3 < a1.toInt := en_i_lt_t c1018
              refine At.enter rfl ?_
              refine r_vret ?_
              have x1019 := HI.eqI hI924 (p := 231) (b := 17) (e929)
              have x1020 := HI.eqI hI924 (p := 231) (b := 23) (e930)
              exact ⟨_, rfl, hI924, hF925, rfl, ⟨⟨by show (gI _ 231 23).toInt ≤ (gI _ 231 23).toInt; omega, by show (gI _ 231 17).toInt + (gI _ 231 23).toInt ≤ (gI _ 231 17).toInt + (gI _ 231 23).toInt; omega, q936, (fun j h0 h1 => q937 j (by have h0 : (gI g923 231 23).toInt ≤ j := h0; omega) h1), hF925.2.1 240 (by decide), (by show (gI g923 231 23).toInt = 0 ∨ ((a1.toInt = 1 → 30 ≤ (eA g0 240 ((gI g923 231 23).toInt - 1)).toInt) ∧ (a1.toInt = 5 → 24 ≤ (eA g0 240 ((gI g923 231 23).toInt - 1)).toInt)); rw [show (gI g923 231 23).toInt - 1 = (x922.toInt + (-1)) by omega, hv947]; omega)⟩, SETQ.mk (by show 0 ≤ (gI _ 231 23).toInt; omega) (by show (gI _ 231 23).toInt ≤ (gI _ 231 23).toInt; omega) (hF925.2.1 240 (by decide)) (fun j h0 h1 => q937 j (by have h0 : (gI g923 231 23).toInt ≤ j := h0; omega) h1) (fun j h0 h1 ha => q939 j (by have h0 : (gI g923 231 23).toInt ≤ j := h0; omega) h1 ha)⟩⟩
            · have c1018_ : 3 ≥ a1.toInt := en_i_lt_f c1018
              refine At.enter rfl ?_
              refine r_aload_n e931 ?_
              refine r_dup rfl ?_
              refine q_getI (Sh.int hI924.1 kx_231 rfl) x922 e930 ?_
              refine r_iconst 1 rfl ?_
              refine q_isub (x922.toInt - 1) rfl (by omega) (fun v1021 hv1021 => ?_)
              refine q_putI (Sh.int hI924.1 kx_231 rfl) rfl ?_
              have hI1022 := HI.wI1 hI924 kx_231 rfl (p := 231) (b := 23) (v := v1021) rfl (by dsimp only; omega)
              have hF1023 := Fr.wI (p := 231) (b := 23) (v := v1021) hF925 rfl
              refine r_aload_n e931 ?_
              refine q_getR (Sh.ref hI1022.1 kx_231 rfl) ?_
              refine r_aload_n e931 ?_
              refine q_getI (Sh.int hI1022.1 kx_231 rfl) v1021 (gI_sI_eq hI924.1 kx_231 rfl _) ?_
              refine q_iald (Sh.arr hI1022.1 ka_240) (x922.toInt + (-1)) (by omega) (by omega) v947 ((eA_c ((gA_sI).trans (hF925.2.1 240 (by decide)))).trans hv947) ?_
              refine r_bipush 28 rfl ?_
              refine r_ics 49 rfl (fun c1024 => ?_) (fun c1024 => ?_)
              · have c1024_ : v947.toInt = 28 := en_i_eq_t c1024
                exfalso; omega
              · have c1024_ : v947.toInt ≠ 28 := en_i_eq_f c1024
                refine At.enter rfl ?_
                refine r_aload_n e931 ?_
                refine q_getR (Sh.ref hI1022.1 kx_231 rfl) ?_
                refine r_aload_n e931 ?_
                refine q_getI (Sh.int hI1022.1 kx_231 rfl) v1021 (gI_sI_eq hI924.1 kx_231 rfl _) ?_
                refine q_iald (Sh.arr hI1022.1 ka_240) (x922.toInt + (-1)) (by omega) (by omega) v947 ((eA_c ((gA_sI).trans (hF925.2.1 240 (by decide)))).trans hv947) ?_
                refine r_bipush 29 rfl ?_
                refine r_ics 63 rfl (fun c1025 => ?_) (fun c1025 => ?_)
                · have c1025_ : v947.toInt ≠ 29 := en_i_ne_t c1025
                  refine At.enter rfl ?_
                  refine r_aload_n e931 ?_
                  refine r_aload_n e931 ?_
                  refine q_getR (Sh.ref hI1022.1 kx_231 rfl) ?_
                  refine r_aload_n e931 ?_
                  refine q_getI (Sh.int hI1022.1 kx_231 rfl) v1021 (gI_sI_eq hI924.1 kx_231 rfl _) ?_
                  refine q_iald (Sh.arr hI1022.1 ka_240) (x922.toInt + (-1)) (by omega) (by omega) v947 ((eA_c ((gA_sI).trans (hF925.2.1 240 (by decide)))).trans hv947) ?_
                  refine r_iconst 0 rfl ?_
                  have x1026 := HI.eqI hI1022 (p := 231) (b := 17) (((gI_sI_ne (by decide)).trans e929))
                  have zv1027 : (0 : Int32).toInt = 0 := rfl
                  refine r_callV 98 rfl [.ref 231, .int v947, .int 0] [] (Nat.le_of_ble_eq_true rfl) rfl (T_X11_emit_231 _ hI1022 v947 0 (by omega)) ?_
                  rintro _ _ ⟨g1028, rfl, hI1029, hF1030, rfl, hr1032⟩
                  refine At.stn ?_
                  have hF1033 := Fr.tr hF1023 hF1030 rfl rfl
                  have x1036 := HI.eqI hI1022 (p := 231) (b := 23) ((gI_sI_eq hI924.1 kx_231 rfl _))
                  obtain ⟨v1037, hv1037⟩ : ∃ v, gI g1028 231 17 = v := ⟨_, rfl⟩
                  have rv1037 := RgF.at hI1029.2.1 (p := 231) (b := 17) rfl
                  rw [hv1037] at rv1037
                  dsimp only at rv1037
                  have tv1037 := congrArg Int32.toInt hv1037
                  have y1039 : (gI _ 231 17).toInt = (gI _ 231 17).toInt + 1 := hr1032.1
                  refine At.enter rfl ?_
                  refine r_goto ?_
                  exact ih928 (v1021.toInt) _ _ ⟨v1037, v1021, by first | rfl | omega, hI1029, hF1033, hv1037, ((hF1030.1 231 23 mf_X11_emit_231_231_23).trans (gI_sI_eq hI924.1 kx_231 rfl _)), e931, e932, by omega, by omega, by omega, (fun b o0 a0 h => PG.settleO (q936 b o0 a0 h) ((gA_sI)) ((gA_sI)) ((gA_sI)) ((gA_sI)) ((gI_sI_ne (by decide))) (by show (gI _ 231 23).toInt = (gI _ 231 23).toInt - 1; omega) (by show 1 ≤ (gI _ 231 23).toInt; omega) hr1032 (hF1030.2.1 240 ma_X11_emit_231_240) (hF1030.2.1 241 ma_X11_emit_231_241) (hF1030.1 231 23 mf_X11_emit_231_231_23) (by show (eA g923 240 ((gI g923 231 23).toInt - 1)).toInt = _; rw [show (gI g923 231 23).toInt - 1 = (x922.toInt + (-1)) by omega, eA_c (j := (x922.toInt + (-1))) (hF925.2.1 240 (by decide)), hv947]) (by omega)), (fun j h0 h1 => (Decidable.em (j = x922.toInt - 1)).elim (fun e => by rw [e, show x922.toInt - 1 = (x922.toInt + (-1)) by omega, hv947]; omega) (fun e => q937 j (by omega) h1)), by omega, (fun j h0 h1 ha => (Decidable.em (j = x922.toInt - 1)).elim (fun e => by rw [e, show x922.toInt - 1 = (x922.toInt + (-1)) by omega, hv947]; omega) (fun e => q939 j (by omega) h1 ha))⟩ ⟨by omega, by omega⟩
                · have c1025_ : v947.toInt = 29 := en_i_ne_f c1025
                  exfalso; omega
        · have c950_ : v947.toInt = 28 := en_i_ne_f c950
          refine At.enter rfl ?_
          refine r_iconst 2 rfl ?_
          refine r_goto ?_
          refine At.enter rfl ?_
          refine q_ireti ?_
          refine At.enter rfl ?_
          refine r_iload_n e932 ?_
          refine r_ics 25 rfl (fun c1040 => ?_) (fun c1040 => ?_)
          · have c1040_ : 2 < a1.toInt := en_i_lt_t c1040
            refine At.enter rfl ?_
            refine r_vret ?_
            have x1041 := HI.eqI hI924 (p := 231) (b := 17) (e929)
            have x1042 := HI.eqI hI924 (p := 231) (b := 23) (e930)
            exact ⟨_, rfl, hI924, hF925, rfl, ⟨⟨by show (gI _ 231 23).toInt ≤ (gI _ 231 23).toInt; omega, by show (gI _ 231 17).toInt + (gI _ 231 23).toInt ≤ (gI _ 231 17).toInt + (gI _ 231 23).toInt; omega, q936, (fun j h0 h1 => q937 j (by have h0 : (gI g923 231 23).toInt ≤ j := h0; omega) h1), hF925.2.1 240 (by decide), (by show (gI g923 231 23).toInt = 0 ∨ ((a1.toInt = 1 → 30 ≤ (eA g0 240 ((gI g923 231 23).toInt - 1)).toInt) ∧ (a1.toInt = 5 → 24 ≤ (eA g0 240 ((gI g923 231 23).toInt - 1)).toInt)); rw [show (gI g923 231 23).toInt - 1 = (x922.toInt + (-1)) by omega, hv947]; omega)⟩, SETQ.mk (by show 0 ≤ (gI _ 231 23).toInt; omega) (by show (gI _ 231 23).toInt ≤ (gI _ 231 23).toInt; omega) (hF925.2.1 240 (by decide)) (fun j h0 h1 => q937 j (by have h0 : (gI g923 231 23).toInt ≤ j := h0; omega) h1) (fun j h0 h1 ha => q939 j (by have h0 : (gI g923 231 23).toInt ≤ j := h0; omega) h1 ha)⟩⟩
          · have c1040_ : 2 ≥ a1.toInt := en_i_lt_f c1040
            refine At.enter rfl ?_
            refine r_aload_n e931 ?_
            refine r_dup rfl ?_
            refine q_getI (Sh.int hI924.1 kx_231 rfl) x922 e930 ?_
            refine r_iconst 1 rfl ?_
            refine q_isub (x922.toInt - 1) rfl (by omega) (fun v1043 hv1043 => ?_)
            refine q_putI (Sh.int hI924.1 kx_231 rfl) rfl ?_
            have hI1044 := HI.wI1 hI924 kx_231 rfl (p := 231) (b := 23) (v := v1043) rfl (by dsimp only; omega)
            have hF1045 := Fr.wI (p := 231) (b := 23) (v := v1043) hF925 rfl
            refine r_aload_n e931 ?_
            refine q_getR (Sh.ref hI1044.1 kx_231 rfl) ?_
            refine r_aload_n e931 ?_
            refine q_getI (Sh.int hI1044.1 kx_231 rfl) v1043 (gI_sI_eq hI924.1 kx_231 rfl _) ?_
            refine q_iald (Sh.arr hI1044.1 ka_240) (x922.toInt + (-1)) (by omega) (by omega) v947 ((eA_c ((gA_sI).trans (hF925.2.1 240 (by decide)))).trans hv947) ?_
            refine r_bipush 28 rfl ?_
            refine r_ics 49 rfl (fun c1046 => ?_) (fun c1046 => ?_)
            · have c1046_ : v947.toInt = 28 := en_i_eq_t c1046
              refine At.enter rfl ?_
              refine r_aload_n e931 ?_
              refine q_getR (Sh.ref hI1044.1 kx_231 rfl) ?_
              refine r_aload_n e931 ?_
              refine q_getR (Sh.ref hI1044.1 kx_231 rfl) ?_
              refine r_aload_n e931 ?_
              refine q_getI (Sh.int hI1044.1 kx_231 rfl) v1043 (gI_sI_eq hI924.1 kx_231 rfl _) ?_
              obtain ⟨v1047, hv1047⟩ : ∃ v, eA g0 241 (x922.toInt + (-1)) = v := ⟨_, rfl⟩
              have rv1047 := RgA.at hI0.2.2.1 (Sh.arr hI0.1 ka_241).2 (p := 241) rfl (j := (x922.toInt + (-1))) (by omega)
              rw [hv1047] at rv1047
              dsimp only at rv1047
              refine q_iald (Sh.arr hI1044.1 ka_241) (x922.toInt + (-1)) (by omega) (by omega) v1047 ((eA_c ((gA_sI).trans (hF925.2.1 241 (by decide)))).trans hv1047) ?_
              refine r_aload_n e931 ?_
              refine q_getI (Sh.int hI1044.1 kx_231 rfl) x921 ((gI_sI_ne (by decide)).trans e929) ?_
              refine q_iast (Sh.arr hI1044.1 ka_239) (v1047.toInt) rfl (by omega) ?_
              have hI1048 := HI.wA0 hI1044 ka_239 (p := 239) rfl rfl (v1047.toInt) (x921)
              have hF1049 := Fr.wA (p := 239) (j := v1047.toInt) (v := x921) hF1045 rfl
              refine r_goto ?_
              exact ih928 (v1043.toInt) _ _ ⟨x921, v1043, by first | rfl | omega, hI1048, hF1049, (((gI_sW).trans (gI_sI_ne (by decide))).trans e929), ((gI_sW).trans (gI_sI_eq hI924.1 kx_231 rfl _)), e931, e932, by omega, by omega, by omega, (fun b o0 a0 h => PG.settleJ (q936 b o0 a0 h) (((gA_sA_ne (by decide)).trans (gA_sI))) (((gA_sA_ne (by decide)).trans (gA_sI))) (((gA_sA_ne (by decide)).trans (gA_sI))) (((gI_sW).trans (gI_sI_ne (by decide)))) (by have jf := HI.eqI hI1048 (p := 231) (b := 23) (((gI_sW).trans (gI_sI_eq hI924.1 kx_231 rfl _))); show (gI _ 231 23).toInt = (gI _ 231 23).toInt - 1; omega) (by show 1 ≤ (gI _ 231 23).toInt; omega) (by show 28 ≤ (eA g923 240 ((gI g923 231 23).toInt - 1)).toInt ∧ (eA g923 240 ((gI g923 231 23).toInt - 1)).toInt ≤ 29; rw [show (gI g923 231 23).toInt - 1 = (x922.toInt + (-1)) by omega, eA_c (j := (x922.toInt + (-1))) (hF925.2.1 240 (by decide)), hv947]; omega) (by show (eA _ 239 (eA g923 241 ((gI g923 231 23).toInt - 1)).toInt).toInt = (gI g923 231 17).toInt; rw [show (gI g923 231 23).toInt - 1 = (x922.toInt + (-1)) by omega, eA_c (j := (x922.toInt + (-1))) (hF925.2.1 241 (by decide)), hv1047, show eA _ 239 v1047.toInt = _ from (eA_sA_eq hI1044.1 ka_239 (by first | rfl | omega) (by first | decide | omega) (by first | decide | omega))]; omega) (fun i i0 hne => by have hne : i ≠ (eA g923 241 ((gI g923 231 23).toInt - 1)).toInt := hne; rw [show (gI g923 231 23).toInt - 1 = (x922.toInt + (-1)) by omega, eA_c (j := (x922.toInt + (-1))) (hF925.2.1 241 (by decide)), hv1047] at hne; exact ((eA_sA_ne (i := i) hI1044.1 ka_239 (by omega) (by omega) (by omega)).trans (eA_c gA_sI)))), (fun j h0 h1 => (Decidable.em (j = x922.toInt - 1)).elim (fun e => by rw [e, show x922.toInt - 1 = (x922.toInt + (-1)) by omega, hv947]; omega) (fun e => q937 j (by omega) h1)), by omega, (fun j h0 h1 ha => (Decidable.em (j = x922.toInt - 1)).elim (fun e => by rw [e, show x922.toInt - 1 = (x922.toInt + (-1)) by omega, hv947]; omega) (fun e => q939 j (by omega) h1 ha))⟩ ⟨by omega, by omega⟩
            · have c1046_ : v947.toInt ≠ 28 := en_i_eq_f c1046
              exfalso; omega
      · have c949_ : v947.toInt = 29 := en_i_ne_f c949
        refine At.enter rfl ?_
        refine r_iconst 1 rfl ?_
        refine r_goto ?_
        refine At.enter rfl ?_
        refine q_ireti ?_
        refine At.enter rfl ?_
        refine r_iload_n e932 ?_
        refine r_ics 25 rfl (fun c1050 => ?_) (fun c1050 => ?_)
        · have c1050_ : 1 < a1.toInt := en_i_lt_t c1050
          refine At.enter rfl ?_
          refine r_vret ?_
          have x1051 := HI.eqI hI924 (p := 231) (b := 17) (e929)
          have x1052 := HI.eqI hI924 (p := 231) (b := 23) (e930)
          exact ⟨_, rfl, hI924, hF925, rfl, ⟨⟨by show (gI _ 231 23).toInt ≤ (gI _ 231 23).toInt; omega, by show (gI _ 231 17).toInt + (gI _ 231 23).toInt ≤ (gI _ 231 17).toInt + (gI _ 231 23).toInt; omega, q936, (fun j h0 h1 => q937 j (by have h0 : (gI g923 231 23).toInt ≤ j := h0; omega) h1), hF925.2.1 240 (by decide), (by show (gI g923 231 23).toInt = 0 ∨ ((a1.toInt = 1 → 30 ≤ (eA g0 240 ((gI g923 231 23).toInt - 1)).toInt) ∧ (a1.toInt = 5 → 24 ≤ (eA g0 240 ((gI g923 231 23).toInt - 1)).toInt)); rw [show (gI g923 231 23).toInt - 1 = (x922.toInt + (-1)) by omega, hv947]; omega)⟩, SETQ.mk (by show 0 ≤ (gI _ 231 23).toInt; omega) (by show (gI _ 231 23).toInt ≤ (gI _ 231 23).toInt; omega) (hF925.2.1 240 (by decide)) (fun j h0 h1 => q937 j (by have h0 : (gI g923 231 23).toInt ≤ j := h0; omega) h1) (fun j h0 h1 ha => q939 j (by have h0 : (gI g923 231 23).toInt ≤ j := h0; omega) h1 ha)⟩⟩
        · have c1050_ : 1 ≥ a1.toInt := en_i_lt_f c1050
          refine At.enter rfl ?_
          refine r_aload_n e931 ?_
          refine r_dup rfl ?_
          refine q_getI (Sh.int hI924.1 kx_231 rfl) x922 e930 ?_
          refine r_iconst 1 rfl ?_
          refine q_isub (x922.toInt - 1) rfl (by omega) (fun v1053 hv1053 => ?_)
          refine q_putI (Sh.int hI924.1 kx_231 rfl) rfl ?_
          have hI1054 := HI.wI1 hI924 kx_231 rfl (p := 231) (b := 23) (v := v1053) rfl (by dsimp only; omega)
          have hF1055 := Fr.wI (p := 231) (b := 23) (v := v1053) hF925 rfl
          refine r_aload_n e931 ?_
          refine q_getR (Sh.ref hI1054.1 kx_231 rfl) ?_
          refine r_aload_n e931 ?_
          refine q_getI (Sh.int hI1054.1 kx_231 rfl) v1053 (gI_sI_eq hI924.1 kx_231 rfl _) ?_
          refine q_iald (Sh.arr hI1054.1 ka_240) (x922.toInt + (-1)) (by omega) (by omega) v947 ((eA_c ((gA_sI).trans (hF925.2.1 240 (by decide)))).trans hv947) ?_
          refine r_bipush 28 rfl ?_
          refine r_ics 49 rfl (fun c1056 => ?_) (fun c1056 => ?_)
          · have c1056_ : v947.toInt = 28 := en_i_eq_t c1056
            exfalso; omega
          · have c1056_ : v947.toInt ≠ 28 := en_i_eq_f c1056
            refine At.enter rfl ?_
            refine r_aload_n e931 ?_
            refine q_getR (Sh.ref hI1054.1 kx_231 rfl) ?_
            refine r_aload_n e931 ?_
            refine q_getI (Sh.int hI1054.1 kx_231 rfl) v1053 (gI_sI_eq hI924.1 kx_231 rfl _) ?_
            refine q_iald (Sh.arr hI1054.1 ka_240) (x922.toInt + (-1)) (by omega) (by omega) v947 ((eA_c ((gA_sI).trans (hF925.2.1 240 (by decide)))).trans hv947) ?_
            refine r_bipush 29 rfl ?_
            refine r_ics 63 rfl (fun c1057 => ?_) (fun c1057 => ?_)
            · have c1057_ : v947.toInt ≠ 29 := en_i_ne_t c1057
              exfalso; omega
            · have c1057_ : v947.toInt = 29 := en_i_ne_f c1057
              refine At.enter rfl ?_
              refine r_aload_n e931 ?_
              refine q_getR (Sh.ref hI1054.1 kx_231 rfl) ?_
              refine r_aload_n e931 ?_
              refine q_getR (Sh.ref hI1054.1 kx_231 rfl) ?_
              refine r_aload_n e931 ?_
              refine q_getI (Sh.int hI1054.1 kx_231 rfl) v1053 (gI_sI_eq hI924.1 kx_231 rfl _) ?_
              obtain ⟨v1058, hv1058⟩ : ∃ v, eA g0 241 (x922.toInt + (-1)) = v := ⟨_, rfl⟩
              have rv1058 := RgA.at hI0.2.2.1 (Sh.arr hI0.1 ka_241).2 (p := 241) rfl (j := (x922.toInt + (-1))) (by omega)
              rw [hv1058] at rv1058
              dsimp only at rv1058
              refine q_iald (Sh.arr hI1054.1 ka_241) (x922.toInt + (-1)) (by omega) (by omega) v1058 ((eA_c ((gA_sI).trans (hF925.2.1 241 (by decide)))).trans hv1058) ?_
              refine r_aload_n e931 ?_
              refine q_getI (Sh.int hI1054.1 kx_231 rfl) x921 ((gI_sI_ne (by decide)).trans e929) ?_
              refine q_iast (Sh.arr hI1054.1 ka_239) (v1058.toInt) rfl (by omega) ?_
              have hI1059 := HI.wA0 hI1054 ka_239 (p := 239) rfl rfl (v1058.toInt) (x921)
              have hF1060 := Fr.wA (p := 239) (j := v1058.toInt) (v := x921) hF1055 rfl
              refine r_goto ?_
              exact ih928 (v1053.toInt) _ _ ⟨x921, v1053, by first | rfl | omega, hI1059, hF1060, (((gI_sW).trans (gI_sI_ne (by decide))).trans e929), ((gI_sW).trans (gI_sI_eq hI924.1 kx_231 rfl _)), e931, e932, by omega, by omega, by omega, (fun b o0 a0 h => PG.settleJ (q936 b o0 a0 h) (((gA_sA_ne (by decide)).trans (gA_sI))) (((gA_sA_ne (by decide)).trans (gA_sI))) (((gA_sA_ne (by decide)).trans (gA_sI))) (((gI_sW).trans (gI_sI_ne (by decide)))) (by have jf := HI.eqI hI1059 (p := 231) (b := 23) (((gI_sW).trans (gI_sI_eq hI924.1 kx_231 rfl _))); show (gI _ 231 23).toInt = (gI _ 231 23).toInt - 1; omega) (by show 1 ≤ (gI _ 231 23).toInt; omega) (by show 28 ≤ (eA g923 240 ((gI g923 231 23).toInt - 1)).toInt ∧ (eA g923 240 ((gI g923 231 23).toInt - 1)).toInt ≤ 29; rw [show (gI g923 231 23).toInt - 1 = (x922.toInt + (-1)) by omega, eA_c (j := (x922.toInt + (-1))) (hF925.2.1 240 (by decide)), hv947]; omega) (by show (eA _ 239 (eA g923 241 ((gI g923 231 23).toInt - 1)).toInt).toInt = (gI g923 231 17).toInt; rw [show (gI g923 231 23).toInt - 1 = (x922.toInt + (-1)) by omega, eA_c (j := (x922.toInt + (-1))) (hF925.2.1 241 (by decide)), hv1058, show eA _ 239 v1058.toInt = _ from (eA_sA_eq hI1054.1 ka_239 (by first | rfl | omega) (by first | decide | omega) (by first | decide | omega))]; omega) (fun i i0 hne => by have hne : i ≠ (eA g923 241 ((gI g923 231 23).toInt - 1)).toInt := hne; rw [show (gI g923 231 23).toInt - 1 = (x922.toInt + (-1)) by omega, eA_c (j := (x922.toInt + (-1))) (hF925.2.1 241 (by decide)), hv1058] at hne; exact ((eA_sA_ne (i := i) hI1054.1 ka_239 (by omega) (by omega) (by omega)).trans (eA_c gA_sI)))), (fun j h0 h1 => (Decidable.em (j = x922.toInt - 1)).elim (fun e => by rw [e, show x922.toInt - 1 = (x922.toInt + (-1)) by omega, hv947]; omega) (fun e => q937 j (by omega) h1)), by omega, (fun j h0 h1 ha => (Decidable.em (j = x922.toInt - 1)).elim (fun e => by rw [e, show x922.toInt - 1 = (x922.toInt + (-1)) by omega, hv947]; omega) (fun e => q939 j (by omega) h1 ha))⟩ ⟨by omega, by omega⟩
    · have c948_ : v947.toInt ≥ 30 := en_i_lt_f c948
      refine At.enter rfl ?_
      refine r_iconst 0 rfl ?_
      refine r_goto ?_
      refine At.enter rfl ?_
      refine q_ireti ?_
      refine At.enter rfl ?_
      refine r_iload_n e932 ?_
      refine r_ics 25 rfl (fun c1061 => ?_) (fun c1061 => ?_)
      · have c1061_ : 0 < a1.toInt := en_i_lt_t c1061
        refine At.enter rfl ?_
        refine r_vret ?_
        have x1062 := HI.eqI hI924 (p := 231) (b := 17) (e929)
        have x1063 := HI.eqI hI924 (p := 231) (b := 23) (e930)
        exact ⟨_, rfl, hI924, hF925, rfl, ⟨⟨by show (gI _ 231 23).toInt ≤ (gI _ 231 23).toInt; omega, by show (gI _ 231 17).toInt + (gI _ 231 23).toInt ≤ (gI _ 231 17).toInt + (gI _ 231 23).toInt; omega, q936, (fun j h0 h1 => q937 j (by have h0 : (gI g923 231 23).toInt ≤ j := h0; omega) h1), hF925.2.1 240 (by decide), (by show (gI g923 231 23).toInt = 0 ∨ ((a1.toInt = 1 → 30 ≤ (eA g0 240 ((gI g923 231 23).toInt - 1)).toInt) ∧ (a1.toInt = 5 → 24 ≤ (eA g0 240 ((gI g923 231 23).toInt - 1)).toInt)); rw [show (gI g923 231 23).toInt - 1 = (x922.toInt + (-1)) by omega, hv947]; omega)⟩, SETQ.mk (by show 0 ≤ (gI _ 231 23).toInt; omega) (by show (gI _ 231 23).toInt ≤ (gI _ 231 23).toInt; omega) (hF925.2.1 240 (by decide)) (fun j h0 h1 => q937 j (by have h0 : (gI g923 231 23).toInt ≤ j := h0; omega) h1) (fun j h0 h1 ha => q939 j (by have h0 : (gI g923 231 23).toInt ≤ j := h0; omega) h1 ha)⟩⟩
      · have c1061_ : 0 ≥ a1.toInt := en_i_lt_f c1061
        exfalso; omega
