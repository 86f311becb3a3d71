def F_X11_push_231 : List (Nat × Nat) := [(231, 23)]
def A_X11_push_231 : List Nat := [240, 241]
set_option maxRecDepth 100000 in
set_option maxHeartbeats 4000000 in
theorem T_X11_push_231 (d : Nat) {N : Nat} {g0 : List en_E} (hI0 : HI g0) (a1 : Int32) (h_a1 : 0 ≤ a1.toInt ∧ a1.toInt ≤ 31) (a2 : Int32) (h_a2 : 0 ≤ a2.toInt ∧ a2.toInt ≤ 399) (h1 : (gI g0 231 23).toInt ≤ 399) : Ev (d + 1) 196 [.ref 231, .int a1, .int a2] (g0, N) (fun w h' => ∃ g', h' = (g', N) ∧ HI g' ∧ Fr F_X11_push_231 A_X11_push_231 g0 g' ∧ w = none ∧ PUSH g0 g' a1.toInt a2.toInt) := by
  have hF0 : Fr F_X11_push_231 A_X11_push_231 g0 g0 := Fr.rf
  obtain ⟨v1, hv1⟩ : ∃ v, gI g0 231 23 = v := ⟨_, rfl⟩
  have rv1 := RgF.at hI0.2.1 (p := 231) (b := 23) rfl
  rw [hv1] at rv1
  dsimp only at rv1
  have tv1 := congrArg Int32.toInt hv1
  refine Ev.mk rfl rfl ⟨Nat.le_of_ble_eq_true rfl, Or.inr (q_rc hI0.1 kx_231 rfl)⟩ ?_
  show At _ none _ _ (0, [(0, .ref 231), (1, .int a1), (2, .int a2)], [], (_, _)) _
  refine At.enter rfl ?_
  refine r_aload_n rfl ?_
  refine q_getR (Sh.ref hI0.1 kx_231 rfl) ?_
  refine r_aload_n rfl ?_
  refine q_getI (Sh.int hI0.1 kx_231 rfl) v1 hv1 ?_
  refine r_iload_n rfl ?_
  refine q_iast (Sh.arr hI0.1 ka_240) (v1.toInt) rfl (by omega) ?_
  have hI16 := HI.wA1 hI0 ka_240 (p := 240) rfl rfl (v1.toInt) (v := a1) (by dsimp only; omega)
  have hF17 := Fr.wA (p := 240) (j := v1.toInt) (v := a1) hF0 rfl
  refine r_aload_n rfl ?_
  refine q_getR (Sh.ref hI16.1 kx_231 rfl) ?_
  refine r_aload_n rfl ?_
  refine q_getI (Sh.int hI16.1 kx_231 rfl) v1 ((gI_sW).trans hv1) ?_
  refine r_iload_n rfl ?_
  refine q_iast (Sh.arr hI16.1 ka_241) (v1.toInt) rfl (by omega) ?_
  have hI18 := HI.wA1 hI16 ka_241 (p := 241) rfl rfl (v1.toInt) (v := a2) (by dsimp only; omega)
  have hF19 := Fr.wA (p := 241) (j := v1.toInt) (v := a2) hF17 rfl
  refine r_aload_n rfl ?_
  refine r_dup rfl ?_
  refine q_getI (Sh.int hI18.1 kx_231 rfl) v1 (((gI_sW).trans (gI_sW)).trans hv1) ?_
  refine r_iconst 1 rfl ?_
  refine q_iadd (v1.toInt + 1) rfl (by omega) (fun v20 hv20 => ?_)
  refine q_putI (Sh.int hI18.1 kx_231 rfl) rfl ?_
  have hI21 := HI.wI1 hI18 kx_231 rfl (p := 231) (b := 23) (v := v20) rfl (by dsimp only; omega)
  have hF22 := Fr.wI (p := 231) (b := 23) (v := v20) hF19 rfl
  refine r_vret ?_
  have x23 := HI.eqI hI21 (p := 231) (b := 23) ((gI_sI_eq hI18.1 kx_231 rfl _))
  have x24 := HI.eqI hI0 (p := 231) (b := 23) (hv1)
  exact ⟨_, rfl, hI21, hF22, rfl, ⟨by show (gI _ 231 23).toInt = (gI _ 231 23).toInt + 1; omega, (fun i i0 hne => by have hne : i ≠ (gI g0 231 23).toInt := hne; exact ((eA_c gA_sI).trans ((eA_c (gA_sA_ne (by decide))).trans (eA_sA_ne (i := i) hI0.1 ka_240 (by omega) (by omega) (by omega))))), (fun i i0 hne => by have hne : i ≠ (gI g0 231 23).toInt := hne; exact ((eA_c gA_sI).trans ((eA_sA_ne (i := i) hI16.1 ka_241 (by omega) (by omega) (by omega)).trans (eA_c (gA_sA_ne (by decide)))))), (by show (eA _ 240 (gI g0 231 23).toInt).toInt = _; rw [hv1]; exact congrArg Int32.toInt (((eA_c gA_sI).trans ((eA_c (gA_sA_ne (by decide))).trans (eA_sA_eq hI0.1 ka_240 (by first | rfl | omega) (by first | decide | omega) (by first | decide | omega)))))), (by show (eA _ 241 (gI g0 231 23).toInt).toInt = _; rw [hv1]; exact congrArg Int32.toInt (((eA_c gA_sI).trans (eA_sA_eq hI16.1 ka_241 (by first | rfl | omega) (by first | decide | omega) (by first | decide | omega)))))⟩⟩

def F_X11_settle_231 : List (Nat × Nat) := [(231, 17), (231, 23)]
def A_X11_settle_231 : List Nat := [238, 239]
set_option maxRecDepth 100000 in
set_option maxHeartbeats 4000000 in
theorem T_X11_settle_231 (d : Nat) {N : Nat} {g0 : List en_E} (hI0 : HI g0) (a1 : Int32) (h_a1 : 1 ≤ a1.toInt ∧ a1.toInt ≤ 6) (h1 : (gI g0 231 17).toInt + (gI g0 231 23).toInt ≤ 400) : Ev (d + 2) 198 [.ref 231, .int a1] (g0, N) (fun w h' => ∃ g', h' = (g', N) ∧ HI g' ∧ Fr F_X11_settle_231 A_X11_settle_231 g0 g' ∧ w = none ∧ SETP g0 g' a1.toInt) := by
  have hF0 : Fr F_X11_settle_231 A_X11_settle_231 g0 g0 := Fr.rf
  obtain ⟨v1, hv1⟩ : ∃ v, gI g0 231 17 = v := ⟨_, rfl⟩
  have rv1 := RgF.at hI0.2.1 (p := 231) (b := 17) rfl
  rw [hv1] at rv1
  dsimp only at rv1
  have tv1 := congrArg Int32.toInt hv1
  obtain ⟨v2, hv2⟩ : ∃ v, gI g0 231 23 = v := ⟨_, rfl⟩
  have rv2 := RgF.at hI0.2.1 (p := 231) (b := 23) rfl
  rw [hv2] at rv2
  dsimp only at rv2
  have tv2 := congrArg Int32.toInt hv2
  refine Ev.mk rfl rfl ⟨Nat.le_of_ble_eq_true rfl, Or.inr (q_rc hI0.1 kx_231 rfl)⟩ ?_
  show At _ none _ _ (0, [(0, .ref 231), (1, .int a1)], [], (_, _)) _
  refine w_loopI (fun n_ l_ g_ => ∃ x919 : Int32, ∃ x920 : Int32, n_ = x920.toInt ∧ HI g_ ∧ Fr F_X11_settle_231 A_X11_settle_231 g0 g_ ∧ gI g_ 231 17 = x919 ∧ gI g_ 231 23 = x920 ∧ en_get 0 l_ = some (.ref 231) ∧ en_get 1 l_ = some (.int a1) ∧ (0 ≤ x919.toInt ∧ x919.toInt ≤ 400) ∧ (0 ≤ x920.toInt ∧ x920.toInt ≤ 400) ∧ (x919.toInt + x920.toInt ≤ (gI g0 231 17).toInt + (gI g0 231 23).toInt) ∧ (∀ (b : Int) (o0 a0 : Int → Int), PG g0 b 1 o0 a0 → PG g_ b 1 o0 a0) ∧ (∀ j : Int, x920.toInt ≤ j → j < (gI g0 231 23).toInt → (eA g0 240 j).toInt < 30) ∧ (x920.toInt ≤ (gI g0 231 23).toInt)) ?_ (v2.toInt) ⟨v1, v2, by first | rfl | omega, hI0, hF0, hv1, hv2, rfl, rfl, by omega, by omega, by omega, (fun _ _ _ h => h), (fun j h0 h1 => absurd h1 (by omega)), by omega⟩
  rintro n925 l924 g921 ⟨x919, x920, hm937, hI922, hF923, e927, e928, e929, e930, r931, r932, q933, q934, q935, q936⟩ ih926
  have tv938 := congrArg Int32.toInt e927
  have tv939 := congrArg Int32.toInt e928
  refine At.enter rfl ?_
  refine r_aload_n e929 ?_
  refine q_getI (Sh.int hI922.1 kx_231 rfl) x920 e928 ?_
  refine r_ifs 7 rfl (fun c940 => ?_) (fun c940 => ?_)
  · have c940_ : x920.toInt ≤ 0 := en_k_le_t c940
    refine At.enter rfl ?_
    refine r_vret ?_
    have x941 := HI.eqI hI922 (p := 231) (b := 17) (e927)
    have x942 := HI.eqI hI922 (p := 231) (b := 23) (e928)
    exact ⟨_, rfl, hI922, hF923, rfl, ⟨by show (gI _ 231 23).toInt ≤ (gI _ 231 23).toInt; omega, by show (gI _ 231 17).toInt + (gI _ 231 23).toInt ≤ (gI _ 231 17).toInt + (gI _ 231 23).toInt; omega, q934, (fun j h0 h1 => q935 j (by have h0 : (gI g921 231 23).toInt ≤ j := h0; omega) h1), hF923.2.1 240 (by decide), (Or.inl (by show (gI g921 231 23).toInt = 0; omega))⟩⟩
  · have c940_ : x920.toInt > 0 := en_k_le_f c940
    refine At.enter rfl ?_
    refine r_aload_n e929 ?_
    refine q_getR (Sh.ref hI922.1 kx_231 rfl) ?_
    refine r_aload_n e929 ?_
    refine q_getI (Sh.int hI922.1 kx_231 rfl) x920 e928 ?_
    refine r_iconst 1 rfl ?_
    refine q_isub (x920.toInt - 1) rfl (by omega) (fun v943 hv943 => ?_)
    obtain ⟨v944, hv944⟩ : ∃ v, eA g0 240 (x920.toInt + (-1)) = v := ⟨_, rfl⟩
    have rv944 := RgA.at hI0.2.2.1 (Sh.arr hI0.1 ka_240).2 (p := 240) rfl (j := (x920.toInt + (-1))) (by omega)
    rw [hv944] at rv944
    dsimp only at rv944
    refine q_iald (Sh.arr hI922.1 ka_240) (x920.toInt + (-1)) (by omega) (by omega) v944 ((eA_c (hF923.2.1 240 (by decide))).trans hv944) ?_
    refine q_inlS 21 rfl [.int v944] [] (Nat.le_of_ble_eq_true rfl) rfl ?_
    refine Ev.mk rfl rfl ⟨Nat.le_of_ble_eq_true rfl, Or.inl rfl⟩ ?_
    show At _ none _ _ (0, [(0, .int v944)], [], (_, _)) _
    refine At.enter rfl ?_
    refine r_iload_n rfl ?_
    refine r_bipush 30 rfl ?_
    refine r_ics 6 rfl (fun c945 => ?_) (fun c945 => ?_)
    · have c945_ : v944.toInt < 30 := en_i_lt_t c945
      refine At.enter rfl ?_
      refine r_iload_n rfl ?_
      refine r_bipush 29 rfl ?_
      refine r_ics 16 rfl (fun c946 => ?_) (fun c946 => ?_)
      · have c946_ : v944.toInt ≠ 29 := en_i_ne_t c946
        refine At.enter rfl ?_
        refine r_iload_n rfl ?_
        refine r_bipush 28 rfl ?_
        refine r_ics 26 rfl (fun c947 => ?_) (fun c947 => ?_)
        · have c947_ : v944.toInt ≠ 28 := en_i_ne_t c947
          refine At.enter rfl ?_
          refine r_iload_n rfl ?_
          refine r_bipush 27 rfl ?_
          refine r_ics 36 rfl (fun c948 => ?_) (fun c948 => ?_)
          · have c948_ : v944.toInt ≠ 27 := en_i_ne_t c948
            refine At.enter rfl ?_
            refine r_iload_n rfl ?_
            refine r_bipush 24 rfl ?_
            refine r_ics 46 rfl (fun c949 => ?_) (fun c949 => ?_)
            · have c949_ : v944.toInt < 24 := en_i_lt_t c949
              refine At.enter rfl ?_
              refine r_iload_n rfl ?_
              refine r_bipush 22 rfl ?_
              refine r_ics 56 rfl (fun c950 => ?_) (fun c950 => ?_)
              · have c950_ : v944.toInt < 22 := en_i_lt_t c950
                refine At.enter rfl ?_
                refine r_iconst 5 rfl ?_
                refine Ar.fall 62 rfl ?_
                refine At.enter rfl ?_
                refine q_ireti ?_
                refine At.enter rfl ?_
                refine r_iload_n e930 ?_
                refine r_ics 25 rfl (fun c951 => ?_) (fun c951 => ?_)
                · have c951_ : 5 < a1.toInt := en_i_lt_t c951
                  refine At.enter rfl ?_
                  refine r_vret ?_
                  have x952 := HI.eqI hI922 (p := 231) (b := 17) (e927)
                  have x953 := HI.eqI hI922 (p := 231) (b := 23) (e928)
                  exact ⟨_, rfl, hI922, hF923, rfl, ⟨by show (gI _ 231 23).toInt ≤ (gI _ 231 23).toInt; omega, by show (gI _ 231 17).toInt + (gI _ 231 23).toInt ≤ (gI _ 231 17).toInt + (gI _ 231 23).toInt; omega, q934, (fun j h0 h1 => q935 j (by have h0 : (gI g921 231 23).toInt ≤ j := h0; omega) h1), hF923.2.1 240 (by decide), (by show (gI g921 231 23).toInt = 0 ∨ ((a1.toInt = 1 → 30 ≤ (eA g0 240 ((gI g921 231 23).toInt - 1)).toInt) ∧ (a1.toInt = 5 → 24 ≤ (eA g0 240 ((gI g921 231 23).toInt - 1)).toInt)); rw [show (gI g921 231 23).toInt - 1 = (x920.toInt + (-1)) by omega, hv944]; omega)⟩⟩
                · have c951_ : 5 ≥ a1.toInt := en_i_lt_f c951
                  refine At.enter rfl ?_
                  refine r_aload_n e929 ?_
                  refine r_dup rfl ?_
                  refine q_getI (Sh.int hI922.1 kx_231 rfl) x920 e928 ?_
                  refine r_iconst 1 rfl ?_
                  refine q_isub (x920.toInt - 1) rfl (by omega) (fun v954 hv954 => ?_)
                  refine q_putI (Sh.int hI922.1 kx_231 rfl) rfl ?_
                  have hI955 := HI.wI1 hI922 kx_231 rfl (p := 231) (b := 23) (v := v954) rfl (by dsimp only; omega)
                  have hF956 := Fr.wI (p := 231) (b := 23) (v := v954) hF923 rfl
                  refine r_aload_n e929 ?_
                  refine q_getR (Sh.ref hI955.1 kx_231 rfl) ?_
                  refine r_aload_n e929 ?_
                  refine q_getI (Sh.int hI955.1 kx_231 rfl) v954 (gI_sI_eq hI922.1 kx_231 rfl _) ?_
                  refine q_iald (Sh.arr hI955.1 ka_240) (x920.toInt + (-1)) (by omega) (by omega) v944 ((eA_c ((gA_sI).trans (hF923.2.1 240 (by decide)))).trans hv944) ?_
                  refine r_bipush 28 rfl ?_
                  refine r_ics 49 rfl (fun c957 => ?_) (fun c957 => ?_)
                  · have c957_ : v944.toInt = 28 := en_i_eq_t c957
                    exfalso; omega
                  · have c957_ : v944.toInt ≠ 28 := en_i_eq_f c957
                    refine At.enter rfl ?_
                    refine r_aload_n e929 ?_
                    refine q_getR (Sh.ref hI955.1 kx_231 rfl) ?_
                    refine r_aload_n e929 ?_
                    refine q_getI (Sh.int hI955.1 kx_231 rfl) v954 (gI_sI_eq hI922.1 kx_231 rfl _) ?_
                    refine q_iald (Sh.arr hI955.1 ka_240) (x920.toInt + (-1)) (by omega) (by omega) v944 ((eA_c ((gA_sI).trans (hF923.2.1 240 (by decide)))).trans hv944) ?_
                    refine r_bipush 29 rfl ?_
                    refine r_ics 63 rfl (fun c958 => ?_) (fun c958 => ?_)
                    · have c958_ : v944.toInt ≠ 29 := en_i_ne_t c958
                      refine At.enter rfl ?_
                      refine r_aload_n e929 ?_
                      refine r_aload_n e929 ?_
                      refine q_getR (Sh.ref hI955.1 kx_231 rfl) ?_
                      refine r_aload_n e929 ?_
                      refine q_getI (Sh.int hI955.1 kx_231 rfl) v954 (gI_sI_eq hI922.1 kx_231 rfl _) ?_
                      refine q_iald (Sh.arr hI955.1 ka_240) (x920.toInt + (-1)) (by omega) (by omega) v944 ((eA_c ((gA_sI).trans (hF923.2.1 240 (by decide)))).trans hv944) ?_
                      refine r_iconst 0 rfl ?_
                      have x959 := HI.eqI hI955 (p := 231) (b := 17) (((gI_sI_ne (by decide)).trans e927))
                      have zv960 : (0 : Int32).toInt = 0 := rfl
                      refine r_callV 98 rfl [.ref 231, .int v944, .int 0] [] (Nat.le_of_ble_eq_true rfl) rfl (T_X11_emit_231 _ hI955 v944 0 (by omega)) ?_
                      rintro _ _ ⟨g961, rfl, hI962, hF963, rfl, hr965⟩
                      refine At.stn ?_
                      have hF966 := Fr.tr hF956 hF963 rfl rfl
                      have zv967 : (0 : Int32).toInt = 0 := rfl
                      have x968 := HI.eqI hI955 (p := 231) (b := 17) (((gI_sI_ne (by decide)).trans e927))
                      have x969 := HI.eqI hI955 (p := 231) (b := 23) ((gI_sI_eq hI922.1 kx_231 rfl _))
                      obtain ⟨v970, hv970⟩ : ∃ v, gI g961 231 17 = v := ⟨_, rfl⟩
                      have rv970 := RgF.at hI962.2.1 (p := 231) (b := 17) rfl
                      rw [hv970] at rv970
                      dsimp only at rv970
                      have tv970 := congrArg Int32.toInt hv970
                      have x971 := HI.eqI hI962 (p := 231) (b := 17) (hv970)
                      have y972 : (gI _ 231 17).toInt = (gI _ 231 17).toInt + 1 := hr965.1
                      refine At.enter rfl ?_
                      refine r_goto ?_
                      exact ih926 (v954.toInt) _ _ ⟨v970, v954, by first | rfl | omega, hI962, hF966, hv970, ((hF963.1 231 23 (by decide)).trans (gI_sI_eq hI922.1 kx_231 rfl _)), e929, e930, by omega, by omega, by omega, (fun b o0 a0 h => PG.settleO (q934 b o0 a0 h) ((gA_sI)) ((gA_sI)) ((gA_sI)) ((gA_sI)) ((gI_sI_ne (by decide))) (by show (gI _ 231 23).toInt = (gI _ 231 23).toInt - 1; omega) (by show 1 ≤ (gI _ 231 23).toInt; omega) hr965 (hF963.2.1 240 (by decide)) (hF963.2.1 241 (by decide)) (hF963.1 231 23 (by decide)) (by show (eA g921 240 ((gI g921 231 23).toInt - 1)).toInt = _; rw [show (gI g921 231 23).toInt - 1 = (x920.toInt + (-1)) by omega, eA_c (j := (x920.toInt + (-1))) (hF923.2.1 240 (by decide)), hv944]) (by omega)), (fun j h0 h1 => (Decidable.em (j = x920.toInt - 1)).elim (fun e => by rw [e, show x920.toInt - 1 = (x920.toInt + (-1)) by omega, hv944]; omega) (fun e => q935 j (by omega) h1)), by omega⟩ ⟨by omega, by omega⟩
                    · have c958_ : v944.toInt = 29 := en_i_ne_f c958
                      exfalso; omega
              · have c950_ : v944.toInt ≥ 22 := en_i_lt_f c950
                refine At.enter rfl ?_
                refine r_bipush 6 rfl ?_
                refine r_goto ?_
                refine At.enter rfl ?_
                refine q_ireti ?_
                refine At.enter rfl ?_
                refine r_iload_n e930 ?_
                refine r_ics 25 rfl (fun c973 => ?_) (fun c973 => ?_)
                · have c973_ : 6 < a1.toInt := en_i_lt_t c973
                  exfalso; omega
                · have c973_ : 6 ≥ a1.toInt := en_i_lt_f c973
                  refine At.enter rfl ?_
                  refine r_aload_n e929 ?_
                  refine r_dup rfl ?_
                  refine q_getI (Sh.int hI922.1 kx_231 rfl) x920 e928 ?_
                  refine r_iconst 1 rfl ?_
                  refine q_isub (x920.toInt - 1) rfl (by omega) (fun v974 hv974 => ?_)
                  refine q_putI (Sh.int hI922.1 kx_231 rfl) rfl ?_
                  have hI975 := HI.wI1 hI922 kx_231 rfl (p := 231) (b := 23) (v := v974) rfl (by dsimp only; omega)
                  have hF976 := Fr.wI (p := 231) (b := 23) (v := v974) hF923 rfl
                  refine r_aload_n e929 ?_
                  refine q_getR (Sh.ref hI975.1 kx_231 rfl) ?_
                  refine r_aload_n e929 ?_
                  refine q_getI (Sh.int hI975.1 kx_231 rfl) v974 (gI_sI_eq hI922.1 kx_231 rfl _) ?_
                  refine q_iald (Sh.arr hI975.1 ka_240) (x920.toInt + (-1)) (by omega) (by omega) v944 ((eA_c ((gA_sI).trans (hF923.2.1 240 (by decide)))).trans hv944) ?_
                  refine r_bipush 28 rfl ?_
                  refine r_ics 49 rfl (fun c977 => ?_) (fun c977 => ?_)
                  · have c977_ : v944.toInt = 28 := en_i_eq_t c977
                    exfalso; omega
                  · have c977_ : v944.toInt ≠ 28 := en_i_eq_f c977
                    refine At.enter rfl ?_
                    refine r_aload_n e929 ?_
                    refine q_getR (Sh.ref hI975.1 kx_231 rfl) ?_
                    refine r_aload_n e929 ?_
                    refine q_getI (Sh.int hI975.1 kx_231 rfl) v974 (gI_sI_eq hI922.1 kx_231 rfl _) ?_
                    refine q_iald (Sh.arr hI975.1 ka_240) (x920.toInt + (-1)) (by omega) (by omega) v944 ((eA_c ((gA_sI).trans (hF923.2.1 240 (by decide)))).trans hv944) ?_
                    refine r_bipush 29 rfl ?_
                    refine r_ics 63 rfl (fun c978 => ?_) (fun c978 => ?_)
                    · have c978_ : v944.toInt ≠ 29 := en_i_ne_t c978
                      refine At.enter rfl ?_
                      refine r_aload_n e929 ?_
                      refine r_aload_n e929 ?_
                      refine q_getR (Sh.ref hI975.1 kx_231 rfl) ?_
                      refine r_aload_n e929 ?_
                      refine q_getI (Sh.int hI975.1 kx_231 rfl) v974 (gI_sI_eq hI922.1 kx_231 rfl _) ?_
                      refine q_iald (Sh.arr hI975.1 ka_240) (x920.toInt + (-1)) (by omega) (by omega) v944 ((eA_c ((gA_sI).trans (hF923.2.1 240 (by decide)))).trans hv944) ?_
                      refine r_iconst 0 rfl ?_
                      have x979 := HI.eqI hI975 (p := 231) (b := 17) (((gI_sI_ne (by decide)).trans e927))
                      have zv980 : (0 : Int32).toInt = 0 := rfl
                      refine r_callV 98 rfl [.ref 231, .int v944, .int 0] [] (Nat.le_of_ble_eq_true rfl) rfl (T_X11_emit_231 _ hI975 v944 0 (by omega)) ?_
                      rintro _ _ ⟨g981, rfl, hI982, hF983, rfl, hr985⟩
                      refine At.stn ?_
                      have hF986 := Fr.tr hF976 hF983 rfl rfl
                      have zv987 : (0 : Int32).toInt = 0 := rfl
                      have x988 := HI.eqI hI975 (p := 231) (b := 17) (((gI_sI_ne (by decide)).trans e927))
                      have x989 := HI.eqI hI975 (p := 231) (b := 23) ((gI_sI_eq hI922.1 kx_231 rfl _))
                      obtain ⟨v990, hv990⟩ : ∃ v, gI g981 231 17 = v := ⟨_, rfl⟩
                      have rv990 := RgF.at hI982.2.1 (p := 231) (b := 17) rfl
                      rw [hv990] at rv990
                      dsimp only at rv990
                      have tv990 := congrArg Int32.toInt hv990
                      have x991 := HI.eqI hI982 (p := 231) (b := 17) (hv990)
                      have y992 : (gI _ 231 17).toInt = (gI _ 231 17).toInt + 1 := hr985.1
                      refine At.enter rfl ?_
                      refine r_goto ?_
                      exact ih926 (v974.toInt) _ _ ⟨v990, v974, by first | rfl | omega, hI982, hF986, hv990, ((hF983.1 231 23 (by decide)).trans (gI_sI_eq hI922.1 kx_231 rfl _)), e929, e930, by omega, by omega, by omega, (fun b o0 a0 h => PG.settleO (q934 b o0 a0 h) ((gA_sI)) ((gA_sI)) ((gA_sI)) ((gA_sI)) ((gI_sI_ne (by decide))) (by show (gI _ 231 23).toInt = (gI _ 231 23).toInt - 1; omega) (by show 1 ≤ (gI _ 231 23).toInt; omega) hr985 (hF983.2.1 240 (by decide)) (hF983.2.1 241 (by decide)) (hF983.1 231 23 (by decide)) (by show (eA g921 240 ((gI g921 231 23).toInt - 1)).toInt = _; rw [show (gI g921 231 23).toInt - 1 = (x920.toInt + (-1)) by omega, eA_c (j := (x920.toInt + (-1))) (hF923.2.1 240 (by decide)), hv944]) (by omega)), (fun j h0 h1 => (Decidable.em (j = x920.toInt - 1)).elim (fun e => by rw [e, show x920.toInt - 1 = (x920.toInt + (-1)) by omega, hv944]; omega) (fun e => q935 j (by omega) h1)), by omega⟩ ⟨by omega, by omega⟩
                    · have c978_ : v944.toInt = 29 := en_i_ne_f c978
                      exfalso; omega
            · have c949_ : v944.toInt ≥ 24 := en_i_lt_f c949
              refine At.enter rfl ?_
              refine r_iconst 4 rfl ?_
              refine r_goto ?_
              refine At.enter rfl ?_
              refine q_ireti ?_
              refine At.enter rfl ?_
              refine r_iload_n e930 ?_
              refine r_ics 25 rfl (fun c993 => ?_) (fun c993 => ?_)
              · have c993_ : 4 < a1.toInt := en_i_lt_t c993
                refine At.enter rfl ?_
                refine r_vret ?_
                have x994 := HI.eqI hI922 (p := 231) (b := 17) (e927)
                have x995 := HI.eqI hI922 (p := 231) (b := 23) (e928)
                exact ⟨_, rfl, hI922, hF923, rfl, ⟨by show (gI _ 231 23).toInt ≤ (gI _ 231 23).toInt; omega, by show (gI _ 231 17).toInt + (gI _ 231 23).toInt ≤ (gI _ 231 17).toInt + (gI _ 231 23).toInt; omega, q934, (fun j h0 h1 => q935 j (by have h0 : (gI g921 231 23).toInt ≤ j := h0; omega) h1), hF923.2.1 240 (by decide), (by show (gI g921 231 23).toInt = 0 ∨ ((a1.toInt = 1 → 30 ≤ (eA g0 240 ((gI g921 231 23).toInt - 1)).toInt) ∧ (a1.toInt = 5 → 24 ≤ (eA g0 240 ((gI g921 231 23).toInt - 1)).toInt)); rw [show (gI g921 231 23).toInt - 1 = (x920.toInt + (-1)) by omega, hv944]; omega)⟩⟩
              · have c993_ : 4 ≥ a1.toInt := en_i_lt_f c993
                refine At.enter rfl ?_
                refine r_aload_n e929 ?_
                refine r_dup rfl ?_
                refine q_getI (Sh.int hI922.1 kx_231 rfl) x920 e928 ?_
                refine r_iconst 1 rfl ?_
                refine q_isub (x920.toInt - 1) rfl (by omega) (fun v996 hv996 => ?_)
                refine q_putI (Sh.int hI922.1 kx_231 rfl) rfl ?_
                have hI997 := HI.wI1 hI922 kx_231 rfl (p := 231) (b := 23) (v := v996) rfl (by dsimp only; omega)
                have hF998 := Fr.wI (p := 231) (b := 23) (v := v996) hF923 rfl
                refine r_aload_n e929 ?_
                refine q_getR (Sh.ref hI997.1 kx_231 rfl) ?_
                refine r_aload_n e929 ?_
                refine q_getI (Sh.int hI997.1 kx_231 rfl) v996 (gI_sI_eq hI922.1 kx_231 rfl _) ?_
                refine q_iald (Sh.arr hI997.1 ka_240) (x920.toInt + (-1)) (by omega) (by omega) v944 ((eA_c ((gA_sI).trans (hF923.2.1 240 (by decide)))).trans hv944) ?_
                refine r_bipush 28 rfl ?_
                refine r_ics 49 rfl (fun c999 => ?_) (fun c999 => ?_)
                · have c999_ : v944.toInt = 28 := en_i_eq_t c999
                  exfalso; omega
                · have c999_ : v944.toInt ≠ 28 := en_i_eq_f c999
                  refine At.enter rfl ?_
                  refine r_aload_n e929 ?_
                  refine q_getR (Sh.ref hI997.1 kx_231 rfl) ?_
                  refine r_aload_n e929 ?_
                  refine q_getI (Sh.int hI997.1 kx_231 rfl) v996 (gI_sI_eq hI922.1 kx_231 rfl _) ?_
                  refine q_iald (Sh.arr hI997.1 ka_240) (x920.toInt + (-1)) (by omega) (by omega) v944 ((eA_c ((gA_sI).trans (hF923.2.1 240 (by decide)))).trans hv944) ?_
                  refine r_bipush 29 rfl ?_
                  refine r_ics 63 rfl (fun c1000 => ?_) (fun c1000 => ?_)
                  · have c1000_ : v944.toInt ≠ 29 := en_i_ne_t c1000
                    refine At.enter rfl ?_
                    refine r_aload_n e929 ?_
                    refine r_aload_n e929 ?_
                    refine q_getR (Sh.ref hI997.1 kx_231 rfl) ?_
                    refine r_aload_n e929 ?_
                    refine q_getI (Sh.int hI997.1 kx_231 rfl) v996 (gI_sI_eq hI922.1 kx_231 rfl _) ?_
                    refine q_iald (Sh.arr hI997.1 ka_240) (x920.toInt + (-1)) (by omega) (by omega) v944 ((eA_c ((gA_sI).trans (hF923.2.1 240 (by decide)))).trans hv944) ?_
                    refine r_iconst 0 rfl ?_
                    have x1001 := HI.eqI hI997 (p := 231) (b := 17) (((gI_sI_ne (by decide)).trans e927))
                    have zv1002 : (0 : Int32).toInt = 0 := rfl
                    refine r_callV 98 rfl [.ref 231, .int v944, .int 0] [] (Nat.le_of_ble_eq_true rfl) rfl (T_X11_emit_231 _ hI997 v944 0 (by omega)) ?_
                    rintro _ _ ⟨g1003, rfl, hI1004, hF1005, rfl, hr1007⟩
                    refine At.stn ?_
                    have hF1008 := Fr.tr hF998 hF1005 rfl rfl
                    have zv1009 : (0 : Int32).toInt = 0 := rfl
                    have x1010 := HI.eqI hI997 (p := 231) (b := 17) (((gI_sI_ne (by decide)).trans e927))
                    have x1011 := HI.eqI hI997 (p := 231) (b := 23) ((gI_sI_eq hI922.1 kx_231 rfl _))
                    obtain ⟨v1012, hv1012⟩ : ∃ v, gI g1003 231 17 = v := ⟨_, rfl⟩
                    have rv1012 := RgF.at hI1004.2.1 (p := 231) (b := 17) rfl
                    rw [hv1012] at rv1012
                    dsimp only at rv1012
                    have tv1012 := congrArg Int32.toInt hv1012
                    have x1013 := HI.eqI hI1004 (p := 231) (b := 17) (hv1012)
                    have y1014 : (gI _ 231 17).toInt = (gI _ 231 17).toInt + 1 := hr1007.1
                    refine At.enter rfl ?_
                    refine r_goto ?_
                    exact ih926 (v996.toInt) _ _ ⟨v1012, v996, by first | rfl | omega, hI1004, hF1008, hv1012, ((hF1005.1 231 23 (by decide)).trans (gI_sI_eq hI922.1 kx_231 rfl _)), e929, e930, by omega, by omega, by omega, (fun b o0 a0 h => PG.settleO (q934 b o0 a0 h) ((gA_sI)) ((gA_sI)) ((gA_sI)) ((gA_sI)) ((gI_sI_ne (by decide))) (by show (gI _ 231 23).toInt = (gI _ 231 23).toInt - 1; omega) (by show 1 ≤ (gI _ 231 23).toInt; omega) hr1007 (hF1005.2.1 240 (by decide)) (hF1005.2.1 241 (by decide)) (hF1005.1 231 23 (by decide)) (by show (eA g921 240 ((gI g921 231 23).toInt - 1)).toInt = _; rw [show (gI g921 231 23).toInt - 1 = (x920.toInt + (-1)) by omega, eA_c (j := (x920.toInt + (-1))) (hF923.2.1 240 (by decide)), hv944]) (by omega)), (fun j h0 h1 => (Decidable.em (j = x920.toInt - 1)).elim (fun e => by rw [e, show x920.toInt - 1 = (x920.toInt + (-1)) by omega, hv944]; omega) (fun e => q935 j (by omega) h1)), by omega⟩ ⟨by omega, by omega⟩
                  · have c1000_ : v944.toInt = 29 := en_i_ne_f c1000
                    exfalso; omega
          · have c948_ : v944.toInt = 27 := en_i_ne_f c948
            refine At.enter rfl ?_
            refine r_iconst 3 rfl ?_
            refine r_goto ?_
            refine At.enter rfl ?_
            refine q_ireti ?_
            refine At.enter rfl ?_
            refine r_iload_n e930 ?_
            refine r_ics 25 rfl (fun c1015 => ?_) (fun c1015 => ?_)
            · have c1015_ : 3 < a1.toInt := en_i_lt_t c1015
              refine At.enter rfl ?_
              refine r_vret ?_
              have x1016 := HI.eqI hI922 (p := 231) (b := 17) (e927)
              have x1017 := HI.eqI hI922 (p := 231) (b := 23) (e928)
              exact ⟨_, rfl, hI922, hF923, rfl, ⟨by show (gI _ 231 23).toInt ≤ (gI _ 231 23).toInt; omega, by show (gI _ 231 17).toInt + (gI _ 231 23).toInt ≤ (gI _ 231 17).toInt + (gI _ 231 23).toInt; omega, q934, (fun j h0 h1 => q935 j (by have h0 : (gI g921 231 23).toInt ≤ j := h0; omega) h1), hF923.2.1 240 (by decide), (by show (gI g921 231 23).toInt = 0 ∨ ((a1.toInt = 1 → 30 ≤ (eA g0 240 ((gI g921 231 23).toInt - 1)).toInt) ∧ (a1.toInt = 5 → 24 ≤ (eA g0 240 ((gI g921 231 23).toInt - 1)).toInt)); rw [show (gI g921 231 23).toInt - 1 = (x920.toInt + (-1)) by omega, hv944]; omega)⟩⟩
            · have c1015_ : 3 ≥ a1.toInt := en_i_lt_f c1015
              refine At.enter rfl ?_
              refine r_aload_n e929 ?_
              refine r_dup rfl ?_
              refine q_getI (Sh.int hI922.1 kx_231 rfl) x920 e928 ?_
              refine r_iconst 1 rfl ?_
              refine q_isub (x920.toInt - 1) rfl (by omega) (fun v1018 hv1018 => ?_)
              refine q_putI (Sh.int hI922.1 kx_231 rfl) rfl ?_
              have hI1019 := HI.wI1 hI922 kx_231 rfl (p := 231) (b := 23) (v := v1018) rfl (by dsimp only; omega)
              have hF1020 := Fr.wI (p := 231) (b := 23) (v := v1018) hF923 rfl
              refine r_aload_n e929 ?_
              refine q_getR (Sh.ref hI1019.1 kx_231 rfl) ?_
              refine r_aload_n e929 ?_
              refine q_getI (Sh.int hI1019.1 kx_231 rfl) v1018 (gI_sI_eq hI922.1 kx_231 rfl _) ?_
              refine q_iald (Sh.arr hI1019.1 ka_240) (x920.toInt + (-1)) (by omega) (by omega) v944 ((eA_c ((gA_sI).trans (hF923.2.1 240 (by decide)))).trans hv944) ?_
              refine r_bipush 28 rfl ?_
              refine r_ics 49 rfl (fun c1021 => ?_) (fun c1021 => ?_)
              · have c1021_ : v944.toInt = 28 := en_i_eq_t c1021
                exfalso; omega
              · have c1021_ : v944.toInt ≠ 28 := en_i_eq_f c1021
                refine At.enter rfl ?_
                refine r_aload_n e929 ?_
                refine q_getR (Sh.ref hI1019.1 kx_231 rfl) ?_
                refine r_aload_n e929 ?_
                refine q_getI (Sh.int hI1019.1 kx_231 rfl) v1018 (gI_sI_eq hI922.1 kx_231 rfl _) ?_
                refine q_iald (Sh.arr hI1019.1 ka_240) (x920.toInt + (-1)) (by omega) (by omega) v944 ((eA_c ((gA_sI).trans (hF923.2.1 240 (by decide)))).trans hv944) ?_
                refine r_bipush 29 rfl ?_
                refine r_ics 63 rfl (fun c1022 => ?_) (fun c1022 => ?_)
                · have c1022_ : v944.toInt ≠ 29 := en_i_ne_t c1022
                  refine At.enter rfl ?_
                  refine r_aload_n e929 ?_
                  refine r_aload_n e929 ?_
                  refine q_getR (Sh.ref hI1019.1 kx_231 rfl) ?_
                  refine r_aload_n e929 ?_
                  refine q_getI (Sh.int hI1019.1 kx_231 rfl) v1018 (gI_sI_eq hI922.1 kx_231 rfl _) ?_
                  refine q_iald (Sh.arr hI1019.1 ka_240) (x920.toInt + (-1)) (by omega) (by omega) v944 ((eA_c ((gA_sI).trans (hF923.2.1 240 (by decide)))).trans hv944) ?_
                  refine r_iconst 0 rfl ?_
                  have x1023 := HI.eqI hI1019 (p := 231) (b := 17) (((gI_sI_ne (by decide)).trans e927))
                  have zv1024 : (0 : Int32).toInt = 0 := rfl
                  refine r_callV 98 rfl [.ref 231, .int v944, .int 0] [] (Nat.le_of_ble_eq_true rfl) rfl (T_X11_emit_231 _ hI1019 v944 0 (by omega)) ?_
                  rintro _ _ ⟨g1025, rfl, hI1026, hF1027, rfl, hr1029⟩
                  refine At.stn ?_
                  have hF1030 := Fr.tr hF1020 hF1027 rfl rfl
                  have zv1031 : (0 : Int32).toInt = 0 := rfl
                  have x1032 := HI.eqI hI1019 (p := 231) (b := 17) (((gI_sI_ne (by decide)).trans e927))
                  have x1033 := HI.eqI hI1019 (p := 231) (b := 23) ((gI_sI_eq hI922.1 kx_231 rfl _))
                  obtain ⟨v1034, hv1034⟩ : ∃ v, gI g1025 231 17 = v := ⟨_, rfl⟩
                  have rv1034 := RgF.at hI1026.2.1 (p := 231) (b := 17) rfl
                  rw [hv1034] at rv1034
                  dsimp only at rv1034
                  have tv1034 := congrArg Int32.toInt hv1034
                  have x1035 := HI.eqI hI1026 (p := 231) (b := 17) (hv1034)
                  have y1036 : (gI _ 231 17).toInt = (gI _ 231 17).toInt + 1 := hr1029.1
                  refine At.enter rfl ?_
                  refine r_goto ?_
                  exact ih926 (v1018.toInt) _ _ ⟨v1034, v1018, by first | rfl | omega, hI1026, hF1030, hv1034, ((hF1027.1 231 23 (by decide)).trans (gI_sI_eq hI922.1 kx_231 rfl _)), e929, e930, by omega, by omega, by omega, (fun b o0 a0 h => PG.settleO (q934 b o0 a0 h) ((gA_sI)) ((gA_sI)) ((gA_sI)) ((gA_sI)) ((gI_sI_ne (by decide))) (by show (gI _ 231 23).toInt = (gI _ 231 23).toInt - 1; omega) (by show 1 ≤ (gI _ 231 23).toInt; omega) hr1029 (hF1027.2.1 240 (by decide)) (hF1027.2.1 241 (by decide)) (hF1027.1 231 23 (by decide)) (by show (eA g921 240 ((gI g921 231 23).toInt - 1)).toInt = _; rw [show (gI g921 231 23).toInt - 1 = (x920.toInt + (-1)) by omega, eA_c (j := (x920.toInt + (-1))) (hF923.2.1 240 (by decide)), hv944]) (by omega)), (fun j h0 h1 => (Decidable.em (j = x920.toInt - 1)).elim (fun e => by rw [e, show x920.toInt - 1 = (x920.toInt + (-1)) by omega, hv944]; omega) (fun e => q935 j (by omega) h1)), by omega⟩ ⟨by omega, by omega⟩
                · have c1022_ : v944.toInt = 29 := en_i_ne_f c1022
                  exfalso; omega
        · have c947_ : v944.toInt = 28 := en_i_ne_f c947
          refine At.enter rfl ?_
          refine r_iconst 2 rfl ?_
          refine r_goto ?_
          refine At.enter rfl ?_
          refine q_ireti ?_
          refine At.enter rfl ?_
          refine r_iload_n e930 ?_
          refine r_ics 25 rfl (fun c1037 => ?_) (fun c1037 => ?_)
          · have c1037_ : 2 < a1.toInt := en_i_lt_t c1037
            refine At.enter rfl ?_
            refine r_vret ?_
            have x1038 := HI.eqI hI922 (p := 231) (b := 17) (e927)
            have x1039 := HI.eqI hI922 (p := 231) (b := 23) (e928)
            exact ⟨_, rfl, hI922, hF923, rfl, ⟨by show (gI _ 231 23).toInt ≤ (gI _ 231 23).toInt; omega, by show (gI _ 231 17).toInt + (gI _ 231 23).toInt ≤ (gI _ 231 17).toInt + (gI _ 231 23).toInt; omega, q934, (fun j h0 h1 => q935 j (by have h0 : (gI g921 231 23).toInt ≤ j := h0; omega) h1), hF923.2.1 240 (by decide), (by show (gI g921 231 23).toInt = 0 ∨ ((a1.toInt = 1 → 30 ≤ (eA g0 240 ((gI g921 231 23).toInt - 1)).toInt) ∧ (a1.toInt = 5 → 24 ≤ (eA g0 240 ((gI g921 231 23).toInt - 1)).toInt)); rw [show (gI g921 231 23).toInt - 1 = (x920.toInt + (-1)) by omega, hv944]; omega)⟩⟩
          · have c1037_ : 2 ≥ a1.toInt := en_i_lt_f c1037
            refine At.enter rfl ?_
            refine r_aload_n e929 ?_
            refine r_dup rfl ?_
            refine q_getI (Sh.int hI922.1 kx_231 rfl) x920 e928 ?_
            refine r_iconst 1 rfl ?_
            refine q_isub (x920.toInt - 1) rfl (by omega) (fun v1040 hv1040 => ?_)
            refine q_putI (Sh.int hI922.1 kx_231 rfl) rfl ?_
            have hI1041 := HI.wI1 hI922 kx_231 rfl (p := 231) (b := 23) (v := v1040) rfl (by dsimp only; omega)
            have hF1042 := Fr.wI (p := 231) (b := 23) (v := v1040) hF923 rfl
            refine r_aload_n e929 ?_
            refine q_getR (Sh.ref hI1041.1 kx_231 rfl) ?_
            refine r_aload_n e929 ?_
            refine q_getI (Sh.int hI1041.1 kx_231 rfl) v1040 (gI_sI_eq hI922.1 kx_231 rfl _) ?_
            refine q_iald (Sh.arr hI1041.1 ka_240) (x920.toInt + (-1)) (by omega) (by omega) v944 ((eA_c ((gA_sI).trans (hF923.2.1 240 (by decide)))).trans hv944) ?_
            refine r_bipush 28 rfl ?_
            refine r_ics 49 rfl (fun c1043 => ?_) (fun c1043 => ?_)
            · have c1043_ : v944.toInt = 28 := en_i_eq_t c1043
              refine At.enter rfl ?_
              refine r_aload_n e929 ?_
              refine q_getR (Sh.ref hI1041.1 kx_231 rfl) ?_
              refine r_aload_n e929 ?_
              refine q_getR (Sh.ref hI1041.1 kx_231 rfl) ?_
              refine r_aload_n e929 ?_
              refine q_getI (Sh.int hI1041.1 kx_231 rfl) v1040 (gI_sI_eq hI922.1 kx_231 rfl _) ?_
              obtain ⟨v1044, hv1044⟩ : ∃ v, eA g0 241 (x920.toInt + (-1)) = v := ⟨_, rfl⟩
              have rv1044 := RgA.at hI0.2.2.1 (Sh.arr hI0.1 ka_241).2 (p := 241) rfl (j := (x920.toInt + (-1))) (by omega)
              rw [hv1044] at rv1044
              dsimp only at rv1044
              refine q_iald (Sh.arr hI1041.1 ka_241) (x920.toInt + (-1)) (by omega) (by omega) v1044 ((eA_c ((gA_sI).trans (hF923.2.1 241 (by decide)))).trans hv1044) ?_
              refine r_aload_n e929 ?_
              refine q_getI (Sh.int hI1041.1 kx_231 rfl) x919 ((gI_sI_ne (by decide)).trans e927) ?_
              refine q_iast (Sh.arr hI1041.1 ka_239) (v1044.toInt) rfl (by omega) ?_
              have hI1045 := HI.wA0 hI1041 ka_239 (p := 239) rfl rfl (v1044.toInt) (x919)
              have hF1046 := Fr.wA (p := 239) (j := v1044.toInt) (v := x919) hF1042 rfl
              refine r_goto ?_
              exact ih926 (v1040.toInt) _ _ ⟨x919, v1040, by first | rfl | omega, hI1045, hF1046, (((gI_sW).trans (gI_sI_ne (by decide))).trans e927), ((gI_sW).trans (gI_sI_eq hI922.1 kx_231 rfl _)), e929, e930, by omega, by omega, by omega, (fun b o0 a0 h => PG.settleJ (q934 b o0 a0 h) (((gA_sA_ne (by decide)).trans (gA_sI))) (((gA_sA_ne (by decide)).trans (gA_sI))) (((gA_sA_ne (by decide)).trans (gA_sI))) (((gI_sW).trans (gI_sI_ne (by decide)))) (by have jf := HI.eqI hI1045 (p := 231) (b := 23) (((gI_sW).trans (gI_sI_eq hI922.1 kx_231 rfl _))); show (gI _ 231 23).toInt = (gI _ 231 23).toInt - 1; omega) (by show 1 ≤ (gI _ 231 23).toInt; omega) (by show 28 ≤ (eA g921 240 ((gI g921 231 23).toInt - 1)).toInt ∧ (eA g921 240 ((gI g921 231 23).toInt - 1)).toInt ≤ 29; rw [show (gI g921 231 23).toInt - 1 = (x920.toInt + (-1)) by omega, eA_c (j := (x920.toInt + (-1))) (hF923.2.1 240 (by decide)), hv944]; omega) (by show (eA _ 239 (eA g921 241 ((gI g921 231 23).toInt - 1)).toInt).toInt = (gI g921 231 17).toInt; rw [show (gI g921 231 23).toInt - 1 = (x920.toInt + (-1)) by omega, eA_c (j := (x920.toInt + (-1))) (hF923.2.1 241 (by decide)), hv1044, show eA _ 239 v1044.toInt = _ from (eA_sA_eq hI1041.1 ka_239 (by first | rfl | omega) (by first | decide | omega) (by first | decide | omega))]; omega) (fun i i0 hne => by have hne : i ≠ (eA g921 241 ((gI g921 231 23).toInt - 1)).toInt := hne; rw [show (gI g921 231 23).toInt - 1 = (x920.toInt + (-1)) by omega, eA_c (j := (x920.toInt + (-1))) (hF923.2.1 241 (by decide)), hv1044] at hne; exact ((eA_sA_ne (i := i) hI1041.1 ka_239 (by omega) (by omega) (by omega)).trans (eA_c gA_sI)))), (fun j h0 h1 => (Decidable.em (j = x920.toInt - 1)).elim (fun e => by rw [e, show x920.toInt - 1 = (x920.toInt + (-1)) by omega, hv944]; omega) (fun e => q935 j (by omega) h1)), by omega⟩ ⟨by omega, by omega⟩
            · have c1043_ : v944.toInt ≠ 28 := en_i_eq_f c1043
              exfalso; omega
      · have c946_ : v944.toInt = 29 := en_i_ne_f c946
        refine At.enter rfl ?_
        refine r_iconst 1 rfl ?_
        refine r_goto ?_
        refine At.enter rfl ?_
        refine q_ireti ?_
        refine At.enter rfl ?_
        refine r_iload_n e930 ?_
        refine r_ics 25 rfl (fun c1047 => ?_) (fun c1047 => ?_)
        · have c1047_ : 1 < a1.toInt := en_i_lt_t c1047
          refine At.enter rfl ?_
          refine r_vret ?_
          have x1048 := HI.eqI hI922 (p := 231) (b := 17) (e927)
          have x1049 := HI.eqI hI922 (p := 231) (b := 23) (e928)
          exact ⟨_, rfl, hI922, hF923, rfl, ⟨by show (gI _ 231 23).toInt ≤ (gI _ 231 23).toInt; omega, by show (gI _ 231 17).toInt + (gI _ 231 23).toInt ≤ (gI _ 231 17).toInt + (gI _ 231 23).toInt; omega, q934, (fun j h0 h1 => q935 j (by have h0 : (gI g921 231 23).toInt ≤ j := h0; omega) h1), hF923.2.1 240 (by decide), (by show (gI g921 231 23).toInt = 0 ∨ ((a1.toInt = 1 → 30 ≤ (eA g0 240 ((gI g921 231 23).toInt - 1)).toInt) ∧ (a1.toInt = 5 → 24 ≤ (eA g0 240 ((gI g921 231 23).toInt - 1)).toInt)); rw [show (gI g921 231 23).toInt - 1 = (x920.toInt + (-1)) by omega, hv944]; omega)⟩⟩
        · have c1047_ : 1 ≥ a1.toInt := en_i_lt_f c1047
          refine At.enter rfl ?_
          refine r_aload_n e929 ?_
          refine r_dup rfl ?_
          refine q_getI (Sh.int hI922.1 kx_231 rfl) x920 e928 ?_
          refine r_iconst 1 rfl ?_
          refine q_isub (x920.toInt - 1) rfl (by omega) (fun v1050 hv1050 => ?_)
          refine q_putI (Sh.int hI922.1 kx_231 rfl) rfl ?_
          have hI1051 := HI.wI1 hI922 kx_231 rfl (p := 231) (b := 23) (v := v1050) rfl (by dsimp only; omega)
          have hF1052 := Fr.wI (p := 231) (b := 23) (v := v1050) hF923 rfl
          refine r_aload_n e929 ?_
          refine q_getR (Sh.ref hI1051.1 kx_231 rfl) ?_
          refine r_aload_n e929 ?_
          refine q_getI (Sh.int hI1051.1 kx_231 rfl) v1050 (gI_sI_eq hI922.1 kx_231 rfl _) ?_
          refine q_iald (Sh.arr hI1051.1 ka_240) (x920.toInt + (-1)) (by omega) (by omega) v944 ((eA_c ((gA_sI).trans (hF923.2.1 240 (by decide)))).trans hv944) ?_
          refine r_bipush 28 rfl ?_
          refine r_ics 49 rfl (fun c1053 => ?_) (fun c1053 => ?_)
          · have c1053_ : v944.toInt = 28 := en_i_eq_t c1053
            exfalso; omega
          · have c1053_ : v944.toInt ≠ 28 := en_i_eq_f c1053
            refine At.enter rfl ?_
            refine r_aload_n e929 ?_
            refine q_getR (Sh.ref hI1051.1 kx_231 rfl) ?_
            refine r_aload_n e929 ?_
            refine q_getI (Sh.int hI1051.1 kx_231 rfl) v1050 (gI_sI_eq hI922.1 kx_231 rfl _) ?_
            refine q_iald (Sh.arr hI1051.1 ka_240) (x920.toInt + (-1)) (by omega) (by omega) v944 ((eA_c ((gA_sI).trans (hF923.2.1 240 (by decide)))).trans hv944) ?_
            refine r_bipush 29 rfl ?_
            refine r_ics 63 rfl (fun c1054 => ?_) (fun c1054 => ?_)
            · have c1054_ : v944.toInt ≠ 29 := en_i_ne_t c1054
              exfalso; omega
            · have c1054_ : v944.toInt = 29 := en_i_ne_f c1054
              refine At.enter rfl ?_
              refine r_aload_n e929 ?_
              refine q_getR (Sh.ref hI1051.1 kx_231 rfl) ?_
              refine r_aload_n e929 ?_
              refine q_getR (Sh.ref hI1051.1 kx_231 rfl) ?_
              refine r_aload_n e929 ?_
              refine q_getI (Sh.int hI1051.1 kx_231 rfl) v1050 (gI_sI_eq hI922.1 kx_231 rfl _) ?_
              obtain ⟨v1055, hv1055⟩ : ∃ v, eA g0 241 (x920.toInt + (-1)) = v := ⟨_, rfl⟩
              have rv1055 := RgA.at hI0.2.2.1 (Sh.arr hI0.1 ka_241).2 (p := 241) rfl (j := (x920.toInt + (-1))) (by omega)
              rw [hv1055] at rv1055
              dsimp only at rv1055
              refine q_iald (Sh.arr hI1051.1 ka_241) (x920.toInt + (-1)) (by omega) (by omega) v1055 ((eA_c ((gA_sI).trans (hF923.2.1 241 (by decide)))).trans hv1055) ?_
              refine r_aload_n e929 ?_
              refine q_getI (Sh.int hI1051.1 kx_231 rfl) x919 ((gI_sI_ne (by decide)).trans e927) ?_
              refine q_iast (Sh.arr hI1051.1 ka_239) (v1055.toInt) rfl (by omega) ?_
              have hI1056 := HI.wA0 hI1051 ka_239 (p := 239) rfl rfl (v1055.toInt) (x919)
              have hF1057 := Fr.wA (p := 239) (j := v1055.toInt) (v := x919) hF1052 rfl
              refine r_goto ?_
              exact ih926 (v1050.toInt) _ _ ⟨x919, v1050, by first | rfl | omega, hI1056, hF1057, (((gI_sW).trans (gI_sI_ne (by decide))).trans e927), ((gI_sW).trans (gI_sI_eq hI922.1 kx_231 rfl _)), e929, e930, by omega, by omega, by omega, (fun b o0 a0 h => PG.settleJ (q934 b o0 a0 h) (((gA_sA_ne (by decide)).trans (gA_sI))) (((gA_sA_ne (by decide)).trans (gA_sI))) (((gA_sA_ne (by decide)).trans (gA_sI))) (((gI_sW).trans (gI_sI_ne (by decide)))) (by have jf := HI.eqI hI1056 (p := 231) (b := 23) (((gI_sW).trans (gI_sI_eq hI922.1 kx_231 rfl _))); show (gI _ 231 23).toInt = (gI _ 231 23).toInt - 1; omega) (by show 1 ≤ (gI _ 231 23).toInt; omega) (by show 28 ≤ (eA g921 240 ((gI g921 231 23).toInt - 1)).toInt ∧ (eA g921 240 ((gI g921 231 23).toInt - 1)).toInt ≤ 29; rw [show (gI g921 231 23).toInt - 1 = (x920.toInt + (-1)) by omega, eA_c (j := (x920.toInt + (-1))) (hF923.2.1 240 (by decide)), hv944]; omega) (by show (eA _ 239 (eA g921 241 ((gI g921 231 23).toInt - 1)).toInt).toInt = (gI g921 231 17).toInt; rw [show (gI g921 231 23).toInt - 1 = (x920.toInt + (-1)) by omega, eA_c (j := (x920.toInt + (-1))) (hF923.2.1 241 (by decide)), hv1055, show eA _ 239 v1055.toInt = _ from (eA_sA_eq hI1051.1 ka_239 (by first | rfl | omega) (by first | decide | omega) (by first | decide | omega))]; omega) (fun i i0 hne => by have hne : i ≠ (eA g921 241 ((gI g921 231 23).toInt - 1)).toInt := hne; rw [show (gI g921 231 23).toInt - 1 = (x920.toInt + (-1)) by omega, eA_c (j := (x920.toInt + (-1))) (hF923.2.1 241 (by decide)), hv1055] at hne; exact ((eA_sA_ne (i := i) hI1051.1 ka_239 (by omega) (by omega) (by omega)).trans (eA_c gA_sI)))), (fun j h0 h1 => (Decidable.em (j = x920.toInt - 1)).elim (fun e => by rw [e, show x920.toInt - 1 = (x920.toInt + (-1)) by omega, hv944]; omega) (fun e => q935 j (by omega) h1)), by omega⟩ ⟨by omega, by omega⟩
    · have c945_ : v944.toInt ≥ 30 := en_i_lt_f c945
      refine At.enter rfl ?_
      refine r_iconst 0 rfl ?_
      refine r_goto ?_
      refine At.enter rfl ?_
      refine q_ireti ?_
      refine At.enter rfl ?_
      refine r_iload_n e930 ?_
      refine r_ics 25 rfl (fun c1058 => ?_) (fun c1058 => ?_)
      · have c1058_ : 0 < a1.toInt := en_i_lt_t c1058
        refine At.enter rfl ?_
        refine r_vret ?_
        have x1059 := HI.eqI hI922 (p := 231) (b := 17) (e927)
        have x1060 := HI.eqI hI922 (p := 231) (b := 23) (e928)
        exact ⟨_, rfl, hI922, hF923, rfl, ⟨by show (gI _ 231 23).toInt ≤ (gI _ 231 23).toInt; omega, by show (gI _ 231 17).toInt + (gI _ 231 23).toInt ≤ (gI _ 231 17).toInt + (gI _ 231 23).toInt; omega, q934, (fun j h0 h1 => q935 j (by have h0 : (gI g921 231 23).toInt ≤ j := h0; omega) h1), hF923.2.1 240 (by decide), (by show (gI g921 231 23).toInt = 0 ∨ ((a1.toInt = 1 → 30 ≤ (eA g0 240 ((gI g921 231 23).toInt - 1)).toInt) ∧ (a1.toInt = 5 → 24 ≤ (eA g0 240 ((gI g921 231 23).toInt - 1)).toInt)); rw [show (gI g921 231 23).toInt - 1 = (x920.toInt + (-1)) by omega, hv944]; omega)⟩⟩
      · have c1058_ : 0 ≥ a1.toInt := en_i_lt_f c1058
        exfalso; omega
