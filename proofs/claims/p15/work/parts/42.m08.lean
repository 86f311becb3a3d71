def F_X11_run_231 : List (Nat × Nat) := [(231, 27), (231, 30), (231, 31), (231, 32)]
def A_X11_run_231 : List Nat := [250, 251, 252, 253, 254, 255, 256]
theorem ma_X11_first_231_250 : memA A_X11_first_231 250 = false := by decide
theorem ma_X11_first_231_255 : memA A_X11_first_231 255 = false := by decide
theorem ma_X11_first_231_233 : memA A_X11_first_231 233 = false := by decide
theorem ma_X11_goOn_231_255 : memA A_X11_goOn_231 255 = false := by decide
theorem ma_X11_goOn_231_233 : memA A_X11_goOn_231 233 = false := by decide
theorem ma_X11_tells_231_250 : memA A_X11_tells_231 250 = false := by decide
theorem ma_X11_tells_231_255 : memA A_X11_tells_231 255 = false := by decide
set_option maxRecDepth 100000 in
set_option maxHeartbeats 4000000 in
theorem T_X11_run_231 (d : Nat) {N : Nat} {g0 : List en_E} (hI0 : HI g0) : Ev (d + 7) 225 [.ref 231] (g0, N) (fun w h' => ∃ g', h' = (g', N) ∧ HI g' ∧ Fr F_X11_run_231 A_X11_run_231 g0 g' ∧ w = none) := by
  have hF0 : Fr F_X11_run_231 A_X11_run_231 g0 g0 := Fr.rf
  refine Ev.mk rfl rfl ⟨Nat.le_of_ble_eq_true rfl, Or.inr (q_rc hI0.1 kx_231 rfl)⟩ ?_
  show At _ none _ _ (0, [(0, .ref 231)], [], (_, _)) _
  refine At.enter rfl ?_
  refine r_iconst 0 rfl ?_
  refine r_istore_n ([(1, .int 0), (0, .ref 231)]) rfl ?_
  refine Ar.fall 2 rfl ?_
  have z_887196 : (0 : Int32).toInt = 0 := rfl
  refine w_loopI (fun n_ l_ g_ => ∃ x887186 : Int32, n_ = 8 - x887186.toInt ∧ HI g_ ∧ Fr F_X11_run_231 A_X11_run_231 g0 g_ ∧ en_get 0 l_ = some (.ref 231) ∧ en_get 1 l_ = some (.int x887186) ∧ (0 ≤ x887186.toInt ∧ x887186.toInt ≤ 8)) ?_ (8 - 0) ⟨0, by first | rfl | omega, hI0, hF0, rfl, rfl, by decide⟩
  rintro n887191 l887190 g887187 ⟨x887186, hm887197, hI887188, hF887189, e887193, e887194, r887195⟩ ih887192
  refine At.enter rfl ?_
  refine r_iload_n e887194 ?_
  refine r_aload_n e887193 ?_
  refine q_getR (Sh.ref hI887188.1 kx_231 rfl) ?_
  refine r_iconst 1 rfl ?_
  obtain ⟨v887198, hv887198⟩ : ∃ v, eA g0 233 1 = v := ⟨_, rfl⟩
  have tv887198 := congrArg Int32.toInt hv887198
  have wv887198 := HI.t1 hI0
  rw [hv887198] at wv887198
  refine q_iald (Sh.arr hI887188.1 ka_233) 1 rfl (by decide) v887198 ((eA_c (hF887189.2.1 233 (by decide))).trans hv887198) ?_
  have bv887200 := q_bnd x887186
  have bv887201 := q_bnd v887198
  refine r_ics 12 rfl (fun c887199 => ?_) (fun c887199 => ?_)
  · have c887199_ : x887186.toInt ≥ v887198.toInt := en_i_ge_t c887199
    refine At.enter rfl ?_
    refine r_iconst 0 rfl ?_
    refine r_istore_n _ rfl ?_
    refine Ar.fall 48 rfl ?_
    have z_928204 : (0 : Int32).toInt = 0 := rfl
    refine w_loopI (fun n_ l_ g_ => ∃ x928194 : Int32, n_ = 100 - x928194.toInt ∧ HI g_ ∧ Fr F_X11_run_231 A_X11_run_231 g0 g_ ∧ en_get 0 l_ = some (.ref 231) ∧ en_get 1 l_ = some (.int x928194) ∧ (0 ≤ x928194.toInt ∧ x928194.toInt ≤ 100)) ?_ (100 - 0) ⟨0, by first | rfl | omega, hI887188, hF887189, (w_p1 (by decide) (Or.inr rfl) e887193), (w_e1 _ _ _), by decide⟩
    rintro n928199 l928198 g928195 ⟨x928194, hm928205, hI928196, hF928197, e928201, e928202, r928203⟩ ih928200
    refine At.enter rfl ?_
    refine r_iload_n e928202 ?_
    refine r_bipush 100 rfl ?_
    refine r_ics 54 rfl (fun c928206 => ?_) (fun c928206 => ?_)
    · have c928206_ : x928194.toInt ≥ 100 := en_i_ge_t c928206
      refine At.enter rfl ?_
      refine r_vret ?_
      exact ⟨_, rfl, hI928196, hF928197, rfl⟩
    · have c928206_ : x928194.toInt < 100 := en_i_ge_f c928206
      refine At.enter rfl ?_
      refine r_aload_n e928201 ?_
      refine r_iload_n e928202 ?_
      refine r_callV 59 rfl [.ref 231, .int x928194] [] (Nat.le_of_ble_eq_true rfl) rfl (T_X11_bring_231 _ hI928196 x928194 (by omega)) ?_
      rintro _ _ ⟨g928207, rfl, hI928208, hF928209, rfl⟩
      refine At.stn ?_
      have hF928212 := Fr.tr hF928197 hF928209 rfl rfl
      refine At.enter rfl ?_
      refine r_iconst 0 rfl ?_
      refine r_istore_n _ rfl ?_
      refine Ar.fall 61 rfl ?_
      have z_930643 : (0 : Int32).toInt = 0 := rfl
      refine w_loopI (fun n_ l_ g_ => ∃ x930631 : Int32, n_ = 8 - x930631.toInt ∧ HI g_ ∧ Fr F_X11_run_231 A_X11_run_231 g0 g_ ∧ en_get 0 l_ = some (.ref 231) ∧ en_get 1 l_ = some (.int x928194) ∧ en_get 2 l_ = some (.int x930631) ∧ (0 ≤ x930631.toInt ∧ x930631.toInt ≤ 8) ∧ (∀ j : Int, 0 ≤ j → j < x930631.toInt → (eA g_ 255 j).toInt = 0 → 0 ≤ (eA g_ 250 j).toInt)) ?_ (8 - 0) ⟨0, by first | rfl | omega, hI928208, hF928212, (w_p1 (by decide) (Or.inr rfl) e928201), (w_p1 (by decide) (Or.inr rfl) e928202), (w_e1 _ _ _), by decide, (fun j h0 h1 _ => absurd h1 (by omega))⟩
      rintro n930636 l930635 g930632 ⟨x930631, hm930644, hI930633, hF930634, e930638, e930639, e930640, r930641, q930642⟩ ih930637
      refine At.enter rfl ?_
      refine r_iload_n e930640 ?_
      refine r_aload_n e930638 ?_
      refine q_getR (Sh.ref hI930633.1 kx_231 rfl) ?_
      refine r_iconst 1 rfl ?_
      refine q_iald (Sh.arr hI930633.1 ka_233) 1 rfl (by decide) v887198 ((eA_c (hF930634.2.1 233 (by decide))).trans hv887198) ?_
      have bv930646 := q_bnd x930631
      refine r_ics 71 rfl (fun c930645 => ?_) (fun c930645 => ?_)
      · have c930645_ : x930631.toInt ≥ v887198.toInt := en_i_ge_t c930645
        refine At.enter rfl ?_
        refine r_aload_n e930638 ?_
        refine r_callV 141 rfl [.ref 231] [] (Nat.le_of_ble_eq_true rfl) rfl (T_X11_first_231 _ hI930633) ?_
        rintro _ _ ⟨g930647, rfl, hI930648, hF930649, v930650, rfl, hr930651⟩
        refine At.sti ?_
        have hF930652 := Fr.tr hF930634 hF930649 rfl rfl
        refine At.enter rfl ?_
        refine r_istore_n _ rfl ?_
        refine Ar.fall 142 rfl ?_
        refine w_loopI (fun n_ l_ g_ => ∃ x930951 : Int32, n_ = cz g_ ∧ HI g_ ∧ Fr F_X11_run_231 A_X11_run_231 g0 g_ ∧ en_get 0 l_ = some (.ref 231) ∧ en_get 1 l_ = some (.int x928194) ∧ en_get 2 l_ = some (.int x930951) ∧ ((-1) ≤ x930951.toInt ∧ x930951.toInt ≤ 7) ∧ (∀ j : Int, 0 ≤ j → j < (eA g0 233 1).toInt → (eA g_ 255 j).toInt = 0 → 0 ≤ (eA g_ 250 j).toInt) ∧ (x930951.toInt = -1 ∨ (0 ≤ x930951.toInt ∧ x930951.toInt < (eA g0 233 1).toInt ∧ (eA g_ 255 x930951.toInt).toInt = 0))) ?_ (_) ⟨v930650, rfl, hI930648, hF930652, (w_p1 (by decide) (Or.inr rfl) e930638), (w_p1 (by decide) (Or.inr rfl) e930639), (w_e1 _ _ _), by omega, (by intro j h0 h1 hz; rw [eA_c (hF930649.2.1 250 ma_X11_first_231_250)]; exact q930642 j h0 (by rw [hv887198] at h1; omega) ((congrArg Int32.toInt (eA_c (hF930649.2.1 255 ma_X11_first_231_255))).symm.trans hz)), (by rw [← eA_c ((hF930649.2.1 233 ma_X11_first_231_233).trans (hF930634.2.1 233 (by decide)))]; exact hr930651.2)⟩
        rintro n930956 l930955 g930952 ⟨x930951, hm930964, hI930953, hF930954, e930958, e930959, e930960, r930961, q930962, q930963⟩ ih930957
        refine At.enter rfl ?_
        refine r_iload_n e930960 ?_
        refine r_iconst (-1) rfl ?_
        refine r_ics 147 rfl (fun c930965 => ?_) (fun c930965 => ?_)
        · have c930965_ : x930951.toInt = (-1) := en_i_eq_t c930965
          refine At.enter rfl ?_
          refine r_iconst 0 rfl ?_
          refine r_istore_n _ rfl ?_
          refine Ar.fall 170 rfl ?_
          have z_931083 : (0 : Int32).toInt = 0 := rfl
          refine w_loopI (fun n_ l_ g_ => ∃ x931071 : Int32, n_ = 8 - x931071.toInt ∧ HI g_ ∧ Fr F_X11_run_231 A_X11_run_231 g0 g_ ∧ en_get 0 l_ = some (.ref 231) ∧ en_get 1 l_ = some (.int x928194) ∧ en_get 2 l_ = some (.int x930951) ∧ en_get 3 l_ = some (.int x931071) ∧ (0 ≤ x931071.toInt ∧ x931071.toInt ≤ 8)) ?_ (8 - 0) ⟨0, by first | rfl | omega, hI930953, hF930954, (w_p1 (by decide) (Or.inr rfl) e930958), (w_p1 (by decide) (Or.inr rfl) e930959), (w_p1 (by decide) (Or.inr rfl) e930960), (w_e1 _ _ _), by decide⟩
          rintro n931076 l931075 g931072 ⟨x931071, hm931084, hI931073, hF931074, e931078, e931079, e931080, e931081, r931082⟩ ih931077
          refine At.enter rfl ?_
          refine r_iload_n e931081 ?_
          refine r_aload_n e931078 ?_
          refine q_getR (Sh.ref hI931073.1 kx_231 rfl) ?_
          refine r_iconst 1 rfl ?_
          refine q_iald (Sh.arr hI931073.1 ka_233) 1 rfl (by decide) v887198 ((eA_c (hF931074.2.1 233 (by decide))).trans hv887198) ?_
          have bv931086 := q_bnd x931071
          refine r_ics 180 rfl (fun c931085 => ?_) (fun c931085 => ?_)
          · have c931085_ : x931071.toInt ≥ v887198.toInt := en_i_ge_t c931085
            refine At.enter rfl ?_
            refine q_iinc e931079 (x928194.toInt + 1) rfl (by omega) (fun v931087 hv931087 => ?_)
            refine r_goto ?_
            exact ih928200 (100 - v931087.toInt) _ _ ⟨v931087, by first | rfl | omega, hI931073, hF931074, (w_p1 (by decide) (Or.inr rfl) e931078), (w_e1 _ _ _), by omega⟩ ⟨by omega, by omega⟩
          · have c931085_ : x931071.toInt < v887198.toInt := en_i_ge_f c931085
            refine At.enter rfl ?_
            refine r_aload_n e931078 ?_
            refine q_getR (Sh.ref hI931073.1 kx_231 rfl) ?_
            refine r_bipush 100 rfl ?_
            refine r_iload_n e931081 ?_
            refine q_imul (100 * x931071.toInt) rfl (by omega) (fun v931088 hv931088 => ?_)
            refine r_iload_n e931079 ?_
            refine q_iadd (v931088.toInt + x928194.toInt) rfl (by omega) (fun v931089 hv931089 => ?_)
            refine r_aload_n e931078 ?_
            refine q_getR (Sh.ref hI931073.1 kx_231 rfl) ?_
            refine r_iload_n e931081 ?_
            obtain ⟨v931090, hv931090⟩ : ∃ v, eA g931072 250 x931071.toInt = v := ⟨_, rfl⟩
            have rv931090 := RgA.at hI931073.2.2.1 (Sh.arr hI931073.1 ka_250).2 (p := 250) rfl (j := x931071.toInt) (by omega)
            rw [hv931090] at rv931090
            dsimp only at rv931090
            refine q_iald (Sh.arr hI931073.1 ka_250) x931071.toInt rfl (by omega) v931090 hv931090 ?_
            refine r_ifs 199 rfl (fun c931091 => ?_) (fun c931091 => ?_)
            · have c931091_ : v931090.toInt ≥ 0 := en_k_ge_t c931091
              refine At.enter rfl ?_
              refine r_aload_n e931078 ?_
              refine q_getR (Sh.ref hI931073.1 kx_231 rfl) ?_
              refine r_iload_n e931081 ?_
              refine q_iald (Sh.arr hI931073.1 ka_250) x931071.toInt rfl (by omega) v931090 hv931090 ?_
              refine Ar.fall 209 rfl ?_
              refine At.enter rfl ?_
              refine q_iast (Sh.arr hI931073.1 ka_256) ((100 * x931071.toInt + x928194.toInt)) (by omega) (by omega) ?_
              have hI931092 := HI.wA0 hI931073 ka_256 (p := 256) rfl rfl ((100 * x931071.toInt + x928194.toInt)) (v931090)
              have hF931093 := Fr.wA (p := 256) (j := (100 * x931071.toInt + x928194.toInt)) (v := v931090) hF931074 rfl
              refine q_iinc e931081 (x931071.toInt + 1) rfl (by omega) (fun v931094 hv931094 => ?_)
              refine r_goto ?_
              exact ih931077 (8 - v931094.toInt) _ _ ⟨v931094, by first | rfl | omega, hI931092, hF931093, (w_p1 (by decide) (Or.inr rfl) e931078), (w_p1 (by decide) (Or.inr rfl) e931079), (w_p1 (by decide) (Or.inr rfl) e931080), (w_e1 _ _ _), by omega⟩ ⟨by omega, by omega⟩
            · have c931091_ : v931090.toInt < 0 := en_k_ge_f c931091
              refine At.enter rfl ?_
              refine r_iconst (-1) rfl ?_
              refine r_goto ?_
              refine At.enter rfl ?_
              refine q_iast (Sh.arr hI931073.1 ka_256) ((100 * x931071.toInt + x928194.toInt)) (by omega) (by omega) ?_
              have hI931095 := HI.wA0 hI931073 ka_256 (p := 256) rfl rfl ((100 * x931071.toInt + x928194.toInt)) ((-1))
              have hF931096 := Fr.wA (p := 256) (j := (100 * x931071.toInt + x928194.toInt)) (v := (-1)) hF931074 rfl
              refine q_iinc e931081 (x931071.toInt + 1) rfl (by omega) (fun v931097 hv931097 => ?_)
              refine r_goto ?_
              exact ih931077 (8 - v931097.toInt) _ _ ⟨v931097, by first | rfl | omega, hI931095, hF931096, (w_p1 (by decide) (Or.inr rfl) e931078), (w_p1 (by decide) (Or.inr rfl) e931079), (w_p1 (by decide) (Or.inr rfl) e931080), (w_e1 _ _ _), by omega⟩ ⟨by omega, by omega⟩
        · have c930965_ : x930951.toInt ≠ (-1) := en_i_eq_f c930965
          refine At.enter rfl ?_
          refine r_aload_n e930958 ?_
          refine q_getR (Sh.ref hI930953.1 kx_231 rfl) ?_
          refine r_iload_n e930960 ?_
          refine r_iconst 1 rfl ?_
          refine q_bast (Sh.arr hI930953.1 ka_255) (x930951.toInt) rfl (by omega) rfl ?_
          have hI931098 := HI.wA0 hI930953 ka_255 (p := 255) rfl rfl (x930951.toInt) (1)
          have hF931099 := Fr.wA (p := 255) (j := x930951.toInt) (v := 1) hF930954 rfl
          refine r_aload_n e930958 ?_
          refine r_iload_n e930960 ?_
          refine r_iload_n e930959 ?_
          refine r_callV 160 rfl [.ref 231, .int x930951, .int x928194] [] (Nat.le_of_ble_eq_true rfl) rfl (T_X11_goOn_231 _ hI931098 x930951 (by omega) x928194 (by omega) (by rw [eA_c (gA_sA_ne (by decide))]; exact q930963.elim (fun h => absurd h (by omega)) (fun h => q930962 _ h.1 h.2.1 h.2.2))) ?_
          rintro _ _ ⟨g931100, rfl, hI931101, hF931102, rfl, hr931104⟩
          refine At.stn ?_
          have hF931105 := Fr.tr hF931099 hF931102 rfl rfl
          refine At.enter rfl ?_
          refine r_aload_n e930958 ?_
          refine r_callV 164 rfl [.ref 231] [] (Nat.le_of_ble_eq_true rfl) rfl (T_X11_first_231 _ hI931101) ?_
          rintro _ _ ⟨g931106, rfl, hI931107, hF931108, v931109, rfl, hr931110⟩
          refine At.sti ?_
          have hF931111 := Fr.tr hF931105 hF931108 rfl rfl
          refine At.enter rfl ?_
          refine r_istore_n _ rfl ?_
          refine r_goto ?_
          exact ih930957 (_) _ _ ⟨v931109, rfl, hI931107, hF931111, (w_p1 (by decide) (Or.inr rfl) e930958), (w_p1 (by decide) (Or.inr rfl) e930959), (w_e1 _ _ _), by omega, (by intro j h0 h1 hz; exact (Decidable.em (j = x930951.toInt)).elim (fun e => absurd hz (by rw [e, ((eA_c ((hF931108.2.1 255 ma_X11_first_231_255).trans (hF931102.2.1 255 ma_X11_goOn_231_255))).trans (eA_sA_eq hI930953.1 ka_255 rfl (by omega) (by omega)))]; decide)) (fun e => by rw [eA_c (hF931108.2.1 250 ma_X11_first_231_250), hr931104 j h0 e, eA_c (gA_sA_ne (by decide))]; exact q930962 j h0 h1 ((congrArg Int32.toInt ((eA_c ((hF931108.2.1 255 ma_X11_first_231_255).trans (hF931102.2.1 255 ma_X11_goOn_231_255))).trans (eA_sA_ne hI930953.1 ka_255 e (by omega) h0))).symm.trans hz))), (by rw [← eA_c ((hF931108.2.1 233 ma_X11_first_231_233).trans ((hF931102.2.1 233 ma_X11_goOn_231_233).trans ((gA_sA_ne (by decide)).trans (hF930954.2.1 233 (by decide)))))]; exact hr931110.2)⟩ ⟨cz_nn _, by rw [hm930964, cz_c ((hF931108.2.1 255 ma_X11_first_231_255).trans (hF931102.2.1 255 ma_X11_goOn_231_255))]; exact cz_lt hI930953.1 ⟨by omega, by omega⟩ (by decide) (q930963.elim (fun h => absurd h (by omega)) (fun h => h.2.2))⟩
      · have c930645_ : x930631.toInt < v887198.toInt := en_i_ge_f c930645
        refine At.enter rfl ?_
        refine r_aload_n e930638 ?_
        refine q_getR (Sh.ref hI930633.1 kx_231 rfl) ?_
        refine r_iload_n e930640 ?_
        refine r_aload_n e930638 ?_
        refine q_getR (Sh.ref hI930633.1 kx_231 rfl) ?_
        refine r_iload_n e930640 ?_
        obtain ⟨v931112, hv931112⟩ : ∃ v, eA g930632 250 x930631.toInt = v := ⟨_, rfl⟩
        have rv931112 := RgA.at hI930633.2.2.1 (Sh.arr hI930633.1 ka_250).2 (p := 250) rfl (j := x930631.toInt) (by omega)
        rw [hv931112] at rv931112
        dsimp only at rv931112
        refine q_iald (Sh.arr hI930633.1 ka_250) x930631.toInt rfl (by omega) v931112 hv931112 ?_
        refine r_ifs 85 rfl (fun c931113 => ?_) (fun c931113 => ?_)
        · have c931113_ : v931112.toInt ≥ 0 := en_k_ge_t c931113
          refine At.enter rfl ?_
          refine r_iconst 0 rfl ?_
          refine Ar.fall 90 rfl ?_
          refine At.enter rfl ?_
          refine q_bast (Sh.arr hI930633.1 ka_255) (x930631.toInt) rfl (by omega) rfl ?_
          have hI931114 := HI.wA0 hI930633 ka_255 (p := 255) rfl rfl (x930631.toInt) (0)
          have hF931115 := Fr.wA (p := 255) (j := x930631.toInt) (v := 0) hF930634 rfl
          refine r_aload_n e930638 ?_
          refine q_getR (Sh.ref hI931114.1 kx_231 rfl) ?_
          refine r_iload_n e930640 ?_
          refine r_aload_n e930638 ?_
          refine q_getR (Sh.ref hI931114.1 kx_231 rfl) ?_
          refine r_iload_n e930640 ?_
          refine q_bald (Sh.arr hI931114.1 ka_255) x930631.toInt rfl (by omega) 0 (eA_sA_eq hI930633.1 ka_255 (by first | rfl | omega) (by first | decide | omega) (by first | decide | omega)) ?_
          refine r_ift (by decide) ?_
          refine At.enter rfl ?_
          refine r_aload_n e930638 ?_
          refine r_iconst 0 rfl ?_
          refine r_iload_n e930640 ?_
          refine r_aload_n e930638 ?_
          refine q_getR (Sh.ref hI931114.1 kx_231 rfl) ?_
          refine r_iload_n e930640 ?_
          refine q_iald (Sh.arr hI931114.1 ka_250) x930631.toInt rfl (by omega) v931112 ((eA_c (gA_sA_ne (by decide))).trans hv931112) ?_
          refine r_iload_n e930639 ?_
          refine r_aload_n e930638 ?_
          refine q_getR (Sh.ref hI931114.1 kx_231 rfl) ?_
          refine r_iload_n e930640 ?_
          obtain ⟨v931116, hv931116⟩ : ∃ v, eA g930632 251 x930631.toInt = v := ⟨_, rfl⟩
          refine q_iald (Sh.arr hI931114.1 ka_251) x930631.toInt rfl (by omega) v931116 ((eA_c (gA_sA_ne (by decide))).trans hv931116) ?_
          refine r_lconst 0 rfl ?_
          refine r_callV 129 rfl [.ref 231, .int 0, .int x930631, .int v931112, .int x928194, .int v931116, .long 0] [.int x930631, .ref 254] (Nat.le_of_ble_eq_true rfl) rfl (T_X11_tells_231 _ hI931114 0 x930631 (by omega) v931112 (by omega) x928194 v931116 0) ?_
          rintro _ _ ⟨g931117, rfl, hI931118, hF931119, v931120, rfl, hr931121⟩
          refine At.stl ?_
          have hF931122 := Fr.tr hF931115 hF931119 rfl rfl
          refine At.enter rfl ?_
          refine q_l2iO (fun v931123 hv931123 => ?_)
          refine Ar.fall 130 rfl ?_
          refine At.enter rfl ?_
          refine q_iast (Sh.arr hI931118.1 ka_254) (x930631.toInt) rfl (by omega) ?_
          have hI931124 := HI.wA0 hI931118 ka_254 (p := 254) rfl rfl (x930631.toInt) (v931123)
          have hF931125 := Fr.wA (p := 254) (j := x930631.toInt) (v := v931123) hF931122 rfl
          refine q_iinc e930640 (x930631.toInt + 1) rfl (by omega) (fun v931126 hv931126 => ?_)
          refine r_goto ?_
          exact ih930637 (8 - v931126.toInt) _ _ ⟨v931126, by first | rfl | omega, hI931124, hF931125, (w_p1 (by decide) (Or.inr rfl) e930638), (w_p1 (by decide) (Or.inr rfl) e930639), (w_e1 _ _ _), by omega, (by intro j h0 h1 hz; rw [eA_c ((gA_sA_ne (by decide)).trans ((hF931119.2.1 250 ma_X11_tells_231_250).trans (gA_sA_ne (by decide))))]; exact (Decidable.em (j = x930631.toInt)).elim (fun e => by rw [e, hv931112]; omega) (fun e => q930642 j h0 (by omega) ((congrArg Int32.toInt ((eA_c ((gA_sA_ne (by decide)).trans (hF931119.2.1 255 ma_X11_tells_231_255))).trans (eA_sA_ne hI930633.1 ka_255 e (by omega) h0))).symm.trans hz)))⟩ ⟨by omega, by omega⟩
        · have c931113_ : v931112.toInt < 0 := en_k_ge_f c931113
          refine At.enter rfl ?_
          refine r_iconst 1 rfl ?_
          refine r_goto ?_
          refine At.enter rfl ?_
          refine q_bast (Sh.arr hI930633.1 ka_255) (x930631.toInt) rfl (by omega) rfl ?_
          have hI931127 := HI.wA0 hI930633 ka_255 (p := 255) rfl rfl (x930631.toInt) (1)
          have hF931128 := Fr.wA (p := 255) (j := x930631.toInt) (v := 1) hF930634 rfl
          refine r_aload_n e930638 ?_
          refine q_getR (Sh.ref hI931127.1 kx_231 rfl) ?_
          refine r_iload_n e930640 ?_
          refine r_aload_n e930638 ?_
          refine q_getR (Sh.ref hI931127.1 kx_231 rfl) ?_
          refine r_iload_n e930640 ?_
          refine q_bald (Sh.arr hI931127.1 ka_255) x930631.toInt rfl (by omega) 1 (eA_sA_eq hI930633.1 ka_255 (by first | rfl | omega) (by first | decide | omega) (by first | decide | omega)) ?_
          refine r_iff 105 rfl (by decide) ?_
          refine At.enter rfl ?_
          refine r_iconst 0 rfl ?_
          refine r_goto ?_
          refine At.enter rfl ?_
          refine q_iast (Sh.arr hI931127.1 ka_254) (x930631.toInt) rfl (by omega) ?_
          have hI931129 := HI.wA0 hI931127 ka_254 (p := 254) rfl rfl (x930631.toInt) (0)
          have hF931130 := Fr.wA (p := 254) (j := x930631.toInt) (v := 0) hF931128 rfl
          refine q_iinc e930640 (x930631.toInt + 1) rfl (by omega) (fun v931131 hv931131 => ?_)
          refine r_goto ?_
          exact ih930637 (8 - v931131.toInt) _ _ ⟨v931131, by first | rfl | omega, hI931129, hF931130, (w_p1 (by decide) (Or.inr rfl) e930638), (w_p1 (by decide) (Or.inr rfl) e930639), (w_e1 _ _ _), by omega, (by intro j h0 h1 hz; rw [eA_c ((gA_sA_ne (by decide)).trans (gA_sA_ne (by decide)))]; exact (Decidable.em (j = x930631.toInt)).elim (fun e => absurd hz (by rw [e, ((eA_c (gA_sA_ne (by decide))).trans (eA_sA_eq hI930633.1 ka_255 rfl (by omega) (by omega)))]; decide)) (fun e => q930642 j h0 (by omega) ((congrArg Int32.toInt ((eA_c (gA_sA_ne (by decide))).trans (eA_sA_ne hI930633.1 ka_255 e (by omega) h0))).symm.trans hz)))⟩ ⟨by omega, by omega⟩
  · have c887199_ : x887186.toInt < v887198.toInt := en_i_ge_f c887199
    refine At.enter rfl ?_
    refine r_aload_n e887193 ?_
    refine q_getR (Sh.ref hI887188.1 kx_231 rfl) ?_
    refine r_iload_n e887194 ?_
    refine r_iconst (-1) rfl ?_
    refine q_iast (Sh.arr hI887188.1 ka_250) (x887186.toInt) rfl (by omega) ?_
    have hI931132 := HI.wA1 hI887188 ka_250 (p := 250) rfl rfl (x887186.toInt) (v := (-1)) (by decide)
    have hF931133 := Fr.wA (p := 250) (j := x887186.toInt) (v := (-1)) hF887189 rfl
    refine r_aload_n e887193 ?_
    refine q_getR (Sh.ref hI931132.1 kx_231 rfl) ?_
    refine r_iload_n e887194 ?_
    refine r_iconst 0 rfl ?_
    refine q_iast (Sh.arr hI931132.1 ka_251) (x887186.toInt) rfl (by omega) ?_
    have hI931134 := HI.wA0 hI931132 ka_251 (p := 251) rfl rfl (x887186.toInt) (0)
    have hF931135 := Fr.wA (p := 251) (j := x887186.toInt) (v := 0) hF931133 rfl
    refine r_aload_n e887193 ?_
    refine q_getR (Sh.ref hI931134.1 kx_231 rfl) ?_
    refine r_iload_n e887194 ?_
    refine r_iconst 0 rfl ?_
    refine q_iast (Sh.arr hI931134.1 ka_252) (x887186.toInt) rfl (by omega) ?_
    have hI931136 := HI.wA0 hI931134 ka_252 (p := 252) rfl rfl (x887186.toInt) (0)
    have hF931137 := Fr.wA (p := 252) (j := x887186.toInt) (v := 0) hF931135 rfl
    refine r_aload_n e887193 ?_
    refine q_getR (Sh.ref hI931136.1 kx_231 rfl) ?_
    refine r_iload_n e887194 ?_
    refine r_iconst (-1) rfl ?_
    refine q_iast (Sh.arr hI931136.1 ka_253) (x887186.toInt) rfl (by omega) ?_
    have hI931138 := HI.wA0 hI931136 ka_253 (p := 253) rfl rfl (x887186.toInt) ((-1))
    have hF931139 := Fr.wA (p := 253) (j := x887186.toInt) (v := (-1)) hF931137 rfl
    refine q_iinc e887194 (x887186.toInt + 1) rfl (by omega) (fun v931140 hv931140 => ?_)
    refine r_goto ?_
    exact ih887192 (8 - v931140.toInt) _ _ ⟨v931140, by first | rfl | omega, hI931138, hF931139, (w_p1 (by decide) (Or.inr rfl) e887193), (w_e1 _ _ _), by omega⟩ ⟨by omega, by omega⟩

def F_X11_runDay_231 : List (Nat × Nat) := [(231, 27), (231, 30), (231, 31), (231, 32), (231, 36)]
def A_X11_runDay_231 : List Nat := [246, 247, 248, 250, 251, 252, 253, 254, 255, 256]
set_option maxRecDepth 100000 in
set_option maxHeartbeats 4000000 in
theorem T_X11_runDay_231 (d : Nat) {N : Nat} {g0 : List en_E} (hI0 : HI g0) : Ev (d + 8) 229 [.ref 231] (g0, N) (fun w h' => ∃ g', h' = (g', N) ∧ HI g' ∧ Fr F_X11_runDay_231 A_X11_runDay_231 g0 g' ∧ w = none) := by
  have hF0 : Fr F_X11_runDay_231 A_X11_runDay_231 g0 g0 := Fr.rf
  refine Ev.mk rfl rfl ⟨Nat.le_of_ble_eq_true rfl, Or.inr (q_rc hI0.1 kx_231 rfl)⟩ ?_
  show At _ none _ _ (0, [(0, .ref 231)], [], (_, _)) _
  refine At.enter rfl ?_
  refine r_aload_n rfl ?_
  refine r_callV 4 rfl [.ref 231] [] (Nat.le_of_ble_eq_true rfl) rfl (T_X11_asIs_231 _ hI0) ?_
  rintro _ _ ⟨g25, rfl, hI26, hF27, rfl⟩
  refine At.stn ?_
  have hF30 := Fr.tr hF0 hF27 rfl rfl
  refine At.enter rfl ?_
  refine r_aload_n rfl ?_
  refine r_callV 8 rfl [.ref 231] [] (Nat.le_of_ble_eq_true rfl) rfl (T_X11_run_231 _ hI26) ?_
  rintro _ _ ⟨g31, rfl, hI32, hF33, rfl⟩
  refine At.stn ?_
  have hF36 := Fr.tr hF30 hF33 rfl rfl
  refine At.enter rfl ?_
  refine r_vret ?_
  exact ⟨_, rfl, hI32, hF36, rfl⟩
