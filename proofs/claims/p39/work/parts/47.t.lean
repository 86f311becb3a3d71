def zF_X10_hasBit_hb : List (Nat × Nat) := []
def zA_X10_hasBit_hb : List Nat := []
set_option maxRecDepth 100000 in
set_option maxHeartbeats 4000000 in
theorem zT_X10_hasBit_hb (d : Nat) {N : Nat} {g0 : List en_E} (hI0 : HI g0) (a0 : Int32) (a1 : Int32) : Ev (d + 1) 155 [.int a0, .int a1] (g0, N) (fun w h' => ∃ g', h' = (g', N) ∧ HI g' ∧ Fr zF_X10_hasBit_hb zA_X10_hasBit_hb g0 g' ∧ ∃ r : Int32, w = some (.int r) ∧ (0 ≤ r.toInt ∧ r.toInt ≤ 1) ∧ (BL (hbI a0 a1.toInt) r.toInt)) := by
  have hF0 : Fr zF_X10_hasBit_hb zA_X10_hasBit_hb g0 g0 := Fr.rf
  refine Ev.mk rfl rfl ⟨Nat.le_of_ble_eq_true rfl, Or.inl rfl⟩ ?_
  show At _ none _ _ (0, [(0, .int a0), (1, .int a1)], [], (_, _)) _
  refine At.enter rfl ?_
  refine r_iload_n rfl ?_
  refine r_iload_n rfl ?_
  refine q_ishrO (fun v7 hv7 => ?_)
  refine r_iconst 1 rfl ?_
  refine q_iandO (fun v8 hv8 => ?_)
  refine r_ifs 8 rfl (fun c9 => ?_) (fun c9 => ?_)
  · have c9_ : v8.toInt = 0 := en_k_eq_t c9
    refine At.enter rfl ?_
    refine r_iconst 0 rfl ?_
    refine Ar.fall 13 rfl ?_
    refine At.enter rfl ?_
    refine r_iretz (by decide) ?_
    have zv10 : (0 : Int32).toInt = 0 := rfl
    exact ⟨_, rfl, hI0, hF0, _, rfl, by decide, (Or.inr ⟨by omega, fun f => absurd ((hbI.mk (by assumption) hv8).1.mpr f) (by omega)⟩)⟩
  · have c9_ : v8.toInt ≠ 0 := en_k_eq_f c9
    refine At.enter rfl ?_
    refine r_iconst 1 rfl ?_
    refine r_goto ?_
    refine At.enter rfl ?_
    refine r_iretz (by decide) ?_
    have zv11 : (1 : Int32).toInt = 1 := rfl
    exact ⟨_, rfl, hI0, hF0, _, rfl, by decide, (Or.inl ⟨by omega, (hbI.mk (by assumption) hv8).1.mp (by omega)⟩)⟩

def zF_X0_about_1 : List (Nat × Nat) := []
def zA_X0_about_1 : List Nat := []
set_option maxRecDepth 100000 in
set_option maxHeartbeats 4000000 in
theorem zT_X0_about_1 (d : Nat) {N : Nat} {g0 : List en_E} (hI0 : HI g0) (a1 : Int32) (a2 : Int32) : Ev (d + 1) 11 [.ref 1, .int a1, .int a2] (g0, N) (fun w h' => ∃ g', h' = (g', N) ∧ HI g' ∧ Fr zF_X0_about_1 zA_X0_about_1 g0 g' ∧ ∃ r : Int32, w = some (.int r) ∧ True ∧ (ABX g0 a1.toInt a2.toInt r.toInt)) := by
  have hF0 : Fr zF_X0_about_1 zA_X0_about_1 g0 g0 := Fr.rf
  refine Ev.mk rfl rfl ⟨Nat.le_of_ble_eq_true rfl, Or.inr (q_rc hI0.1 kx_1 rfl)⟩ ?_
  show At _ none _ _ (0, [(0, .ref 1), (1, .int a1), (2, .int a2)], [], (_, _)) _
  refine At.enter rfl ?_
  refine r_iload_n rfl ?_
  refine r_ifs 4 rfl (fun c21 => ?_) (fun c21 => ?_)
  · have c21_ : a1.toInt < 0 := en_k_lt_t c21
    refine At.enter rfl ?_
    refine r_iconst (-1) rfl ?_
    refine Ar.fall 37 rfl ?_
    refine At.enter rfl ?_
    refine r_ireti ?_
    have zv22 : ((-1) : Int32).toInt = (-1) := rfl
    obtain ⟨v23, hv23⟩ : ∃ v, gI g0 1 4 = v := ⟨_, rfl⟩
    have rv23 := RgF.at hI0.2.1 (p := 1) (b := 4) rfl
    rw [hv23] at rv23
    dsimp only at rv23
    have tv23 := congrArg Int32.toInt hv23
    have x24 := HI.eqI hI0 (p := 1) (b := 4) (hv23)
    exact ⟨_, rfl, hI0, hF0, _, rfl, trivial, (ABX.mk (by omega) (by omega))⟩
  · have c21_ : a1.toInt ≥ 0 := en_k_lt_f c21
    refine At.enter rfl ?_
    refine r_iload_n rfl ?_
    refine r_aload_n rfl ?_
    obtain ⟨v25, hv25⟩ : ∃ v, gI g0 1 4 = v := ⟨_, rfl⟩
    have rv25 := RgF.at hI0.2.1 (p := 1) (b := 4) rfl
    rw [hv25] at rv25
    dsimp only at rv25
    refine q_getI (Sh.int hI0.1 kx_1 rfl) v25 hv25 ?_
    have bv27 := q_bnd a1
    have bv28 := q_bnd v25
    refine r_ics 12 rfl (fun c26 => ?_) (fun c26 => ?_)
    · have c26_ : a1.toInt ≥ v25.toInt := en_i_ge_t c26
      refine At.enter rfl ?_
      refine r_iconst (-1) rfl ?_
      refine Ar.fall 37 rfl ?_
      refine At.enter rfl ?_
      refine r_ireti ?_
      have zv29 : ((-1) : Int32).toInt = (-1) := rfl
      have x30 := HI.eqI hI0 (p := 1) (b := 4) (hv25)
      exact ⟨_, rfl, hI0, hF0, _, rfl, trivial, (ABX.mk (by omega) (by omega))⟩
    · have c26_ : a1.toInt < v25.toInt := en_i_ge_f c26
      refine At.enter rfl ?_
      refine r_iload_n rfl ?_
      refine r_ifs 16 rfl (fun c31 => ?_) (fun c31 => ?_)
      · have c31_ : a2.toInt < 0 := en_k_lt_t c31
        refine At.enter rfl ?_
        refine r_iconst (-1) rfl ?_
        refine Ar.fall 37 rfl ?_
        refine At.enter rfl ?_
        refine r_ireti ?_
        have zv32 : ((-1) : Int32).toInt = (-1) := rfl
        have x33 := HI.eqI hI0 (p := 1) (b := 4) (hv25)
        exact ⟨_, rfl, hI0, hF0, _, rfl, trivial, (ABX.mk (by omega) (by omega))⟩
      · have c31_ : a2.toInt ≥ 0 := en_k_lt_f c31
        refine At.enter rfl ?_
        refine r_iload_n rfl ?_
        refine r_bipush 6 rfl ?_
        refine r_ics 22 rfl (fun c34 => ?_) (fun c34 => ?_)
        · have c34_ : a2.toInt ≥ 6 := en_i_ge_t c34
          refine At.enter rfl ?_
          refine r_iconst (-1) rfl ?_
          refine Ar.fall 37 rfl ?_
          refine At.enter rfl ?_
          refine r_ireti ?_
          have zv35 : ((-1) : Int32).toInt = (-1) := rfl
          have x36 := HI.eqI hI0 (p := 1) (b := 4) (hv25)
          exact ⟨_, rfl, hI0, hF0, _, rfl, trivial, (ABX.mk (by omega) (by omega))⟩
        · have c34_ : a2.toInt < 6 := en_i_ge_f c34
          refine At.enter rfl ?_
          refine r_aload_n rfl ?_
          refine q_getR (Sh.ref hI0.1 kx_1 rfl) ?_
          refine r_iload_n rfl ?_
          refine r_bipush 6 rfl ?_
          refine q_imul (a1.toInt * 6) rfl (by omega) (fun v37 hv37 => ?_)
          refine r_iload_n rfl ?_
          refine q_iadd (v37.toInt + a2.toInt) rfl (by omega) (fun v38 hv38 => ?_)
          obtain ⟨v39, hv39⟩ : ∃ v, eA g0 5 (6 * a1.toInt + a2.toInt) = v := ⟨_, rfl⟩
          refine q_iald (Sh.arr hI0.1 ka_5) (6 * a1.toInt + a2.toInt) (by omega) (by omega) v39 hv39 ?_
          refine r_goto ?_
          refine At.enter rfl ?_
          refine r_ireti ?_
          have x40 := HI.eqI hI0 (p := 1) (b := 4) (hv25)
          have y41 := congrArg Int32.toInt hv39
          exact ⟨_, rfl, hI0, hF0, _, rfl, trivial, (ABX.mk (by omega) (by omega))⟩

def zF_X0_handsOf_1 : List (Nat × Nat) := []
def zA_X0_handsOf_1 : List Nat := []
set_option maxRecDepth 100000 in
set_option maxHeartbeats 4000000 in
theorem zT_X0_handsOf_1 (d : Nat) {N : Nat} {g0 : List en_E} (hI0 : HI g0) (a1 : Int32) : Ev (d + 3) 14 [.ref 1, .int a1] (g0, N) (fun w h' => ∃ g', h' = (g', N) ∧ HI g' ∧ Fr zF_X0_handsOf_1 zA_X0_handsOf_1 g0 g' ∧ ∃ r : Int32, w = some (.int r) ∧ ((-1) ≤ r.toInt ∧ r.toInt ≤ 11) ∧ (WAYX g0 a1.toInt r.toInt)) := by
  have hF0 : Fr zF_X0_handsOf_1 zA_X0_handsOf_1 g0 g0 := Fr.rf
  refine Ev.mk rfl rfl ⟨Nat.le_of_ble_eq_true rfl, Or.inr (q_rc hI0.1 kx_1 rfl)⟩ ?_
  show At _ none _ _ (0, [(0, .ref 1), (1, .int a1)], [], (_, _)) _
  refine At.enter rfl ?_
  refine r_aload_n rfl ?_
  refine r_iload_n rfl ?_
  refine r_iconst 1 rfl ?_
  refine r_callV 6 rfl [.ref 1, .int a1, .int 1] [] (Nat.le_of_ble_eq_true rfl) rfl (zT_X0_about_1 _ hI0 a1 1) ?_
  rintro _ _ ⟨g321, rfl, hI322, hF323, v324, rfl, hr325⟩
  refine At.sti ?_
  have hF326 := Fr.tr hF0 hF323 rfl rfl
  have zv327 : (1 : Int32).toInt = 1 := rfl
  have ab328 : ABX g0 a1.toInt 1 v324.toInt := hr325.2
  refine At.enter rfl ?_
  refine r_istore_n ([(2, .int v324), (0, .ref 1), (1, .int a1)]) rfl ?_
  refine r_aload_n rfl ?_
  refine r_iload_n rfl ?_
  refine r_iconst 2 rfl ?_
  refine r_callV 13 rfl [.ref 1, .int a1, .int 2] [] (Nat.le_of_ble_eq_true rfl) rfl (zT_X0_about_1 _ hI322 a1 2) ?_
  rintro _ _ ⟨g329, rfl, hI330, hF331, v332, rfl, hr333⟩
  refine At.sti ?_
  have hF334 := Fr.tr hF326 hF331 rfl rfl
  have zv335 : (2 : Int32).toInt = 2 := rfl
  have ab336_ := ABX.c ((hF323.2.1 5 (by decide))) ((hF323.1 1 4 (by decide))) hr333.2
  have ab336 : ABX g0 a1.toInt 2 v332.toInt := ab336_
  refine At.enter rfl ?_
  refine r_istore_n ([(3, .int v332), (2, .int v324), (0, .ref 1), (1, .int a1)]) rfl ?_
  refine r_iconst 0 rfl ?_
  refine r_istore ([(4, .int 0), (3, .int v332), (2, .int v324), (0, .ref 1), (1, .int a1)]) rfl ?_
  refine Ar.fall 17 rfl ?_
  have z_471 : (0 : Int32).toInt = 0 := rfl
  refine w_loopI (fun n_ l_ g_ => ∃ x454 : Int32, ∃ x455 : Int32, n_ = 12 - x455.toInt ∧ HI g_ ∧ Fr zF_X0_handsOf_1 zA_X0_handsOf_1 g0 g_ ∧ en_get 0 l_ = some (.ref 1) ∧ en_get 1 l_ = some (.int a1) ∧ en_get 2 l_ = some (.int x454) ∧ en_get 3 l_ = some (.int v332) ∧ en_get 4 l_ = some (.int x455) ∧ (0 ≤ x455.toInt ∧ x455.toInt ≤ 12) ∧ (x454.toInt = itI (NX g0) x455.toInt v324.toInt) ∧ (∀ j : Int, 0 ≤ j → j < x455.toInt → itI (NX g0) j v324.toInt ≠ v332.toInt) ∧ (0 ≤ x455.toInt)) ?_ (12 - 0) ⟨v324, 0, by first | rfl | omega, hI330, hF334, rfl, rfl, rfl, rfl, rfl, by decide, (itI_n _ (by first | decide | omega) _).symm, (fun j h0 h1 => absurd h1 (by omega)), by omega⟩
  rintro n460 l459 g456 ⟨x454, x455, hm472, hI457, hF458, e462, e463, e464, e465, e466, r467, q468, q469, q470⟩ ih461
  refine At.enter rfl ?_
  refine r_iload e466 ?_
  refine r_bipush 12 rfl ?_
  refine r_ics 24 rfl (fun c473 => ?_) (fun c473 => ?_)
  · have c473_ : x455.toInt ≥ 12 := en_i_ge_t c473
    refine At.enter rfl ?_
    refine r_iconst (-1) rfl ?_
    refine r_ireti ?_
    have zv474 : ((-1) : Int32).toInt = (-1) := rfl
    exact ⟨_, rfl, hI457, hF458, _, rfl, by decide, (WAYX.mk ab328 ab336 (fun hw => by first | exact WAYF.a x455.toInt (by omega) (by omega) (by rw [← q468]; omega) q469 (by omega) | exact WAYF.n (NX.e g0) hw q469 (by rw [← q468]; omega) (by omega)))⟩
  · have c473_ : x455.toInt < 12 := en_i_ge_f c473
    refine At.enter rfl ?_
    refine r_iload_n e464 ?_
    refine r_iconst (-1) rfl ?_
    refine r_ics 29 rfl (fun c475 => ?_) (fun c475 => ?_)
    · have c475_ : x454.toInt = (-1) := en_i_eq_t c475
      refine At.enter rfl ?_
      refine r_iconst (-1) rfl ?_
      refine r_ireti ?_
      have zv476 : ((-1) : Int32).toInt = (-1) := rfl
      exact ⟨_, rfl, hI457, hF458, _, rfl, by decide, (WAYX.mk ab328 ab336 (fun hw => by first | exact WAYF.a x455.toInt (by omega) (by omega) (by rw [← q468]; omega) q469 (by omega) | exact WAYF.n (NX.e g0) hw q469 (by rw [← q468]; omega) (by omega)))⟩
    · have c475_ : x454.toInt ≠ (-1) := en_i_eq_f c475
      refine At.enter rfl ?_
      refine r_iload_n e464 ?_
      refine r_iload_n e465 ?_
      refine r_ics 34 rfl (fun c477 => ?_) (fun c477 => ?_)
      · have c477_ : x454.toInt ≠ v332.toInt := en_i_ne_t c477
        refine At.enter rfl ?_
        refine r_aload_n e462 ?_
        refine r_iload_n e464 ?_
        refine r_callV 42 rfl [.ref 1, .int x454] [] (Nat.le_of_ble_eq_true rfl) rfl (T_X0_next_1 _ hI457 x454) ?_
        rintro _ _ ⟨g478, rfl, hI479, hF480, v481, rfl, hr482⟩
        refine At.sti ?_
        have hF483 := Fr.tr hF458 hF480 rfl rfl
        rw [NX.c ((hF458.2.1 2 (by decide))) ((hF458.1 1 0 (by decide)))] at hr482
        refine At.enter rfl ?_
        refine r_istore_n _ rfl ?_
        refine q_iinc (w_p1 (by decide) (Or.inr rfl) e466) (x455.toInt + 1) rfl (by omega) (fun v484 hv484 => ?_)
        refine r_goto ?_
        have bv485 := q_bnd v481
        exact ih461 (12 - v484.toInt) _ _ ⟨v481, v484, by first | rfl | omega, hI479, hF483, (w_p1 (by decide) (Or.inr rfl) (w_p1 (by decide) (Or.inr rfl) e462)), (w_p1 (by decide) (Or.inr rfl) (w_p1 (by decide) (Or.inr rfl) e463)), (w_p1 (by decide) (Or.inr rfl) (w_e1 _ _ _)), (w_p1 (by decide) (Or.inr rfl) (w_p1 (by decide) (Or.inr rfl) e465)), (w_e1 _ _ _), by omega, (by rw [show v484.toInt = x455.toInt + 1 from by omega, itI_s (NX g0) (by omega), ← q468]; omega), (WAYF.step q469 (by rw [← q468]; omega) (show v484.toInt = x455.toInt + 1 from by omega)), by omega⟩ ⟨by omega, by omega⟩
      · have c477_ : x454.toInt = v332.toInt := en_i_ne_f c477
        refine At.enter rfl ?_
        refine r_iload e466 ?_
        refine r_ireti ?_
        exact ⟨_, rfl, hI457, hF458, _, rfl, by omega, (WAYX.mk ab328 ab336 (fun hw => by first | exact WAYF.a x455.toInt (by omega) (by omega) (by rw [← q468]; omega) q469 (by omega) | exact WAYF.n (NX.e g0) hw q469 (by rw [← q468]; omega) (by omega)))⟩

def zF_X8_append_174 : List (Nat × Nat) := [(174, 1)]
def zA_X8_append_174 : List Nat := [175]
set_option maxRecDepth 100000 in
set_option maxHeartbeats 4000000 in
theorem zT_X8_append_174 (d : Nat) {N : Nat} {g0 : List en_E} (hI0 : HI g0) (a1 : Int32) : Ev (d + 1) 93 [.ref 174, .int a1] (g0, N) (fun w h' => ∃ g', h' = (g', N) ∧ HI g' ∧ Fr zF_X8_append_174 zA_X8_append_174 g0 g' ∧ w = none ∧ (((gI g0 174 1).toInt ≤ 396 → (gI g' 174 1).toInt = (gI g0 174 1).toInt + 4) ∧ ((gI g0 174 1).toInt ≤ 396 → (∀ i : Int, 0 ≤ i → i < 400 → (eA g' 175 (i)).toInt = if (gI g0 174 1).toInt ≤ i ∧ i < (gI g0 174 1).toInt + 4 then BYT a1 (i - (gI g0 174 1).toInt) else (eA g0 175 (i)).toInt)))) := by
  have hF0 : Fr zF_X8_append_174 zA_X8_append_174 g0 g0 := Fr.rf
  refine Ev.mk rfl rfl ⟨Nat.le_of_ble_eq_true rfl, Or.inr (q_rc hI0.1 kx_174 rfl)⟩ ?_
  show At _ none _ _ (0, [(0, .ref 174), (1, .int a1)], [], (_, _)) _
  refine At.enter rfl ?_
  refine r_bipush 24 rfl ?_
  refine r_istore_n ([(2, .int 24), (0, .ref 174), (1, .int a1)]) rfl ?_
  refine Ar.fall 3 rfl ?_
  obtain ⟨v219, hv219⟩ : ∃ v, gI g0 174 1 = v := ⟨_, rfl⟩
  have rv219 := RgF.at hI0.2.1 (p := 174) (b := 1) rfl
  rw [hv219] at rv219
  dsimp only at rv219
  have tv219 := congrArg Int32.toInt hv219
  have z_314 : (24 : Int32).toInt = 24 := rfl
  have x315 := HI.eqI hI0 (p := 174) (b := 1) (hv219)
  refine w_loopI (fun n_ l_ g_ => ∃ x298 : Int32, ∃ x299 : Int32, n_ = x298.toInt + 8 ∧ HI g_ ∧ Fr zF_X8_append_174 zA_X8_append_174 g0 g_ ∧ gI g_ 174 1 = x299 ∧ en_get 0 l_ = some (.ref 174) ∧ en_get 1 l_ = some (.int a1) ∧ en_get 2 l_ = some (.int x298) ∧ ((-8) ≤ x298.toInt ∧ x298.toInt ≤ 24) ∧ (0 ≤ x299.toInt ∧ x299.toInt ≤ 400) ∧ (8 * x299.toInt + x298.toInt = 8 * (gI g0 174 1).toInt + 24) ∧ (∀ i : Int, 0 ≤ i → i < 400 → (eA g_ 175 (i)).toInt = if (gI g0 174 1).toInt ≤ i ∧ i < x299.toInt then BYT a1 (i - (gI g0 174 1).toInt) else (eA g0 175 (i)).toInt)) ?_ (24 + 8) ⟨24, v219, by first | rfl | omega, hI0, hF0, hv219, rfl, rfl, rfl, by decide, by omega, by omega, (by intro i i0 i1; refine Eq.trans ?_ (if_neg (show ¬ ((gI g0 174 1).toInt ≤ i ∧ i < v219.toInt) from by omega)).symm; (first | rfl | exact eA_ix (by omega) | omega))⟩
  rintro n304 l303 g300 ⟨x298, x299, hm316, hI301, hF302, e306, e307, e308, e309, r310, r311, q312, q313⟩ ih305
  have tv317 := congrArg Int32.toInt e306
  refine At.enter rfl ?_
  refine r_iload_n e309 ?_
  refine r_ifs 7 rfl (fun c318 => ?_) (fun c318 => ?_)
  · have c318_ : x298.toInt < 0 := en_k_lt_t c318
    refine At.enter rfl ?_
    refine r_vret ?_
    have x319 := HI.eqI hI301 (p := 174) (b := 1) (e306)
    have x320 := HI.eqI hI0 (p := 174) (b := 1) (hv219)
    exact ⟨_, rfl, hI301, hF302, rfl, ⟨(by omega), fun hz => (by intro i i0 i1; exact (Decidable.em ((gI g0 174 1).toInt ≤ i ∧ i < (gI g0 174 1).toInt + 4)).elim (fun k1_ => by refine Eq.trans ?_ (if_pos k1_).symm; refine ((q313 (i) (by omega) (by omega))).trans ?_; exact (Decidable.em ((gI g0 174 1).toInt ≤ (i) ∧ (i) < x299.toInt)).elim (fun k2_ => by refine (if_pos k2_).trans ?_; (first | rfl | exact eA_ix (by omega) | omega)) (fun k2_ => by refine (if_neg k2_).trans ?_; (first | rfl | exact eA_ix (by omega) | omega))) (fun k1_ => by refine Eq.trans ?_ (if_neg k1_).symm; refine ((q313 (i) (by omega) (by omega))).trans ?_; exact (Decidable.em ((gI g0 174 1).toInt ≤ (i) ∧ (i) < x299.toInt)).elim (fun k3_ => by refine (if_pos k3_).trans ?_; (first | rfl | exact eA_ix (by omega) | omega)) (fun k3_ => by refine (if_neg k3_).trans ?_; (first | rfl | exact eA_ix (by omega) | omega))))⟩⟩
  · have c318_ : x298.toInt ≥ 0 := en_k_lt_f c318
    refine At.enter rfl ?_
    refine r_aload_n e307 ?_
    refine q_getI (Sh.int hI301.1 kx_174 rfl) x299 e306 ?_
    refine r_sipush 400 rfl ?_
    refine r_ics 17 rfl (fun c321 => ?_) (fun c321 => ?_)
    · have c321_ : x299.toInt ≥ 400 := en_i_ge_t c321
      refine At.enter rfl ?_
      refine r_vret ?_
      have x322 := HI.eqI hI301 (p := 174) (b := 1) (e306)
      have x323 := HI.eqI hI0 (p := 174) (b := 1) (hv219)
      exact ⟨_, rfl, hI301, hF302, rfl, ⟨(by omega), fun hz => (by intro i i0 i1; exact (Decidable.em ((gI g0 174 1).toInt ≤ i ∧ i < (gI g0 174 1).toInt + 4)).elim (fun k4_ => by refine Eq.trans ?_ (if_pos k4_).symm; refine ((q313 (i) (by omega) (by omega))).trans ?_; exact (Decidable.em ((gI g0 174 1).toInt ≤ (i) ∧ (i) < x299.toInt)).elim (fun k5_ => by refine (if_pos k5_).trans ?_; (first | rfl | exact eA_ix (by omega) | omega)) (fun k5_ => by refine (if_neg k5_).trans ?_; (first | rfl | exact eA_ix (by omega) | omega))) (fun k4_ => by refine Eq.trans ?_ (if_neg k4_).symm; refine ((q313 (i) (by omega) (by omega))).trans ?_; exact (Decidable.em ((gI g0 174 1).toInt ≤ (i) ∧ (i) < x299.toInt)).elim (fun k6_ => by refine (if_pos k6_).trans ?_; (first | rfl | exact eA_ix (by omega) | omega)) (fun k6_ => by refine (if_neg k6_).trans ?_; (first | rfl | exact eA_ix (by omega) | omega))))⟩⟩
    · have c321_ : x299.toInt < 400 := en_i_ge_f c321
      refine At.enter rfl ?_
      refine r_aload_n e307 ?_
      refine q_getR (Sh.ref hI301.1 kx_174 rfl) ?_
      refine r_aload_n e307 ?_
      refine q_getI (Sh.int hI301.1 kx_174 rfl) x299 e306 ?_
      refine r_iload_n e308 ?_
      refine r_iload_n e309 ?_
      refine q_iushrO (fun v324 hv324 => ?_)
      refine r_sipush 255 rfl ?_
      refine q_iandO (fun v325 hv325 => ?_)
      refine q_iast (Sh.arr hI301.1 ka_175) (x299.toInt) rfl (by omega) ?_
      have hI326 := HI.wA0 hI301 ka_175 (p := 175) rfl rfl (x299.toInt) (v325)
      have hF327 := Fr.wA (p := 175) (j := x299.toInt) (v := v325) hF302 rfl
      refine r_aload_n e307 ?_
      refine r_dup rfl ?_
      refine q_getI (Sh.int hI326.1 kx_174 rfl) x299 ((gI_sW).trans e306) ?_
      refine r_iconst 1 rfl ?_
      refine q_iadd (x299.toInt + 1) rfl (by omega) (fun v328 hv328 => ?_)
      refine q_putI (Sh.int hI326.1 kx_174 rfl) rfl ?_
      have hI329 := HI.wI1 hI326 kx_174 rfl (p := 174) (b := 1) (v := v328) rfl (by dsimp only; omega)
      have hF330 := Fr.wI (p := 174) (b := 1) (v := v328) hF327 rfl
      refine q_iinc e309 (x298.toInt + (-8)) rfl (by omega) (fun v331 hv331 => ?_)
      refine r_goto ?_
      exact ih305 (v331.toInt + 8) _ _ ⟨v331, v328, by first | rfl | omega, hI329, hF330, (gI_sI_eq hI326.1 kx_174 rfl _), (w_p1 (by decide) (Or.inr rfl) e307), (w_p1 (by decide) (Or.inr rfl) e308), (w_e1 _ _ _), by omega, by omega, by omega, (by intro i i0 i1; exact (Decidable.em ((gI g0 174 1).toInt ≤ i ∧ i < v328.toInt)).elim (fun k7_ => by refine Eq.trans ?_ (if_pos k7_).symm; refine (eA_ti ((gA_sI))).trans ?_; exact (Decidable.em (i = x299.toInt)).elim (fun k8_ => by refine (eA_eqT hI301.1 ka_175 k8_ (by first | decide | omega) (by first | decide | omega)).trans ?_; (first | (rfl) | (omega) | (exact BYT.x (by assumption) hv325 (by omega) (by omega)))) (fun k8_ => by refine (eA_neT hI301.1 ka_175 k8_ (by first | decide | omega) (by omega)).trans ?_; refine ((q313 (i) (by omega) (by omega))).trans ?_; exact (Decidable.em ((gI g0 174 1).toInt ≤ (i) ∧ (i) < x299.toInt)).elim (fun k9_ => by refine (if_pos k9_).trans ?_; (first | rfl | exact eA_ix (by omega) | omega)) (fun k9_ => by refine (if_neg k9_).trans ?_; (first | rfl | exact eA_ix (by omega) | omega)))) (fun k7_ => by refine Eq.trans ?_ (if_neg k7_).symm; refine (eA_ti ((gA_sI))).trans ?_; exact (Decidable.em (i = x299.toInt)).elim (fun k10_ => by refine (eA_eqT hI301.1 ka_175 k10_ (by first | decide | omega) (by first | decide | omega)).trans ?_; (first | (rfl) | (omega) | (exact BYT.x (by assumption) hv325 (by omega) (by omega)))) (fun k10_ => by refine (eA_neT hI301.1 ka_175 k10_ (by first | decide | omega) (by omega)).trans ?_; refine ((q313 (i) (by omega) (by omega))).trans ?_; exact (Decidable.em ((gI g0 174 1).toInt ≤ (i) ∧ (i) < x299.toInt)).elim (fun k11_ => by refine (if_pos k11_).trans ?_; (first | rfl | exact eA_ix (by omega) | omega)) (fun k11_ => by refine (if_neg k11_).trans ?_; (first | rfl | exact eA_ix (by omega) | omega)))))⟩ ⟨by omega, by omega⟩

def zF_X8_at_174 : List (Nat × Nat) := []
def zA_X8_at_174 : List Nat := []
set_option maxRecDepth 100000 in
set_option maxHeartbeats 4000000 in
theorem zT_X8_at_174 (d : Nat) {N : Nat} {g0 : List en_E} (hI0 : HI g0) (a1 : Int32) : Ev (d + 1) 94 [.ref 174, .int a1] (g0, N) (fun w h' => ∃ g', h' = (g', N) ∧ HI g' ∧ Fr zF_X8_at_174 zA_X8_at_174 g0 g' ∧ ∃ r : Int32, w = some (.int r) ∧ True ∧ ((r.toInt ≠ -1 → a1.toInt < (gI g0 174 1).toInt) ∧ (0 ≤ a1.toInt ∧ a1.toInt < (gI g0 174 1).toInt → r.toInt = (eA g0 175 a1.toInt).toInt))) := by
  have hF0 : Fr zF_X8_at_174 zA_X8_at_174 g0 g0 := Fr.rf
  refine Ev.mk rfl rfl ⟨Nat.le_of_ble_eq_true rfl, Or.inr (q_rc hI0.1 kx_174 rfl)⟩ ?_
  show At _ none _ _ (0, [(0, .ref 174), (1, .int a1)], [], (_, _)) _
  refine At.enter rfl ?_
  refine r_iload_n rfl ?_
  refine r_ifs 4 rfl (fun c15 => ?_) (fun c15 => ?_)
  · have c15_ : a1.toInt < 0 := en_k_lt_t c15
    refine At.enter rfl ?_
    refine r_iconst (-1) rfl ?_
    refine Ar.fall 29 rfl ?_
    refine At.enter rfl ?_
    refine r_ireti ?_
    have zv16 : ((-1) : Int32).toInt = (-1) := rfl
    obtain ⟨v17, hv17⟩ : ∃ v, gI g0 174 1 = v := ⟨_, rfl⟩
    have rv17 := RgF.at hI0.2.1 (p := 174) (b := 1) rfl
    rw [hv17] at rv17
    dsimp only at rv17
    have tv17 := congrArg Int32.toInt hv17
    have x18 := HI.eqI hI0 (p := 174) (b := 1) (hv17)
    exact ⟨_, rfl, hI0, hF0, _, rfl, trivial, ⟨by omega, by omega⟩⟩
  · have c15_ : a1.toInt ≥ 0 := en_k_lt_f c15
    refine At.enter rfl ?_
    refine r_iload_n rfl ?_
    refine r_aload_n rfl ?_
    obtain ⟨v19, hv19⟩ : ∃ v, gI g0 174 1 = v := ⟨_, rfl⟩
    have rv19 := RgF.at hI0.2.1 (p := 174) (b := 1) rfl
    rw [hv19] at rv19
    dsimp only at rv19
    refine q_getI (Sh.int hI0.1 kx_174 rfl) v19 hv19 ?_
    have bv21 := q_bnd a1
    have bv22 := q_bnd v19
    refine r_ics 12 rfl (fun c20 => ?_) (fun c20 => ?_)
    · have c20_ : a1.toInt ≥ v19.toInt := en_i_ge_t c20
      refine At.enter rfl ?_
      refine r_iconst (-1) rfl ?_
      refine Ar.fall 29 rfl ?_
      refine At.enter rfl ?_
      refine r_ireti ?_
      have zv23 : ((-1) : Int32).toInt = (-1) := rfl
      have x24 := HI.eqI hI0 (p := 174) (b := 1) (hv19)
      exact ⟨_, rfl, hI0, hF0, _, rfl, trivial, ⟨by omega, by omega⟩⟩
    · have c20_ : a1.toInt < v19.toInt := en_i_ge_f c20
      refine At.enter rfl ?_
      refine r_iload_n rfl ?_
      refine r_sipush 400 rfl ?_
      refine r_ics 19 rfl (fun c25 => ?_) (fun c25 => ?_)
      · have c25_ : a1.toInt ≥ 400 := en_i_ge_t c25
        exfalso; omega
      · have c25_ : a1.toInt < 400 := en_i_ge_f c25
        refine At.enter rfl ?_
        refine r_aload_n rfl ?_
        refine q_getR (Sh.ref hI0.1 kx_174 rfl) ?_
        refine r_iload_n rfl ?_
        obtain ⟨v26, hv26⟩ : ∃ v, eA g0 175 a1.toInt = v := ⟨_, rfl⟩
        refine q_iald (Sh.arr hI0.1 ka_175) a1.toInt rfl (by omega) v26 hv26 ?_
        refine r_goto ?_
        refine At.enter rfl ?_
        refine r_ireti ?_
        have x27 := HI.eqI hI0 (p := 174) (b := 1) (hv19)
        have y28 := congrArg Int32.toInt hv26
        exact ⟨_, rfl, hI0, hF0, _, rfl, trivial, ⟨by omega, by omega⟩⟩

def zF_X9_standOf_184 : List (Nat × Nat) := []
def zA_X9_standOf_184 : List Nat := []
set_option maxRecDepth 100000 in
set_option maxHeartbeats 4000000 in
theorem zT_X9_standOf_184 (d : Nat) {N : Nat} {g0 : List en_E} (hI0 : HI g0) (a1 : Int32) (a2 : Int32) : Ev (d + 4) 96 [.ref 184, .int a1, .int a2] (g0, N) (fun w h' => ∃ g', h' = (g', N) ∧ HI g' ∧ Fr zF_X9_standOf_184 zA_X9_standOf_184 g0 g' ∧ ∃ r : Int32, w = some (.int r) ∧ True ∧ ((0 ≤ a1.toInt ∧ a1.toInt < (gI g0 1 4).toInt) → (eA g0 5 (6 * a1.toInt + 2)).toInt ≠ -1 → a2.toInt ≠ -1 → WAYA (NX g0) 11 (eA g0 5 (6 * a1.toInt + 1)).toInt (eA g0 5 (6 * a1.toInt + 2)).toInt a2.toInt r.toInt)) := by
  have hF0 : Fr zF_X9_standOf_184 zA_X9_standOf_184 g0 g0 := Fr.rf
  refine Ev.mk rfl rfl ⟨Nat.le_of_ble_eq_true rfl, Or.inr (q_rc hI0.1 kx_184 rfl)⟩ ?_
  show At _ none _ _ (0, [(0, .ref 184), (1, .int a1), (2, .int a2)], [], (_, _)) _
  refine At.enter rfl ?_
  refine r_iload_n rfl ?_
  refine r_iconst 0 rfl ?_
  refine r_aload_n rfl ?_
  refine q_getR (Sh.ref hI0.1 kx_184 rfl) ?_
  refine r_iload_n rfl ?_
  refine r_callV 10 rfl [.ref 1, .int a1] [.int 0, .int a2] (Nat.le_of_ble_eq_true rfl) rfl (zT_X0_handsOf_1 _ hI0 a1) ?_
  rintro _ _ ⟨g47, rfl, hI48, hF49, v50, rfl, hr51⟩
  refine At.sti ?_
  have hF52 := Fr.tr hF0 hF49 rfl rfl
  refine At.enter rfl ?_
  refine q_inlS 13 rfl [.int a2, .int 0, .int v50] [] (Nat.le_of_ble_eq_true rfl) rfl ?_
  refine Ev.mk rfl rfl ⟨Nat.le_of_ble_eq_true rfl, Or.inl rfl⟩ ?_
  show At _ none _ _ (0, [(0, .int a2), (1, .int 0), (2, .int v50)], [], (_, _)) _
  refine At.enter rfl ?_
  refine r_iload_n rfl ?_
  refine r_iload_n rfl ?_
  refine r_ics 5 rfl (fun c53 => ?_) (fun c53 => ?_)
  · have c53_ : a2.toInt < 0 := en_i_lt_t c53
    refine At.enter rfl ?_
    refine r_iconst 0 rfl ?_
    refine Ar.fall 15 rfl ?_
    refine At.enter rfl ?_
    refine q_iretz (by decide) ?_
    refine At.enter rfl ?_
    refine r_ift (by decide) ?_
    refine At.enter rfl ?_
    refine r_iconst (-1) rfl ?_
    refine Ar.fall 34 rfl ?_
    refine At.enter rfl ?_
    refine r_ireti ?_
    have zv54 : ((-1) : Int32).toInt = (-1) := rfl
    exact ⟨_, rfl, hI48, hF52, _, rfl, trivial, (fun h hw hi => WAYA.mk v50.toInt (hr51.2 h hw) (fun e => absurd e hi) (fun c => by omega) (fun c => by omega))⟩
  · have c53_ : a2.toInt ≥ 0 := en_i_lt_f c53
    refine At.enter rfl ?_
    refine r_iload_n rfl ?_
    refine r_iload_n rfl ?_
    have bv56 := q_bnd a2
    have bv57 := q_bnd v50
    refine r_ics 10 rfl (fun c55 => ?_) (fun c55 => ?_)
    · have c55_ : a2.toInt > v50.toInt := en_i_gt_t c55
      refine At.enter rfl ?_
      refine r_iconst 0 rfl ?_
      refine Ar.fall 15 rfl ?_
      refine At.enter rfl ?_
      refine q_iretz (by decide) ?_
      refine At.enter rfl ?_
      refine r_ift (by decide) ?_
      refine At.enter rfl ?_
      refine r_iconst (-1) rfl ?_
      refine Ar.fall 34 rfl ?_
      refine At.enter rfl ?_
      refine r_ireti ?_
      have zv58 : ((-1) : Int32).toInt = (-1) := rfl
      exact ⟨_, rfl, hI48, hF52, _, rfl, trivial, (fun h hw hi => WAYA.mk v50.toInt (hr51.2 h hw) (fun e => absurd e hi) (fun c => by omega) (fun c => by omega))⟩
    · have c55_ : a2.toInt ≤ v50.toInt := en_i_gt_f c55
      refine At.enter rfl ?_
      refine r_iconst 1 rfl ?_
      refine r_goto ?_
      refine At.enter rfl ?_
      refine q_iretz (by decide) ?_
      refine At.enter rfl ?_
      refine r_iff 16 rfl (by decide) ?_
      refine At.enter rfl ?_
      refine r_aload_n rfl ?_
      refine r_aload_n rfl ?_
      refine q_getR (Sh.ref hI48.1 kx_184 rfl) ?_
      refine r_iload_n rfl ?_
      refine r_iconst 1 rfl ?_
      refine r_callV 26 rfl [.ref 1, .int a1, .int 1] [.ref 184] (Nat.le_of_ble_eq_true rfl) rfl (zT_X0_about_1 _ hI48 a1 1) ?_
      rintro _ _ ⟨g59, rfl, hI60, hF61, v62, rfl, hr63⟩
      refine At.sti ?_
      have hF64 := Fr.tr hF52 hF61 rfl rfl
      have zv65 : (1 : Int32).toInt = 1 := rfl
      have ab66_ := ABX.c ((hF49.2.1 5 (by decide))) ((hF49.1 1 4 (by decide))) hr63.2
      have ab66 : ABX g0 a1.toInt 1 v62.toInt := ab66_
      refine At.enter rfl ?_
      refine r_iload_n rfl ?_
      refine r_callV 30 rfl [.ref 184, .int v62, .int a2] [] (Nat.le_of_ble_eq_true rfl) rfl (T_X9_standAfter_184 _ hI60 v62 a2) ?_
      rintro _ _ ⟨g67, rfl, hI68, hF69, v70, rfl, hr71⟩
      refine At.sti ?_
      have hF72 := Fr.tr hF64 hF69 rfl rfl
      refine At.enter rfl ?_
      refine r_goto ?_
      refine At.enter rfl ?_
      refine r_ireti ?_
      exact ⟨_, rfl, hI68, hF72, _, rfl, trivial, (fun h hw hi => WAYA.mk v50.toInt (hr51.2 h hw) (fun e => absurd e hi) (fun c => by have e1 := ab66.1 ⟨h.1, h.2, by decide, by decide⟩; rw [← e1]; omega) (fun c => by omega))⟩

def zF_X9_comersTo_184 : List (Nat × Nat) := []
def zA_X9_comersTo_184 : List Nat := []
set_option maxRecDepth 100000 in
set_option maxHeartbeats 4000000 in
theorem zT_X9_comersTo_184 (d : Nat) {N : Nat} {g0 : List en_E} (hI0 : HI g0) (a1 : Int32) (h_a1 : 0 ≤ a1.toInt ∧ a1.toInt ≤ 11) (a2 : Int32) : Ev (d + 3) 97 [.ref 184, .int a1, .int a2] (g0, N) (fun w h' => ∃ g', h' = (g', N) ∧ HI g' ∧ Fr zF_X9_comersTo_184 zA_X9_comersTo_184 g0 g' ∧ ∃ r : Int32, w = some (.int r) ∧ True ∧ (r.toInt = (ACI (RCI (NX g0) (hbI a2) a1.toInt 12) (gI g0 1 0).toInt).toInt)) := by
  have hF0 : Fr zF_X9_comersTo_184 zA_X9_comersTo_184 g0 g0 := Fr.rf
  refine Ev.mk rfl rfl ⟨Nat.le_of_ble_eq_true rfl, Or.inr (q_rc hI0.1 kx_184 rfl)⟩ ?_
  show At _ none _ _ (0, [(0, .ref 184), (1, .int a1), (2, .int a2)], [], (_, _)) _
  refine At.enter rfl ?_
  refine r_iconst 0 rfl ?_
  refine r_istore_n ([(3, .int 0), (0, .ref 184), (1, .int a1), (2, .int a2)]) rfl ?_
  refine r_iconst 0 rfl ?_
  refine r_istore ([(4, .int 0), (3, .int 0), (0, .ref 184), (1, .int a1), (2, .int a2)]) rfl ?_
  refine Ar.fall 5 rfl ?_
  have z_15387 : (0 : Int32).toInt = 0 := rfl
  have z_15388 : (0 : Int32).toInt = 0 := rfl
  obtain ⟨v15389, hv15389⟩ : ∃ v, gI g0 1 0 = v := ⟨_, rfl⟩
  have rv15389 := RgF.at hI0.2.1 (p := 1) (b := 0) rfl
  rw [hv15389] at rv15389
  dsimp only at rv15389
  have tv15389 := congrArg Int32.toInt hv15389
  refine w_loopI (fun n_ l_ g_ => ∃ x15370 : Int32, ∃ x15371 : Int32, n_ = 12 - x15371.toInt ∧ HI g_ ∧ Fr zF_X9_comersTo_184 zA_X9_comersTo_184 g0 g_ ∧ en_get 0 l_ = some (.ref 184) ∧ en_get 1 l_ = some (.int a1) ∧ en_get 2 l_ = some (.int a2) ∧ en_get 3 l_ = some (.int x15370) ∧ en_get 4 l_ = some (.int x15371) ∧ (0 ≤ x15371.toInt ∧ x15371.toInt ≤ 12) ∧ (x15370.toInt = (ACI (RCI (NX g0) (hbI a2) a1.toInt 12) x15371.toInt).toInt) ∧ (0 ≤ x15371.toInt) ∧ (x15371.toInt ≤ (gI g0 1 0).toInt)) ?_ (12 - 0) ⟨0, 0, by first | rfl | omega, hI0, hF0, rfl, rfl, rfl, rfl, rfl, by decide, ((by first | rfl | omega : _ = (0 : Int)).trans (ACI.z _ (by first | decide | omega))), by omega, by omega⟩
  rintro n15376 l15375 g15372 ⟨x15370, x15371, hm15390, hI15373, hF15374, e15378, e15379, e15380, e15381, e15382, r15383, q15384, q15385, q15386⟩ ih15377
  refine At.enter rfl ?_
  refine r_iload e15382 ?_
  refine r_aload_n e15378 ?_
  refine q_getR (Sh.ref hI15373.1 kx_184 rfl) ?_
  refine q_getI (Sh.int hI15373.1 kx_1 rfl) v15389 ((hF15374.1 1 0 (by decide)).trans hv15389) ?_
  have bv15392 := q_bnd x15371
  have bv15393 := q_bnd v15389
  refine r_ics 17 rfl (fun c15391 => ?_) (fun c15391 => ?_)
  · have c15391_ : x15371.toInt ≥ v15389.toInt := en_i_ge_t c15391
    refine At.enter rfl ?_
    refine r_iload_n e15381 ?_
    refine r_ireti ?_
    have x15394 := HI.eqI hI0 (p := 1) (b := 0) (hv15389)
    exact ⟨_, rfl, hI15373, hF15374, _, rfl, trivial, (by rw [show (gI g0 1 0).toInt = x15371.toInt from by omega]; exact q15384)⟩
  · have c15391_ : x15371.toInt < v15389.toInt := en_i_ge_f c15391
    refine At.enter rfl ?_
    refine r_iload e15382 ?_
    refine r_istore _ rfl ?_
    refine r_iconst 0 rfl ?_
    refine r_istore _ rfl ?_
    refine Ar.fall 24 rfl ?_
    have z_15858 : (0 : Int32).toInt = 0 := rfl
    refine w_loopI (fun n_ l_ g_ => ∃ x15838 : Int32, ∃ x15839 : Int32, n_ = 12 - x15839.toInt ∧ HI g_ ∧ Fr zF_X9_comersTo_184 zA_X9_comersTo_184 g0 g_ ∧ en_get 0 l_ = some (.ref 184) ∧ en_get 1 l_ = some (.int a1) ∧ en_get 2 l_ = some (.int a2) ∧ en_get 3 l_ = some (.int x15370) ∧ en_get 4 l_ = some (.int x15371) ∧ en_get 5 l_ = some (.int x15838) ∧ en_get 6 l_ = some (.int x15839) ∧ ((-1) ≤ x15838.toInt ∧ x15838.toInt ≤ 11) ∧ (0 ≤ x15839.toInt ∧ x15839.toInt ≤ 12) ∧ (RCI (NX g0) (hbI a2) a1.toInt (12 - x15839.toInt) x15838.toInt ↔ RCI (NX g0) (hbI a2) a1.toInt 12 x15371.toInt) ∧ (0 ≤ x15839.toInt) ∧ (x15839.toInt ≤ 12)) ?_ (12 - 0) ⟨x15371, 0, by first | rfl | omega, hI15373, hF15374, (w_p1 (by decide) (Or.inr rfl) (w_p1 (by decide) (Or.inr rfl) e15378)), (w_p1 (by decide) (Or.inr rfl) (w_p1 (by decide) (Or.inr rfl) e15379)), (w_p1 (by decide) (Or.inr rfl) (w_p1 (by decide) (Or.inr rfl) e15380)), (w_p1 (by decide) (Or.inr rfl) (w_p1 (by decide) (Or.inr rfl) e15381)), (w_p1 (by decide) (Or.inr rfl) (w_p1 (by decide) (Or.inr rfl) e15382)), (w_p1 (by decide) (Or.inr rfl) (w_e1 _ _ _)), (w_e1 _ _ _), by omega, by decide, Iff.rfl, by omega, by omega⟩
    rintro n15844 l15843 g15840 ⟨x15838, x15839, hm15859, hI15841, hF15842, e15846, e15847, e15848, e15849, e15850, e15851, e15852, r15853, r15854, q15855, q15856, q15857⟩ ih15845
    refine At.enter rfl ?_
    refine r_iload e15852 ?_
    refine r_bipush 12 rfl ?_
    refine r_ics 31 rfl (fun c15860 => ?_) (fun c15860 => ?_)
    · have c15860_ : x15839.toInt ≥ 12 := en_i_ge_t c15860
      refine At.enter rfl ?_
      refine r_iload e15851 ?_
      refine r_iload_n e15847 ?_
      refine r_ics 75 rfl (fun c15861 => ?_) (fun c15861 => ?_)
      · have c15861_ : x15838.toInt ≠ a1.toInt := en_i_ne_t c15861
        refine At.enter rfl ?_
        refine q_iinc e15850 (x15371.toInt + 1) rfl (by omega) (fun v15862 hv15862 => ?_)
        refine r_goto ?_
        have bv15863 := q_bnd x15370
        exact ih15377 (12 - v15862.toInt) _ _ ⟨x15370, v15862, by first | rfl | omega, hI15841, hF15842, (w_p1 (by decide) (Or.inr rfl) e15846), (w_p1 (by decide) (Or.inr rfl) e15847), (w_p1 (by decide) (Or.inr rfl) e15848), (w_p1 (by decide) (Or.inr rfl) e15849), (w_e1 _ _ _), by omega, (ACI.no (by omega) (show v15862.toInt = x15371.toInt + 1 from by omega) (fun f => by (first | (have z := q15855.mpr f; rw [show x15838.toInt = -1 from by omega] at z; exact RCI.none (by omega) z) | (have z := q15855.mpr f; rw [show 12 - x15839.toInt = 0 from by omega] at z; have z2 := (RCI.z.mp z).1; omega))) q15384), by omega, by omega⟩ ⟨by omega, by omega⟩
      · have c15861_ : x15838.toInt = a1.toInt := en_i_ne_f c15861
        refine At.enter rfl ?_
        refine r_iload_n e15848 ?_
        refine r_iload_n e15847 ?_
        refine r_callS 80 rfl [.int a2, .int a1] [] (Nat.le_of_ble_eq_true rfl) rfl (zT_X10_hasBit_hb _ hI15841 a2 a1) ?_
        rintro _ _ ⟨g15864, rfl, hI15865, hF15866, v15867, rfl, hr15868⟩
        refine At.sti ?_
        have hF15869 := Fr.tr hF15842 hF15866 rfl rfl
        refine At.enter rfl ?_
        refine r_ifs 83 rfl (fun c15870 => ?_) (fun c15870 => ?_)
        · have c15870_ : v15867.toInt ≠ 0 := en_k_ne_t c15870
          refine At.enter rfl ?_
          refine q_iinc e15850 (x15371.toInt + 1) rfl (by omega) (fun v15871 hv15871 => ?_)
          refine r_goto ?_
          have bv15872 := q_bnd x15370
          exact ih15377 (12 - v15871.toInt) _ _ ⟨x15370, v15871, by first | rfl | omega, hI15865, hF15869, (w_p1 (by decide) (Or.inr rfl) e15846), (w_p1 (by decide) (Or.inr rfl) e15847), (w_p1 (by decide) (Or.inr rfl) e15848), (w_p1 (by decide) (Or.inr rfl) e15849), (w_e1 _ _ _), by omega, (ACI.no (by omega) (show v15871.toInt = x15371.toInt + 1 from by omega) (fun f => by (first | (have z := q15855.mpr f; rw [show x15838.toInt = -1 from by omega] at z; exact RCI.none (by omega) z) | (have z := q15855.mpr f; rw [show x15838.toInt = a1.toInt from by omega] at z; exact RCI.hb (BL.yes hr15868.2 (by omega)) z) | (have z := q15855.mpr f; rw [show 12 - x15839.toInt = 0 from by omega] at z; have z2 := (RCI.z.mp z).1; omega))) q15384), by omega, by omega⟩ ⟨by omega, by omega⟩
        · have c15870_ : v15867.toInt = 0 := en_k_ne_f c15870
          refine At.enter rfl ?_
          refine r_iload_n e15849 ?_
          refine r_iconst 1 rfl ?_
          refine r_iload e15850 ?_
          refine q_ishlO (fun v15873 hv15873 => ?_)
          refine q_iorO (fun v15874 hv15874 => ?_)
          refine r_istore_n _ rfl ?_
          refine Ar.fall 90 rfl ?_
          refine At.enter rfl ?_
          refine q_iinc (w_p1 (by decide) (Or.inr rfl) e15850) (x15371.toInt + 1) rfl (by omega) (fun v15875 hv15875 => ?_)
          refine r_goto ?_
          have bv15876 := q_bnd v15874
          exact ih15377 (12 - v15875.toInt) _ _ ⟨v15874, v15875, by first | rfl | omega, hI15865, hF15869, (w_p1 (by decide) (Or.inr rfl) (w_p1 (by decide) (Or.inr rfl) e15846)), (w_p1 (by decide) (Or.inr rfl) (w_p1 (by decide) (Or.inr rfl) e15847)), (w_p1 (by decide) (Or.inr rfl) (w_p1 (by decide) (Or.inr rfl) e15848)), (w_p1 (by decide) (Or.inr rfl) (w_e1 _ _ _)), (w_e1 _ _ _), by omega, (ACI.yes (i := x15371) (by omega) (show v15875.toInt = x15371.toInt + 1 from by omega) (q15855.mp ((RCI.want (by omega) (by omega) (show x15838.toInt = a1.toInt from by omega)).mpr (by rw [show x15838.toInt = a1.toInt from by omega]; exact BL.no hr15868.2 (by omega)))) rfl hv15874 (by assumption) q15384), by omega, by omega⟩ ⟨by omega, by omega⟩
    · have c15860_ : x15839.toInt < 12 := en_i_ge_f c15860
      refine At.enter rfl ?_
      refine r_iload e15851 ?_
      refine r_iconst (-1) rfl ?_
      refine r_ics 37 rfl (fun c15877 => ?_) (fun c15877 => ?_)
      · have c15877_ : x15838.toInt = (-1) := en_i_eq_t c15877
        refine At.enter rfl ?_
        refine r_iload e15851 ?_
        refine r_iload_n e15847 ?_
        refine r_ics 75 rfl (fun c15878 => ?_) (fun c15878 => ?_)
        · have c15878_ : x15838.toInt ≠ a1.toInt := en_i_ne_t c15878
          refine At.enter rfl ?_
          refine q_iinc e15850 (x15371.toInt + 1) rfl (by omega) (fun v15879 hv15879 => ?_)
          refine r_goto ?_
          have bv15880 := q_bnd x15370
          exact ih15377 (12 - v15879.toInt) _ _ ⟨x15370, v15879, by first | rfl | omega, hI15841, hF15842, (w_p1 (by decide) (Or.inr rfl) e15846), (w_p1 (by decide) (Or.inr rfl) e15847), (w_p1 (by decide) (Or.inr rfl) e15848), (w_p1 (by decide) (Or.inr rfl) e15849), (w_e1 _ _ _), by omega, (ACI.no (by omega) (show v15879.toInt = x15371.toInt + 1 from by omega) (fun f => by (first | (have z := q15855.mpr f; rw [show x15838.toInt = -1 from by omega] at z; exact RCI.none (by omega) z) | (have z := q15855.mpr f; rw [show 12 - x15839.toInt = 0 from by omega] at z; have z2 := (RCI.z.mp z).1; omega))) q15384), by omega, by omega⟩ ⟨by omega, by omega⟩
        · have c15878_ : x15838.toInt = a1.toInt := en_i_ne_f c15878
          exfalso; omega
      · have c15877_ : x15838.toInt ≠ (-1) := en_i_eq_f c15877
        refine At.enter rfl ?_
        refine r_iload e15851 ?_
        refine r_iload_n e15847 ?_
        refine r_ics 43 rfl (fun c15881 => ?_) (fun c15881 => ?_)
        · have c15881_ : x15838.toInt = a1.toInt := en_i_eq_t c15881
          refine At.enter rfl ?_
          refine r_iload e15851 ?_
          refine r_iload_n e15847 ?_
          refine r_ics 75 rfl (fun c15882 => ?_) (fun c15882 => ?_)
          · have c15882_ : x15838.toInt ≠ a1.toInt := en_i_ne_t c15882
            refine At.enter rfl ?_
            refine q_iinc e15850 (x15371.toInt + 1) rfl (by omega) (fun v15883 hv15883 => ?_)
            refine r_goto ?_
            have bv15884 := q_bnd x15370
            exact ih15377 (12 - v15883.toInt) _ _ ⟨x15370, v15883, by first | rfl | omega, hI15841, hF15842, (w_p1 (by decide) (Or.inr rfl) e15846), (w_p1 (by decide) (Or.inr rfl) e15847), (w_p1 (by decide) (Or.inr rfl) e15848), (w_p1 (by decide) (Or.inr rfl) e15849), (w_e1 _ _ _), by omega, (ACI.no (by omega) (show v15883.toInt = x15371.toInt + 1 from by omega) (fun f => by (first | (have z := q15855.mpr f; rw [show x15838.toInt = -1 from by omega] at z; exact RCI.none (by omega) z) | (have z := q15855.mpr f; rw [show 12 - x15839.toInt = 0 from by omega] at z; have z2 := (RCI.z.mp z).1; omega))) q15384), by omega, by omega⟩ ⟨by omega, by omega⟩
          · have c15882_ : x15838.toInt = a1.toInt := en_i_ne_f c15882
            refine At.enter rfl ?_
            refine r_iload_n e15848 ?_
            refine r_iload_n e15847 ?_
            refine r_callS 80 rfl [.int a2, .int a1] [] (Nat.le_of_ble_eq_true rfl) rfl (zT_X10_hasBit_hb _ hI15841 a2 a1) ?_
            rintro _ _ ⟨g15885, rfl, hI15886, hF15887, v15888, rfl, hr15889⟩
            refine At.sti ?_
            have hF15890 := Fr.tr hF15842 hF15887 rfl rfl
            refine At.enter rfl ?_
            refine r_ifs 83 rfl (fun c15891 => ?_) (fun c15891 => ?_)
            · have c15891_ : v15888.toInt ≠ 0 := en_k_ne_t c15891
              refine At.enter rfl ?_
              refine q_iinc e15850 (x15371.toInt + 1) rfl (by omega) (fun v15892 hv15892 => ?_)
              refine r_goto ?_
              have bv15893 := q_bnd x15370
              exact ih15377 (12 - v15892.toInt) _ _ ⟨x15370, v15892, by first | rfl | omega, hI15886, hF15890, (w_p1 (by decide) (Or.inr rfl) e15846), (w_p1 (by decide) (Or.inr rfl) e15847), (w_p1 (by decide) (Or.inr rfl) e15848), (w_p1 (by decide) (Or.inr rfl) e15849), (w_e1 _ _ _), by omega, (ACI.no (by omega) (show v15892.toInt = x15371.toInt + 1 from by omega) (fun f => by (first | (have z := q15855.mpr f; rw [show x15838.toInt = -1 from by omega] at z; exact RCI.none (by omega) z) | (have z := q15855.mpr f; rw [show x15838.toInt = a1.toInt from by omega] at z; exact RCI.hb (BL.yes hr15889.2 (by omega)) z) | (have z := q15855.mpr f; rw [show 12 - x15839.toInt = 0 from by omega] at z; have z2 := (RCI.z.mp z).1; omega))) q15384), by omega, by omega⟩ ⟨by omega, by omega⟩
            · have c15891_ : v15888.toInt = 0 := en_k_ne_f c15891
              refine At.enter rfl ?_
              refine r_iload_n e15849 ?_
              refine r_iconst 1 rfl ?_
              refine r_iload e15850 ?_
              refine q_ishlO (fun v15894 hv15894 => ?_)
              refine q_iorO (fun v15895 hv15895 => ?_)
              refine r_istore_n _ rfl ?_
              refine Ar.fall 90 rfl ?_
              refine At.enter rfl ?_
              refine q_iinc (w_p1 (by decide) (Or.inr rfl) e15850) (x15371.toInt + 1) rfl (by omega) (fun v15896 hv15896 => ?_)
              refine r_goto ?_
              have bv15897 := q_bnd v15895
              exact ih15377 (12 - v15896.toInt) _ _ ⟨v15895, v15896, by first | rfl | omega, hI15886, hF15890, (w_p1 (by decide) (Or.inr rfl) (w_p1 (by decide) (Or.inr rfl) e15846)), (w_p1 (by decide) (Or.inr rfl) (w_p1 (by decide) (Or.inr rfl) e15847)), (w_p1 (by decide) (Or.inr rfl) (w_p1 (by decide) (Or.inr rfl) e15848)), (w_p1 (by decide) (Or.inr rfl) (w_e1 _ _ _)), (w_e1 _ _ _), by omega, (ACI.yes (i := x15371) (by omega) (show v15896.toInt = x15371.toInt + 1 from by omega) (q15855.mp ((RCI.want (by omega) (by omega) (show x15838.toInt = a1.toInt from by omega)).mpr (by rw [show x15838.toInt = a1.toInt from by omega]; exact BL.no hr15889.2 (by omega)))) rfl hv15895 (by assumption) q15384), by omega, by omega⟩ ⟨by omega, by omega⟩
        · have c15881_ : x15838.toInt ≠ a1.toInt := en_i_eq_f c15881
          refine At.enter rfl ?_
          refine r_iload_n e15848 ?_
          refine r_iload e15851 ?_
          refine r_callS 49 rfl [.int a2, .int x15838] [] (Nat.le_of_ble_eq_true rfl) rfl (zT_X10_hasBit_hb _ hI15841 a2 x15838) ?_
          rintro _ _ ⟨g15898, rfl, hI15899, hF15900, v15901, rfl, hr15902⟩
          refine At.sti ?_
          have hF15903 := Fr.tr hF15842 hF15900 rfl rfl
          refine At.enter rfl ?_
          refine r_ifs 52 rfl (fun c15904 => ?_) (fun c15904 => ?_)
          · have c15904_ : v15901.toInt ≠ 0 := en_k_ne_t c15904
            refine At.enter rfl ?_
            refine r_iload e15851 ?_
            refine r_iload_n e15847 ?_
            refine r_ics 75 rfl (fun c15905 => ?_) (fun c15905 => ?_)
            · have c15905_ : x15838.toInt ≠ a1.toInt := en_i_ne_t c15905
              refine At.enter rfl ?_
              refine q_iinc e15850 (x15371.toInt + 1) rfl (by omega) (fun v15906 hv15906 => ?_)
              refine r_goto ?_
              have bv15907 := q_bnd x15370
              exact ih15377 (12 - v15906.toInt) _ _ ⟨x15370, v15906, by first | rfl | omega, hI15899, hF15903, (w_p1 (by decide) (Or.inr rfl) e15846), (w_p1 (by decide) (Or.inr rfl) e15847), (w_p1 (by decide) (Or.inr rfl) e15848), (w_p1 (by decide) (Or.inr rfl) e15849), (w_e1 _ _ _), by omega, (ACI.no (by omega) (show v15906.toInt = x15371.toInt + 1 from by omega) (fun f => by (first | (have z := q15855.mpr f; rw [show x15838.toInt = -1 from by omega] at z; exact RCI.none (by omega) z) | (have z := q15855.mpr f; rw [show x15838.toInt = x15838.toInt from by omega] at z; exact RCI.hb (BL.yes hr15902.2 (by omega)) z) | (have z := q15855.mpr f; rw [show 12 - x15839.toInt = 0 from by omega] at z; have z2 := (RCI.z.mp z).1; omega))) q15384), by omega, by omega⟩ ⟨by omega, by omega⟩
            · have c15905_ : x15838.toInt = a1.toInt := en_i_ne_f c15905
              refine At.enter rfl ?_
              refine r_iload_n e15848 ?_
              refine r_iload_n e15847 ?_
              refine r_callS 80 rfl [.int a2, .int a1] [] (Nat.le_of_ble_eq_true rfl) rfl (zT_X10_hasBit_hb _ hI15899 a2 a1) ?_
              rintro _ _ ⟨g15908, rfl, hI15909, hF15910, v15911, rfl, hr15912⟩
              refine At.sti ?_
              have hF15913 := Fr.tr hF15903 hF15910 rfl rfl
              refine At.enter rfl ?_
              refine r_ifs 83 rfl (fun c15914 => ?_) (fun c15914 => ?_)
              · have c15914_ : v15911.toInt ≠ 0 := en_k_ne_t c15914
                refine At.enter rfl ?_
                refine q_iinc e15850 (x15371.toInt + 1) rfl (by omega) (fun v15915 hv15915 => ?_)
                refine r_goto ?_
                have bv15916 := q_bnd x15370
                exact ih15377 (12 - v15915.toInt) _ _ ⟨x15370, v15915, by first | rfl | omega, hI15909, hF15913, (w_p1 (by decide) (Or.inr rfl) e15846), (w_p1 (by decide) (Or.inr rfl) e15847), (w_p1 (by decide) (Or.inr rfl) e15848), (w_p1 (by decide) (Or.inr rfl) e15849), (w_e1 _ _ _), by omega, (ACI.no (by omega) (show v15915.toInt = x15371.toInt + 1 from by omega) (fun f => by (first | (have z := q15855.mpr f; rw [show x15838.toInt = -1 from by omega] at z; exact RCI.none (by omega) z) | (have z := q15855.mpr f; rw [show x15838.toInt = a1.toInt from by omega] at z; exact RCI.hb (BL.yes hr15912.2 (by omega)) z) | (have z := q15855.mpr f; rw [show 12 - x15839.toInt = 0 from by omega] at z; have z2 := (RCI.z.mp z).1; omega))) q15384), by omega, by omega⟩ ⟨by omega, by omega⟩
              · have c15914_ : v15911.toInt = 0 := en_k_ne_f c15914
                refine At.enter rfl ?_
                refine r_iload_n e15849 ?_
                refine r_iconst 1 rfl ?_
                refine r_iload e15850 ?_
                refine q_ishlO (fun v15917 hv15917 => ?_)
                refine q_iorO (fun v15918 hv15918 => ?_)
                refine r_istore_n _ rfl ?_
                refine Ar.fall 90 rfl ?_
                refine At.enter rfl ?_
                refine q_iinc (w_p1 (by decide) (Or.inr rfl) e15850) (x15371.toInt + 1) rfl (by omega) (fun v15919 hv15919 => ?_)
                refine r_goto ?_
                have bv15920 := q_bnd v15918
                exact ih15377 (12 - v15919.toInt) _ _ ⟨v15918, v15919, by first | rfl | omega, hI15909, hF15913, (w_p1 (by decide) (Or.inr rfl) (w_p1 (by decide) (Or.inr rfl) e15846)), (w_p1 (by decide) (Or.inr rfl) (w_p1 (by decide) (Or.inr rfl) e15847)), (w_p1 (by decide) (Or.inr rfl) (w_p1 (by decide) (Or.inr rfl) e15848)), (w_p1 (by decide) (Or.inr rfl) (w_e1 _ _ _)), (w_e1 _ _ _), by omega, (ACI.yes (i := x15371) (by omega) (show v15919.toInt = x15371.toInt + 1 from by omega) (q15855.mp ((RCI.want (by omega) (by omega) (show x15838.toInt = a1.toInt from by omega)).mpr (by rw [show x15838.toInt = a1.toInt from by omega]; exact BL.no hr15912.2 (by omega)))) rfl hv15918 (by assumption) q15384), by omega, by omega⟩ ⟨by omega, by omega⟩
          · have c15904_ : v15901.toInt = 0 := en_k_ne_f c15904
            refine At.enter rfl ?_
            refine r_aload_n e15846 ?_
            refine q_getR (Sh.ref hI15899.1 kx_184 rfl) ?_
            refine r_iload e15851 ?_
            refine r_callV 61 rfl [.ref 1, .int x15838] [] (Nat.le_of_ble_eq_true rfl) rfl (T_X0_next_1 _ hI15899 x15838) ?_
            rintro _ _ ⟨g15921, rfl, hI15922, hF15923, v15924, rfl, hr15925⟩
            refine At.sti ?_
            have hF15926 := Fr.tr hF15903 hF15923 rfl rfl
            rw [NX.c (((hF15900.2.1 2 (by decide)).trans (hF15842.2.1 2 (by decide)))) (((hF15900.1 1 0 (by decide)).trans (hF15842.1 1 0 (by decide))))] at hr15925
            refine At.enter rfl ?_
            refine r_istore _ rfl ?_
            refine q_iinc (w_p1 (by decide) (Or.inr rfl) e15852) (x15839.toInt + 1) rfl (by omega) (fun v15927 hv15927 => ?_)
            refine r_goto ?_
            exact ih15845 (12 - v15927.toInt) _ _ ⟨v15924, v15927, by first | rfl | omega, hI15922, hF15926, (w_p1 (by decide) (Or.inr rfl) (w_p1 (by decide) (Or.inr rfl) e15846)), (w_p1 (by decide) (Or.inr rfl) (w_p1 (by decide) (Or.inr rfl) e15847)), (w_p1 (by decide) (Or.inr rfl) (w_p1 (by decide) (Or.inr rfl) e15848)), (w_p1 (by decide) (Or.inr rfl) (w_p1 (by decide) (Or.inr rfl) e15849)), (w_p1 (by decide) (Or.inr rfl) (w_p1 (by decide) (Or.inr rfl) e15850)), (w_p1 (by decide) (Or.inr rfl) (w_e1 _ _ _)), (w_e1 _ _ _), by omega, by omega, (by rw [show v15924.toInt = NX g0 x15838.toInt from by omega]; exact (RCI.step (by omega) (by omega) (BL.no hr15902.2 (by omega)) (by omega) (by omega)).symm.trans q15855), by omega, by omega⟩ ⟨by omega, by omega⟩

def zF_X9_minutesInPieces_184 : List (Nat × Nat) := []
def zA_X9_minutesInPieces_184 : List Nat := []
set_option maxRecDepth 100000 in
set_option maxHeartbeats 4000000 in
theorem zT_X9_minutesInPieces_184 (d : Nat) {N : Nat} {g0 : List en_E} (hI0 : HI g0) (a1 : Int32) : Ev (d + 4) 101 [.ref 184, .int a1] (g0, N) (fun w h' => ∃ g', h' = (g', N) ∧ HI g' ∧ Fr zF_X9_minutesInPieces_184 zA_X9_minutesInPieces_184 g0 g' ∧ ∃ r : Int32, w = some (.int r) ∧ True ∧ ((0 ≤ a1.toInt ∧ a1.toInt < (gI g0 1 4).toInt) → (eA g0 5 (6 * a1.toInt + 2)).toInt ≠ -1 → PCE (NX g0) (SX g0) 11 (eA g0 5 (6 * a1.toInt + 1)).toInt (eA g0 5 (6 * a1.toInt + 2)).toInt (eA g0 5 (6 * a1.toInt + 0)).toInt r)) := by
  have hF0 : Fr zF_X9_minutesInPieces_184 zA_X9_minutesInPieces_184 g0 g0 := Fr.rf
  refine Ev.mk rfl rfl ⟨Nat.le_of_ble_eq_true rfl, Or.inr (q_rc hI0.1 kx_184 rfl)⟩ ?_
  show At _ none _ _ (0, [(0, .ref 184), (1, .int a1)], [], (_, _)) _
  refine At.enter rfl ?_
  refine r_aload_n rfl ?_
  refine q_getR (Sh.ref hI0.1 kx_184 rfl) ?_
  refine r_iload_n rfl ?_
  refine r_callV 8 rfl [.ref 1, .int a1] [] (Nat.le_of_ble_eq_true rfl) rfl (zT_X0_handsOf_1 _ hI0 a1) ?_
  rintro _ _ ⟨g1175, rfl, hI1176, hF1177, v1178, rfl, hr1179⟩
  refine At.sti ?_
  have hF1180 := Fr.tr hF0 hF1177 rfl rfl
  refine At.enter rfl ?_
  refine r_istore_n ([(2, .int v1178), (0, .ref 184), (1, .int a1)]) rfl ?_
  refine r_aload_n rfl ?_
  refine q_getR (Sh.ref hI1176.1 kx_184 rfl) ?_
  refine r_iload_n rfl ?_
  refine r_iconst 1 rfl ?_
  refine r_callV 18 rfl [.ref 1, .int a1, .int 1] [] (Nat.le_of_ble_eq_true rfl) rfl (zT_X0_about_1 _ hI1176 a1 1) ?_
  rintro _ _ ⟨g1181, rfl, hI1182, hF1183, v1184, rfl, hr1185⟩
  refine At.sti ?_
  have hF1186 := Fr.tr hF1180 hF1183 rfl rfl
  have zv1187 : (1 : Int32).toInt = 1 := rfl
  have ab1188_ := ABX.c ((hF1177.2.1 5 (by decide))) ((hF1177.1 1 4 (by decide))) hr1185.2
  have ab1188 : ABX g0 a1.toInt 1 v1184.toInt := ab1188_
  refine At.enter rfl ?_
  refine r_istore_n ([(3, .int v1184), (2, .int v1178), (0, .ref 184), (1, .int a1)]) rfl ?_
  refine r_bipush 9 rfl ?_
  refine r_istore ([(4, .int 9), (3, .int v1184), (2, .int v1178), (0, .ref 184), (1, .int a1)]) rfl ?_
  refine r_iconst 0 rfl ?_
  refine r_istore ([(5, .int 0), (4, .int 9), (3, .int v1184), (2, .int v1178), (0, .ref 184), (1, .int a1)]) rfl ?_
  refine Ar.fall 26 rfl ?_
  have z_1701 : (9 : Int32).toInt = 9 := rfl
  have z_1702 : (0 : Int32).toInt = 0 := rfl
  refine w_loopI (fun n_ l_ g_ => ∃ x1680 : Int32, ∃ x1681 : Int32, ∃ x1682 : Int32, n_ = 11 - x1682.toInt ∧ HI g_ ∧ Fr zF_X9_minutesInPieces_184 zA_X9_minutesInPieces_184 g0 g_ ∧ en_get 0 l_ = some (.ref 184) ∧ en_get 1 l_ = some (.int a1) ∧ en_get 2 l_ = some (.int v1178) ∧ en_get 3 l_ = some (.int x1680) ∧ en_get 4 l_ = some (.int x1681) ∧ en_get 5 l_ = some (.int x1682) ∧ x1681.toInt ≤ 9 ∧ (0 ≤ x1682.toInt ∧ x1682.toInt ≤ 11) ∧ (x1680.toInt = itI (NX g0) x1682.toInt v1184.toInt) ∧ (x1681.toInt = LSI (NX g0) (SX g0) x1682.toInt v1184.toInt) ∧ (0 ≤ x1682.toInt) ∧ (x1682.toInt ≤ v1178.toInt ∨ x1682.toInt = 0)) ?_ (11 - 0) ⟨v1184, 9, 0, by first | rfl | omega, hI1182, hF1186, rfl, rfl, rfl, rfl, rfl, rfl, by decide, by decide, (itI_n _ (by first | decide | omega) _).symm, (LSI.z _ _ _ (by first | decide | omega)), by omega, by omega⟩
  rintro n1687 l1686 g1683 ⟨x1680, x1681, x1682, hm1703, hI1684, hF1685, e1689, e1690, e1691, e1692, e1693, e1694, r1695, r1696, q1697, q1698, q1699, q1700⟩ ih1688
  refine At.enter rfl ?_
  refine r_iload e1694 ?_
  refine r_iload_n e1691 ?_
  have bv1705 := q_bnd x1682
  have bv1706 := q_bnd v1178
  refine r_ics 32 rfl (fun c1704 => ?_) (fun c1704 => ?_)
  · have c1704_ : x1682.toInt ≥ v1178.toInt := en_i_ge_t c1704
    refine At.enter rfl ?_
    refine r_iload_n e1691 ?_
    refine r_ifs 78 rfl (fun c1707 => ?_) (fun c1707 => ?_)
    · have c1707_ : v1178.toInt ≤ 0 := en_k_le_t c1707
      refine At.enter rfl ?_
      refine r_iload_n e1691 ?_
      refine r_ireti ?_
      obtain ⟨v1708, hv1708⟩ : ∃ v, gI g0 1 0 = v := ⟨_, rfl⟩
      have rv1708 := RgF.at hI0.2.1 (p := 1) (b := 0) rfl
      rw [hv1708] at rv1708
      dsimp only at rv1708
      have tv1708 := congrArg Int32.toInt hv1708
      have x1709 := HI.eqI hI0 (p := 1) (b := 0) (hv1708)
      exact ⟨_, rfl, hI1684, hF1685, _, rfl, trivial, (fun h hw => by have e1 := ab1188.1 ⟨h.1, h.2, by decide, by decide⟩; have wf := hr1179.2 h hw; rw [← e1] at wf; rw [← e1]; first | (exact PCE.few v1178 wf (by omega) (by omega)) | (exact PCE.low v1178 x1681 wf (by rw [show v1178.toInt = x1682.toInt from by omega]; exact q1698) (by omega) (by omega)) | ((exfalso; have z := WAYF.stand wf hw (by omega) (by omega) q1697; omega)))⟩
    · have c1707_ : v1178.toInt > 0 := en_k_le_f c1707
      refine At.enter rfl ?_
      refine r_iload e1693 ?_
      refine r_iconst 1 rfl ?_
      refine r_ics 84 rfl (fun c1710 => ?_) (fun c1710 => ?_)
      · have c1710_ : x1681.toInt ≥ 1 := en_i_ge_t c1710
        refine At.enter rfl ?_
        refine r_iload_n e1691 ?_
        refine r_aload_n e1689 ?_
        refine q_getR (Sh.ref hI1684.1 kx_184 rfl) ?_
        refine r_iload_n e1690 ?_
        refine r_iconst 0 rfl ?_
        refine r_callV 96 rfl [.ref 1, .int a1, .int 0] [.int v1178] (Nat.le_of_ble_eq_true rfl) rfl (zT_X0_about_1 _ hI1684 a1 0) ?_
        rintro _ _ ⟨g1711, rfl, hI1712, hF1713, v1714, rfl, hr1715⟩
        refine At.sti ?_
        have hF1716 := Fr.tr hF1685 hF1713 rfl rfl
        have zv1717 : (0 : Int32).toInt = 0 := rfl
        have ab1718_ := ABX.c ((hF1685.2.1 5 (by decide))) ((hF1685.1 1 4 (by decide))) hr1715.2
        have ab1718 : ABX g0 a1.toInt 0 v1714.toInt := ab1718_
        refine At.enter rfl ?_
        refine r_iload e1693 ?_
        refine q_iaddO (fun v1719 ov1719 => ?_)
        refine r_iconst 1 rfl ?_
        refine q_isubO (fun v1720 ov1720 => ?_)
        refine r_iload e1693 ?_
        refine q_idivO (by omega) (fun v1721 ov1721 => ?_)
        refine q_iaddO (fun v1722 ov1722 => ?_)
        refine r_iconst 1 rfl ?_
        refine q_isubO (fun v1723 ov1723 => ?_)
        refine r_ireti ?_
        obtain ⟨v1724, hv1724⟩ : ∃ v, gI g0 1 0 = v := ⟨_, rfl⟩
        have rv1724 := RgF.at hI0.2.1 (p := 1) (b := 0) rfl
        rw [hv1724] at rv1724
        dsimp only at rv1724
        have tv1724 := congrArg Int32.toInt hv1724
        have x1725 := HI.eqI hI0 (p := 1) (b := 0) (hv1724)
        exact ⟨_, rfl, hI1712, hF1716, _, rfl, trivial, (fun h hw => by have e1 := ab1188.1 ⟨h.1, h.2, by decide, by decide⟩; have wf := hr1179.2 h hw; rw [← e1] at wf; rw [← e1]; first | (exact PCE.few v1178 wf (by omega) (by omega)) | (exact PCE.low v1178 x1681 wf (by rw [show v1178.toInt = x1682.toInt from by omega]; exact q1698) (by omega) (by omega)) | (exact PCE.mk v1178 x1681 v1714 wf (by rw [show v1178.toInt = x1682.toInt from by omega]; exact q1698) (by omega) (by omega) (ab1718.1 ⟨h.1, h.2, by decide, by decide⟩) (by rw [ov1723, ov1722, ov1721, ov1720, ov1719])) | ((exfalso; have z := WAYF.stand wf hw (by omega) (by omega) q1697; omega)))⟩
      · have c1710_ : x1681.toInt < 1 := en_i_ge_f c1710
        refine At.enter rfl ?_
        refine r_iload_n e1691 ?_
        refine r_ireti ?_
        obtain ⟨v1726, hv1726⟩ : ∃ v, gI g0 1 0 = v := ⟨_, rfl⟩
        have rv1726 := RgF.at hI0.2.1 (p := 1) (b := 0) rfl
        rw [hv1726] at rv1726
        dsimp only at rv1726
        have tv1726 := congrArg Int32.toInt hv1726
        have x1727 := HI.eqI hI0 (p := 1) (b := 0) (hv1726)
        exact ⟨_, rfl, hI1684, hF1685, _, rfl, trivial, (fun h hw => by have e1 := ab1188.1 ⟨h.1, h.2, by decide, by decide⟩; have wf := hr1179.2 h hw; rw [← e1] at wf; rw [← e1]; first | (exact PCE.few v1178 wf (by omega) (by omega)) | (exact PCE.low v1178 x1681 wf (by rw [show v1178.toInt = x1682.toInt from by omega]; exact q1698) (by omega) (by omega)) | ((exfalso; have z := WAYF.stand wf hw (by omega) (by omega) q1697; omega)))⟩
  · have c1704_ : x1682.toInt < v1178.toInt := en_i_ge_f c1704
    refine At.enter rfl ?_
    refine r_aload_n e1689 ?_
    refine q_getR (Sh.ref hI1684.1 kx_184 rfl) ?_
    refine r_iload_n e1692 ?_
    refine q_inlV 40 rfl [.ref 1, .int x1680] [] (Nat.le_of_ble_eq_true rfl) rfl ?_
    refine Ev.mk rfl rfl ⟨Nat.le_of_ble_eq_true rfl, Or.inr (q_rc hI1684.1 kx_1 rfl)⟩ ?_
    show At _ none _ _ (0, [(0, .ref 1), (1, .int x1680)], [], (_, _)) _
    refine At.enter rfl ?_
    refine r_iload_n rfl ?_
    refine r_ifs 4 rfl (fun c1728 => ?_) (fun c1728 => ?_)
    · have c1728_ : x1680.toInt < 0 := en_k_lt_t c1728
      refine At.enter rfl ?_
      refine r_iconst 0 rfl ?_
      refine Ar.fall 17 rfl ?_
      refine At.enter rfl ?_
      refine q_iretz (by decide) ?_
      refine At.enter rfl ?_
      refine r_ift (by decide) ?_
      refine At.enter rfl ?_
      refine r_iload_n e1691 ?_
      refine r_ifs 78 rfl (fun c1729 => ?_) (fun c1729 => ?_)
      · have c1729_ : v1178.toInt ≤ 0 := en_k_le_t c1729
        exfalso; omega
      · have c1729_ : v1178.toInt > 0 := en_k_le_f c1729
        refine At.enter rfl ?_
        refine r_iload e1693 ?_
        refine r_iconst 1 rfl ?_
        refine r_ics 84 rfl (fun c1730 => ?_) (fun c1730 => ?_)
        · have c1730_ : x1681.toInt ≥ 1 := en_i_ge_t c1730
          refine At.enter rfl ?_
          refine r_iload_n e1691 ?_
          refine r_aload_n e1689 ?_
          refine q_getR (Sh.ref hI1684.1 kx_184 rfl) ?_
          refine r_iload_n e1690 ?_
          refine r_iconst 0 rfl ?_
          refine r_callV 96 rfl [.ref 1, .int a1, .int 0] [.int v1178] (Nat.le_of_ble_eq_true rfl) rfl (zT_X0_about_1 _ hI1684 a1 0) ?_
          rintro _ _ ⟨g1731, rfl, hI1732, hF1733, v1734, rfl, hr1735⟩
          refine At.sti ?_
          have hF1736 := Fr.tr hF1685 hF1733 rfl rfl
          have zv1737 : (0 : Int32).toInt = 0 := rfl
          have ab1738_ := ABX.c ((hF1685.2.1 5 (by decide))) ((hF1685.1 1 4 (by decide))) hr1735.2
          have ab1738 : ABX g0 a1.toInt 0 v1734.toInt := ab1738_
          refine At.enter rfl ?_
          refine r_iload e1693 ?_
          refine q_iaddO (fun v1739 ov1739 => ?_)
          refine r_iconst 1 rfl ?_
          refine q_isubO (fun v1740 ov1740 => ?_)
          refine r_iload e1693 ?_
          refine q_idivO (by omega) (fun v1741 ov1741 => ?_)
          refine q_iaddO (fun v1742 ov1742 => ?_)
          refine r_iconst 1 rfl ?_
          refine q_isubO (fun v1743 ov1743 => ?_)
          refine r_ireti ?_
          obtain ⟨v1744, hv1744⟩ : ∃ v, gI g0 1 0 = v := ⟨_, rfl⟩
          have rv1744 := RgF.at hI0.2.1 (p := 1) (b := 0) rfl
          rw [hv1744] at rv1744
          dsimp only at rv1744
          have tv1744 := congrArg Int32.toInt hv1744
          have x1745 := HI.eqI hI0 (p := 1) (b := 0) (hv1744)
          exact ⟨_, rfl, hI1732, hF1736, _, rfl, trivial, (fun h hw => by have e1 := ab1188.1 ⟨h.1, h.2, by decide, by decide⟩; have wf := hr1179.2 h hw; rw [← e1] at wf; rw [← e1]; first | (exact PCE.few v1178 wf (by omega) (by omega)) | (exact PCE.low v1178 x1681 wf (by rw [show v1178.toInt = x1682.toInt from by omega]; exact q1698) (by omega) (by omega)) | (exact PCE.mk v1178 x1681 v1734 wf (by rw [show v1178.toInt = x1682.toInt from by omega]; exact q1698) (by omega) (by omega) (ab1738.1 ⟨h.1, h.2, by decide, by decide⟩) (by rw [ov1743, ov1742, ov1741, ov1740, ov1739])) | ((exfalso; have z := WAYF.stand wf hw (by omega) (by omega) q1697; omega)))⟩
        · have c1730_ : x1681.toInt < 1 := en_i_ge_f c1730
          refine At.enter rfl ?_
          refine r_iload_n e1691 ?_
          refine r_ireti ?_
          obtain ⟨v1746, hv1746⟩ : ∃ v, gI g0 1 0 = v := ⟨_, rfl⟩
          have rv1746 := RgF.at hI0.2.1 (p := 1) (b := 0) rfl
          rw [hv1746] at rv1746
          dsimp only at rv1746
          have tv1746 := congrArg Int32.toInt hv1746
          have x1747 := HI.eqI hI0 (p := 1) (b := 0) (hv1746)
          exact ⟨_, rfl, hI1684, hF1685, _, rfl, trivial, (fun h hw => by have e1 := ab1188.1 ⟨h.1, h.2, by decide, by decide⟩; have wf := hr1179.2 h hw; rw [← e1] at wf; rw [← e1]; first | (exact PCE.few v1178 wf (by omega) (by omega)) | (exact PCE.low v1178 x1681 wf (by rw [show v1178.toInt = x1682.toInt from by omega]; exact q1698) (by omega) (by omega)) | ((exfalso; have z := WAYF.stand wf hw (by omega) (by omega) q1697; omega)))⟩
    · have c1728_ : x1680.toInt ≥ 0 := en_k_lt_f c1728
      refine At.enter rfl ?_
      refine r_iload_n rfl ?_
      refine r_aload_n rfl ?_
      obtain ⟨v1748, hv1748⟩ : ∃ v, gI g0 1 0 = v := ⟨_, rfl⟩
      have rv1748 := RgF.at hI0.2.1 (p := 1) (b := 0) rfl
      rw [hv1748] at rv1748
      dsimp only at rv1748
      refine q_getI (Sh.int hI1684.1 kx_1 rfl) v1748 ((hF1685.1 1 0 (by decide)).trans hv1748) ?_
      have bv1750 := q_bnd x1680
      have bv1751 := q_bnd v1748
      refine r_ics 12 rfl (fun c1749 => ?_) (fun c1749 => ?_)
      · have c1749_ : x1680.toInt ≥ v1748.toInt := en_i_ge_t c1749
        refine At.enter rfl ?_
        refine r_iconst 0 rfl ?_
        refine Ar.fall 17 rfl ?_
        refine At.enter rfl ?_
        refine q_iretz (by decide) ?_
        refine At.enter rfl ?_
        refine r_ift (by decide) ?_
        refine At.enter rfl ?_
        refine r_iload_n e1691 ?_
        refine r_ifs 78 rfl (fun c1752 => ?_) (fun c1752 => ?_)
        · have c1752_ : v1178.toInt ≤ 0 := en_k_le_t c1752
          exfalso; omega
        · have c1752_ : v1178.toInt > 0 := en_k_le_f c1752
          refine At.enter rfl ?_
          refine r_iload e1693 ?_
          refine r_iconst 1 rfl ?_
          refine r_ics 84 rfl (fun c1753 => ?_) (fun c1753 => ?_)
          · have c1753_ : x1681.toInt ≥ 1 := en_i_ge_t c1753
            refine At.enter rfl ?_
            refine r_iload_n e1691 ?_
            refine r_aload_n e1689 ?_
            refine q_getR (Sh.ref hI1684.1 kx_184 rfl) ?_
            refine r_iload_n e1690 ?_
            refine r_iconst 0 rfl ?_
            refine r_callV 96 rfl [.ref 1, .int a1, .int 0] [.int v1178] (Nat.le_of_ble_eq_true rfl) rfl (zT_X0_about_1 _ hI1684 a1 0) ?_
            rintro _ _ ⟨g1754, rfl, hI1755, hF1756, v1757, rfl, hr1758⟩
            refine At.sti ?_
            have hF1759 := Fr.tr hF1685 hF1756 rfl rfl
            have zv1760 : (0 : Int32).toInt = 0 := rfl
            have ab1761_ := ABX.c ((hF1685.2.1 5 (by decide))) ((hF1685.1 1 4 (by decide))) hr1758.2
            have ab1761 : ABX g0 a1.toInt 0 v1757.toInt := ab1761_
            refine At.enter rfl ?_
            refine r_iload e1693 ?_
            refine q_iaddO (fun v1762 ov1762 => ?_)
            refine r_iconst 1 rfl ?_
            refine q_isubO (fun v1763 ov1763 => ?_)
            refine r_iload e1693 ?_
            refine q_idivO (by omega) (fun v1764 ov1764 => ?_)
            refine q_iaddO (fun v1765 ov1765 => ?_)
            refine r_iconst 1 rfl ?_
            refine q_isubO (fun v1766 ov1766 => ?_)
            refine r_ireti ?_
            have x1767 := HI.eqI hI0 (p := 1) (b := 0) (hv1748)
            exact ⟨_, rfl, hI1755, hF1759, _, rfl, trivial, (fun h hw => by have e1 := ab1188.1 ⟨h.1, h.2, by decide, by decide⟩; have wf := hr1179.2 h hw; rw [← e1] at wf; rw [← e1]; first | (exact PCE.few v1178 wf (by omega) (by omega)) | (exact PCE.low v1178 x1681 wf (by rw [show v1178.toInt = x1682.toInt from by omega]; exact q1698) (by omega) (by omega)) | (exact PCE.mk v1178 x1681 v1757 wf (by rw [show v1178.toInt = x1682.toInt from by omega]; exact q1698) (by omega) (by omega) (ab1761.1 ⟨h.1, h.2, by decide, by decide⟩) (by rw [ov1766, ov1765, ov1764, ov1763, ov1762])) | ((exfalso; have z := WAYF.stand wf hw (by omega) (by omega) q1697; omega)))⟩
          · have c1753_ : x1681.toInt < 1 := en_i_ge_f c1753
            refine At.enter rfl ?_
            refine r_iload_n e1691 ?_
            refine r_ireti ?_
            have x1768 := HI.eqI hI0 (p := 1) (b := 0) (hv1748)
            exact ⟨_, rfl, hI1684, hF1685, _, rfl, trivial, (fun h hw => by have e1 := ab1188.1 ⟨h.1, h.2, by decide, by decide⟩; have wf := hr1179.2 h hw; rw [← e1] at wf; rw [← e1]; first | (exact PCE.few v1178 wf (by omega) (by omega)) | (exact PCE.low v1178 x1681 wf (by rw [show v1178.toInt = x1682.toInt from by omega]; exact q1698) (by omega) (by omega)) | ((exfalso; have z := WAYF.stand wf hw (by omega) (by omega) q1697; omega)))⟩
      · have c1749_ : x1680.toInt < v1748.toInt := en_i_ge_f c1749
        refine At.enter rfl ?_
        refine r_iconst 1 rfl ?_
        refine r_goto ?_
        refine At.enter rfl ?_
        refine q_iretz (by decide) ?_
        refine At.enter rfl ?_
        refine r_iff 43 rfl (by decide) ?_
        refine At.enter rfl ?_
        refine r_iload e1693 ?_
        refine r_aload_n e1689 ?_
        refine q_getR (Sh.ref hI1684.1 kx_184 rfl) ?_
        refine q_getR (Sh.ref hI1684.1 kx_1 rfl) ?_
        refine r_iload_n e1692 ?_
        obtain ⟨v1769, hv1769⟩ : ∃ v, eA g0 3 x1680.toInt = v := ⟨_, rfl⟩
        refine q_iald (Sh.arr hI1684.1 ka_3) x1680.toInt rfl (by omega) v1769 ((eA_c (hF1685.2.1 3 (by decide))).trans hv1769) ?_
        refine q_mmin rfl (Nat.le_of_ble_eq_true rfl) (fun v1770 hv1770 => ?_)
        refine r_istore _ rfl ?_
        refine r_aload_n (w_p1 (by decide) (Or.inr rfl) e1689) ?_
        refine q_getR (Sh.ref hI1684.1 kx_184 rfl) ?_
        refine r_iload_n (w_p1 (by decide) (Or.inr rfl) e1692) ?_
        refine r_callV 67 rfl [.ref 1, .int x1680] [] (Nat.le_of_ble_eq_true rfl) rfl (T_X0_next_1 _ hI1684 x1680) ?_
        rintro _ _ ⟨g1771, rfl, hI1772, hF1773, v1774, rfl, hr1775⟩
        refine At.sti ?_
        have hF1776 := Fr.tr hF1685 hF1773 rfl rfl
        rw [NX.c ((hF1685.2.1 2 (by decide))) ((hF1685.1 1 0 (by decide)))] at hr1775
        refine At.enter rfl ?_
        refine r_istore_n _ rfl ?_
        refine q_iinc (w_p1 (by decide) (Or.inr rfl) (w_p1 (by decide) (Or.inr rfl) e1694)) (x1682.toInt + 1) rfl (by omega) (fun v1777 hv1777 => ?_)
        refine r_goto ?_
        have bv1778 := q_bnd v1774
        have bv1779 := q_bnd v1770
        exact ih1688 (11 - v1777.toInt) _ _ ⟨v1774, v1770, v1777, by first | rfl | omega, hI1772, hF1776, (w_p1 (by decide) (Or.inr rfl) (w_p1 (by decide) (Or.inr rfl) (w_p1 (by decide) (Or.inr rfl) e1689))), (w_p1 (by decide) (Or.inr rfl) (w_p1 (by decide) (Or.inr rfl) (w_p1 (by decide) (Or.inr rfl) e1690))), (w_p1 (by decide) (Or.inr rfl) (w_p1 (by decide) (Or.inr rfl) (w_p1 (by decide) (Or.inr rfl) e1691))), (w_p1 (by decide) (Or.inr rfl) (w_e1 _ _ _)), (w_p1 (by decide) (Or.inr rfl) (w_p1 (by decide) (Or.inr rfl) (w_e1 _ _ _))), (w_e1 _ _ _), by omega, by omega, (by rw [show v1777.toInt = x1682.toInt + 1 from by omega, itI_s (NX g0) (by omega), ← q1697]; omega), (LSI.step (x := v1769.toInt) (by omega) (show v1777.toInt = x1682.toInt + 1 from by omega) q1698 (by rw [← q1697]; exact congrArg Int32.toInt hv1769) ⟨by omega, by omega, by omega⟩), by omega, by omega⟩ ⟨by omega, by omega⟩

def zF_X10_whyNoLoad_0 : List (Nat × Nat) := []
def zA_X10_whyNoLoad_0 : List Nat := []
set_option maxRecDepth 100000 in
set_option maxHeartbeats 4000000 in
theorem zT_X10_whyNoLoad_0 (d : Nat) {N : Nat} {g0 : List en_E} (hI0 : HI g0) (a1 : Int32) (a2 : Int32) (a3 : Int32) (a4 : Int32) (a5 : Int32) (a6 : Int32) : Ev (d + 2) 149 [.ref 0, .int a1, .int a2, .int a3, .int a4, .int a5, .int a6] (g0, N) (fun w h' => ∃ g', h' = (g', N) ∧ HI g' ∧ Fr zF_X10_whyNoLoad_0 zA_X10_whyNoLoad_0 g0 g' ∧ ∃ r : Int32, w = some (.int r) ∧ ((-5) ≤ r.toInt ∧ r.toInt ≤ 0) ∧ (WNL (gI g0 1 0).toInt (gI g0 1 4).toInt a1.toInt a2.toInt a3.toInt a4.toInt a5.toInt a6.toInt r.toInt)) := by
  have hF0 : Fr zF_X10_whyNoLoad_0 zA_X10_whyNoLoad_0 g0 g0 := Fr.rf
  refine Ev.mk rfl rfl ⟨Nat.le_of_ble_eq_true rfl, Or.inr (q_rc hI0.1 kx_0 rfl)⟩ ?_
  show At _ none _ _ (0, [(0, .ref 0), (1, .int a1), (2, .int a2), (3, .int a3), (4, .int a4), (5, .int a5), (6, .int a6)], [], (_, _)) _
  refine At.enter rfl ?_
  refine r_iload_n rfl ?_
  refine r_iconst 1 rfl ?_
  refine r_bipush 9 rfl ?_
  refine q_inlS 7 rfl [.int a1, .int 1, .int 9] [] (Nat.le_of_ble_eq_true rfl) rfl ?_
  refine Ev.mk rfl rfl ⟨Nat.le_of_ble_eq_true rfl, Or.inl rfl⟩ ?_
  show At _ none _ _ (0, [(0, .int a1), (1, .int 1), (2, .int 9)], [], (_, _)) _
  refine At.enter rfl ?_
  refine r_iload_n rfl ?_
  refine r_iload_n rfl ?_
  refine r_ics 5 rfl (fun c37 => ?_) (fun c37 => ?_)
  · have c37_ : a1.toInt < 1 := en_i_lt_t c37
    refine At.enter rfl ?_
    refine r_iconst 0 rfl ?_
    refine Ar.fall 15 rfl ?_
    refine At.enter rfl ?_
    refine q_iretz (by decide) ?_
    refine At.enter rfl ?_
    refine r_ift (by decide) ?_
    refine At.enter rfl ?_
    refine r_iconst (-1) rfl ?_
    refine r_ireti ?_
    have zv38 : ((-1) : Int32).toInt = (-1) := rfl
    obtain ⟨v39, hv39⟩ : ∃ v, gI g0 1 0 = v := ⟨_, rfl⟩
    have rv39 := RgF.at hI0.2.1 (p := 1) (b := 0) rfl
    rw [hv39] at rv39
    dsimp only at rv39
    have tv39 := congrArg Int32.toInt hv39
    have x40 := HI.eqI hI0 (p := 1) (b := 0) (hv39)
    obtain ⟨v41, hv41⟩ : ∃ v, gI g0 1 4 = v := ⟨_, rfl⟩
    have rv41 := RgF.at hI0.2.1 (p := 1) (b := 4) rfl
    rw [hv41] at rv41
    dsimp only at rv41
    have tv41 := congrArg Int32.toInt hv41
    have x42 := HI.eqI hI0 (p := 1) (b := 4) (hv41)
    exact ⟨_, rfl, hI0, hF0, _, rfl, by decide, ⟨by omega, by omega, by omega, by omega⟩⟩
  · have c37_ : a1.toInt ≥ 1 := en_i_lt_f c37
    refine At.enter rfl ?_
    refine r_iload_n rfl ?_
    refine r_iload_n rfl ?_
    refine r_ics 10 rfl (fun c43 => ?_) (fun c43 => ?_)
    · have c43_ : a1.toInt > 9 := en_i_gt_t c43
      refine At.enter rfl ?_
      refine r_iconst 0 rfl ?_
      refine Ar.fall 15 rfl ?_
      refine At.enter rfl ?_
      refine q_iretz (by decide) ?_
      refine At.enter rfl ?_
      refine r_ift (by decide) ?_
      refine At.enter rfl ?_
      refine r_iconst (-1) rfl ?_
      refine r_ireti ?_
      have zv44 : ((-1) : Int32).toInt = (-1) := rfl
      obtain ⟨v45, hv45⟩ : ∃ v, gI g0 1 0 = v := ⟨_, rfl⟩
      have rv45 := RgF.at hI0.2.1 (p := 1) (b := 0) rfl
      rw [hv45] at rv45
      dsimp only at rv45
      have tv45 := congrArg Int32.toInt hv45
      have x46 := HI.eqI hI0 (p := 1) (b := 0) (hv45)
      obtain ⟨v47, hv47⟩ : ∃ v, gI g0 1 4 = v := ⟨_, rfl⟩
      have rv47 := RgF.at hI0.2.1 (p := 1) (b := 4) rfl
      rw [hv47] at rv47
      dsimp only at rv47
      have tv47 := congrArg Int32.toInt hv47
      have x48 := HI.eqI hI0 (p := 1) (b := 4) (hv47)
      exact ⟨_, rfl, hI0, hF0, _, rfl, by decide, ⟨by omega, by omega, by omega, by omega⟩⟩
    · have c43_ : a1.toInt ≤ 9 := en_i_gt_f c43
      refine At.enter rfl ?_
      refine r_iconst 1 rfl ?_
      refine r_goto ?_
      refine At.enter rfl ?_
      refine q_iretz (by decide) ?_
      refine At.enter rfl ?_
      refine r_iff 10 rfl (by decide) ?_
      refine At.enter rfl ?_
      refine r_iload rfl ?_
      refine r_iconst 0 rfl ?_
      refine r_bipush 99 rfl ?_
      refine q_inlS 18 rfl [.int a4, .int 0, .int 99] [] (Nat.le_of_ble_eq_true rfl) rfl ?_
      refine Ev.mk rfl rfl ⟨Nat.le_of_ble_eq_true rfl, Or.inl rfl⟩ ?_
      show At _ none _ _ (0, [(0, .int a4), (1, .int 0), (2, .int 99)], [], (_, _)) _
      refine At.enter rfl ?_
      refine r_iload_n rfl ?_
      refine r_iload_n rfl ?_
      refine r_ics 5 rfl (fun c49 => ?_) (fun c49 => ?_)
      · have c49_ : a4.toInt < 0 := en_i_lt_t c49
        refine At.enter rfl ?_
        refine r_iconst 0 rfl ?_
        refine Ar.fall 15 rfl ?_
        refine At.enter rfl ?_
        refine q_iretz (by decide) ?_
        refine At.enter rfl ?_
        refine r_ift (by decide) ?_
        refine At.enter rfl ?_
        refine r_iconst (-1) rfl ?_
        refine r_ireti ?_
        have zv50 : ((-1) : Int32).toInt = (-1) := rfl
        obtain ⟨v51, hv51⟩ : ∃ v, gI g0 1 0 = v := ⟨_, rfl⟩
        have rv51 := RgF.at hI0.2.1 (p := 1) (b := 0) rfl
        rw [hv51] at rv51
        dsimp only at rv51
        have tv51 := congrArg Int32.toInt hv51
        have x52 := HI.eqI hI0 (p := 1) (b := 0) (hv51)
        obtain ⟨v53, hv53⟩ : ∃ v, gI g0 1 4 = v := ⟨_, rfl⟩
        have rv53 := RgF.at hI0.2.1 (p := 1) (b := 4) rfl
        rw [hv53] at rv53
        dsimp only at rv53
        have tv53 := congrArg Int32.toInt hv53
        have x54 := HI.eqI hI0 (p := 1) (b := 4) (hv53)
        exact ⟨_, rfl, hI0, hF0, _, rfl, by decide, ⟨by omega, by omega, by omega, by omega⟩⟩
      · have c49_ : a4.toInt ≥ 0 := en_i_lt_f c49
        refine At.enter rfl ?_
        refine r_iload_n rfl ?_
        refine r_iload_n rfl ?_
        refine r_ics 10 rfl (fun c55 => ?_) (fun c55 => ?_)
        · have c55_ : a4.toInt > 99 := en_i_gt_t c55
          refine At.enter rfl ?_
          refine r_iconst 0 rfl ?_
          refine Ar.fall 15 rfl ?_
          refine At.enter rfl ?_
          refine q_iretz (by decide) ?_
          refine At.enter rfl ?_
          refine r_ift (by decide) ?_
          refine At.enter rfl ?_
          refine r_iconst (-1) rfl ?_
          refine r_ireti ?_
          have zv56 : ((-1) : Int32).toInt = (-1) := rfl
          obtain ⟨v57, hv57⟩ : ∃ v, gI g0 1 0 = v := ⟨_, rfl⟩
          have rv57 := RgF.at hI0.2.1 (p := 1) (b := 0) rfl
          rw [hv57] at rv57
          dsimp only at rv57
          have tv57 := congrArg Int32.toInt hv57
          have x58 := HI.eqI hI0 (p := 1) (b := 0) (hv57)
          obtain ⟨v59, hv59⟩ : ∃ v, gI g0 1 4 = v := ⟨_, rfl⟩
          have rv59 := RgF.at hI0.2.1 (p := 1) (b := 4) rfl
          rw [hv59] at rv59
          dsimp only at rv59
          have tv59 := congrArg Int32.toInt hv59
          have x60 := HI.eqI hI0 (p := 1) (b := 4) (hv59)
          exact ⟨_, rfl, hI0, hF0, _, rfl, by decide, ⟨by omega, by omega, by omega, by omega⟩⟩
        · have c55_ : a4.toInt ≤ 99 := en_i_gt_f c55
          refine At.enter rfl ?_
          refine r_iconst 1 rfl ?_
          refine r_goto ?_
          refine At.enter rfl ?_
          refine q_iretz (by decide) ?_
          refine At.enter rfl ?_
          refine r_iff 21 rfl (by decide) ?_
          refine At.enter rfl ?_
          refine r_iload rfl ?_
          refine r_iconst 0 rfl ?_
          refine r_bipush 9 rfl ?_
          refine q_inlS 29 rfl [.int a5, .int 0, .int 9] [] (Nat.le_of_ble_eq_true rfl) rfl ?_
          refine Ev.mk rfl rfl ⟨Nat.le_of_ble_eq_true rfl, Or.inl rfl⟩ ?_
          show At _ none _ _ (0, [(0, .int a5), (1, .int 0), (2, .int 9)], [], (_, _)) _
          refine At.enter rfl ?_
          refine r_iload_n rfl ?_
          refine r_iload_n rfl ?_
          refine r_ics 5 rfl (fun c61 => ?_) (fun c61 => ?_)
          · have c61_ : a5.toInt < 0 := en_i_lt_t c61
            refine At.enter rfl ?_
            refine r_iconst 0 rfl ?_
            refine Ar.fall 15 rfl ?_
            refine At.enter rfl ?_
            refine q_iretz (by decide) ?_
            refine At.enter rfl ?_
            refine r_ift (by decide) ?_
            refine At.enter rfl ?_
            refine r_iconst (-1) rfl ?_
            refine r_ireti ?_
            have zv62 : ((-1) : Int32).toInt = (-1) := rfl
            obtain ⟨v63, hv63⟩ : ∃ v, gI g0 1 0 = v := ⟨_, rfl⟩
            have rv63 := RgF.at hI0.2.1 (p := 1) (b := 0) rfl
            rw [hv63] at rv63
            dsimp only at rv63
            have tv63 := congrArg Int32.toInt hv63
            have x64 := HI.eqI hI0 (p := 1) (b := 0) (hv63)
            obtain ⟨v65, hv65⟩ : ∃ v, gI g0 1 4 = v := ⟨_, rfl⟩
            have rv65 := RgF.at hI0.2.1 (p := 1) (b := 4) rfl
            rw [hv65] at rv65
            dsimp only at rv65
            have tv65 := congrArg Int32.toInt hv65
            have x66 := HI.eqI hI0 (p := 1) (b := 4) (hv65)
            exact ⟨_, rfl, hI0, hF0, _, rfl, by decide, ⟨by omega, by omega, by omega, by omega⟩⟩
          · have c61_ : a5.toInt ≥ 0 := en_i_lt_f c61
            refine At.enter rfl ?_
            refine r_iload_n rfl ?_
            refine r_iload_n rfl ?_
            refine r_ics 10 rfl (fun c67 => ?_) (fun c67 => ?_)
            · have c67_ : a5.toInt > 9 := en_i_gt_t c67
              refine At.enter rfl ?_
              refine r_iconst 0 rfl ?_
              refine Ar.fall 15 rfl ?_
              refine At.enter rfl ?_
              refine q_iretz (by decide) ?_
              refine At.enter rfl ?_
              refine r_ift (by decide) ?_
              refine At.enter rfl ?_
              refine r_iconst (-1) rfl ?_
              refine r_ireti ?_
              have zv68 : ((-1) : Int32).toInt = (-1) := rfl
              obtain ⟨v69, hv69⟩ : ∃ v, gI g0 1 0 = v := ⟨_, rfl⟩
              have rv69 := RgF.at hI0.2.1 (p := 1) (b := 0) rfl
              rw [hv69] at rv69
              dsimp only at rv69
              have tv69 := congrArg Int32.toInt hv69
              have x70 := HI.eqI hI0 (p := 1) (b := 0) (hv69)
              obtain ⟨v71, hv71⟩ : ∃ v, gI g0 1 4 = v := ⟨_, rfl⟩
              have rv71 := RgF.at hI0.2.1 (p := 1) (b := 4) rfl
              rw [hv71] at rv71
              dsimp only at rv71
              have tv71 := congrArg Int32.toInt hv71
              have x72 := HI.eqI hI0 (p := 1) (b := 4) (hv71)
              exact ⟨_, rfl, hI0, hF0, _, rfl, by decide, ⟨by omega, by omega, by omega, by omega⟩⟩
            · have c67_ : a5.toInt ≤ 9 := en_i_gt_f c67
              refine At.enter rfl ?_
              refine r_iconst 1 rfl ?_
              refine r_goto ?_
              refine At.enter rfl ?_
              refine q_iretz (by decide) ?_
              refine At.enter rfl ?_
              refine r_iff 32 rfl (by decide) ?_
              refine At.enter rfl ?_
              refine r_iload rfl ?_
              refine r_iconst 0 rfl ?_
              refine r_sipush 9999 rfl ?_
              refine q_inlS 41 rfl [.int a6, .int 0, .int 9999] [] (Nat.le_of_ble_eq_true rfl) rfl ?_
              refine Ev.mk rfl rfl ⟨Nat.le_of_ble_eq_true rfl, Or.inl rfl⟩ ?_
              show At _ none _ _ (0, [(0, .int a6), (1, .int 0), (2, .int 9999)], [], (_, _)) _
              refine At.enter rfl ?_
              refine r_iload_n rfl ?_
              refine r_iload_n rfl ?_
              refine r_ics 5 rfl (fun c73 => ?_) (fun c73 => ?_)
              · have c73_ : a6.toInt < 0 := en_i_lt_t c73
                refine At.enter rfl ?_
                refine r_iconst 0 rfl ?_
                refine Ar.fall 15 rfl ?_
                refine At.enter rfl ?_
                refine q_iretz (by decide) ?_
                refine At.enter rfl ?_
                refine r_iff 44 rfl (by decide) ?_
                refine At.enter rfl ?_
                refine r_iconst (-1) rfl ?_
                refine r_ireti ?_
                have zv74 : ((-1) : Int32).toInt = (-1) := rfl
                obtain ⟨v75, hv75⟩ : ∃ v, gI g0 1 0 = v := ⟨_, rfl⟩
                have rv75 := RgF.at hI0.2.1 (p := 1) (b := 0) rfl
                rw [hv75] at rv75
                dsimp only at rv75
                have tv75 := congrArg Int32.toInt hv75
                have x76 := HI.eqI hI0 (p := 1) (b := 0) (hv75)
                obtain ⟨v77, hv77⟩ : ∃ v, gI g0 1 4 = v := ⟨_, rfl⟩
                have rv77 := RgF.at hI0.2.1 (p := 1) (b := 4) rfl
                rw [hv77] at rv77
                dsimp only at rv77
                have tv77 := congrArg Int32.toInt hv77
                have x78 := HI.eqI hI0 (p := 1) (b := 4) (hv77)
                exact ⟨_, rfl, hI0, hF0, _, rfl, by decide, ⟨by omega, by omega, by omega, by omega⟩⟩
              · have c73_ : a6.toInt ≥ 0 := en_i_lt_f c73
                refine At.enter rfl ?_
                refine r_iload_n rfl ?_
                refine r_iload_n rfl ?_
                refine r_ics 10 rfl (fun c79 => ?_) (fun c79 => ?_)
                · have c79_ : a6.toInt > 9999 := en_i_gt_t c79
                  refine At.enter rfl ?_
                  refine r_iconst 0 rfl ?_
                  refine Ar.fall 15 rfl ?_
                  refine At.enter rfl ?_
                  refine q_iretz (by decide) ?_
                  refine At.enter rfl ?_
                  refine r_iff 44 rfl (by decide) ?_
                  refine At.enter rfl ?_
                  refine r_iconst (-1) rfl ?_
                  refine r_ireti ?_
                  have zv80 : ((-1) : Int32).toInt = (-1) := rfl
                  obtain ⟨v81, hv81⟩ : ∃ v, gI g0 1 0 = v := ⟨_, rfl⟩
                  have rv81 := RgF.at hI0.2.1 (p := 1) (b := 0) rfl
                  rw [hv81] at rv81
                  dsimp only at rv81
                  have tv81 := congrArg Int32.toInt hv81
                  have x82 := HI.eqI hI0 (p := 1) (b := 0) (hv81)
                  obtain ⟨v83, hv83⟩ : ∃ v, gI g0 1 4 = v := ⟨_, rfl⟩
                  have rv83 := RgF.at hI0.2.1 (p := 1) (b := 4) rfl
                  rw [hv83] at rv83
                  dsimp only at rv83
                  have tv83 := congrArg Int32.toInt hv83
                  have x84 := HI.eqI hI0 (p := 1) (b := 4) (hv83)
                  exact ⟨_, rfl, hI0, hF0, _, rfl, by decide, ⟨by omega, by omega, by omega, by omega⟩⟩
                · have c79_ : a6.toInt ≤ 9999 := en_i_gt_f c79
                  refine At.enter rfl ?_
                  refine r_iconst 1 rfl ?_
                  refine r_goto ?_
                  refine At.enter rfl ?_
                  refine q_iretz (by decide) ?_
                  refine At.enter rfl ?_
                  refine r_ift (by decide) ?_
                  refine At.enter rfl ?_
                  refine r_aload_n rfl ?_
                  refine q_getR (Sh.ref hI0.1 kx_0 rfl) ?_
                  refine r_iload_n rfl ?_
                  refine q_inlV 54 rfl [.ref 1, .int a2] [] (Nat.le_of_ble_eq_true rfl) rfl ?_
                  refine Ev.mk rfl rfl ⟨Nat.le_of_ble_eq_true rfl, Or.inr (q_rc hI0.1 kx_1 rfl)⟩ ?_
                  show At _ none _ _ (0, [(0, .ref 1), (1, .int a2)], [], (_, _)) _
                  refine At.enter rfl ?_
                  refine r_iload_n rfl ?_
                  refine r_ifs 4 rfl (fun c85 => ?_) (fun c85 => ?_)
                  · have c85_ : a2.toInt < 0 := en_k_lt_t c85
                    refine At.enter rfl ?_
                    refine r_iconst 0 rfl ?_
                    refine Ar.fall 17 rfl ?_
                    refine At.enter rfl ?_
                    refine q_iretz (by decide) ?_
                    refine At.enter rfl ?_
                    refine r_ift (by decide) ?_
                    refine At.enter rfl ?_
                    refine r_bipush (-2) rfl ?_
                    refine r_ireti ?_
                    have zv86 : ((-2) : Int32).toInt = (-2) := rfl
                    obtain ⟨v87, hv87⟩ : ∃ v, gI g0 1 0 = v := ⟨_, rfl⟩
                    have rv87 := RgF.at hI0.2.1 (p := 1) (b := 0) rfl
                    rw [hv87] at rv87
                    dsimp only at rv87
                    have tv87 := congrArg Int32.toInt hv87
                    have x88 := HI.eqI hI0 (p := 1) (b := 0) (hv87)
                    obtain ⟨v89, hv89⟩ : ∃ v, gI g0 1 4 = v := ⟨_, rfl⟩
                    have rv89 := RgF.at hI0.2.1 (p := 1) (b := 4) rfl
                    rw [hv89] at rv89
                    dsimp only at rv89
                    have tv89 := congrArg Int32.toInt hv89
                    have x90 := HI.eqI hI0 (p := 1) (b := 4) (hv89)
                    exact ⟨_, rfl, hI0, hF0, _, rfl, by decide, ⟨by omega, by omega, by omega, by omega⟩⟩
                  · have c85_ : a2.toInt ≥ 0 := en_k_lt_f c85
                    refine At.enter rfl ?_
                    refine r_iload_n rfl ?_
                    refine r_aload_n rfl ?_
                    obtain ⟨v91, hv91⟩ : ∃ v, gI g0 1 0 = v := ⟨_, rfl⟩
                    have rv91 := RgF.at hI0.2.1 (p := 1) (b := 0) rfl
                    rw [hv91] at rv91
                    dsimp only at rv91
                    refine q_getI (Sh.int hI0.1 kx_1 rfl) v91 hv91 ?_
                    have bv93 := q_bnd a2
                    have bv94 := q_bnd v91
                    refine r_ics 12 rfl (fun c92 => ?_) (fun c92 => ?_)
                    · have c92_ : a2.toInt ≥ v91.toInt := en_i_ge_t c92
                      refine At.enter rfl ?_
                      refine r_iconst 0 rfl ?_
                      refine Ar.fall 17 rfl ?_
                      refine At.enter rfl ?_
                      refine q_iretz (by decide) ?_
                      refine At.enter rfl ?_
                      refine r_ift (by decide) ?_
                      refine At.enter rfl ?_
                      refine r_bipush (-2) rfl ?_
                      refine r_ireti ?_
                      have zv95 : ((-2) : Int32).toInt = (-2) := rfl
                      have x96 := HI.eqI hI0 (p := 1) (b := 0) (hv91)
                      obtain ⟨v97, hv97⟩ : ∃ v, gI g0 1 4 = v := ⟨_, rfl⟩
                      have rv97 := RgF.at hI0.2.1 (p := 1) (b := 4) rfl
                      rw [hv97] at rv97
                      dsimp only at rv97
                      have tv97 := congrArg Int32.toInt hv97
                      have x98 := HI.eqI hI0 (p := 1) (b := 4) (hv97)
                      exact ⟨_, rfl, hI0, hF0, _, rfl, by decide, ⟨by omega, by omega, by omega, by omega⟩⟩
                    · have c92_ : a2.toInt < v91.toInt := en_i_ge_f c92
                      refine At.enter rfl ?_
                      refine r_iconst 1 rfl ?_
                      refine r_goto ?_
                      refine At.enter rfl ?_
                      refine q_iretz (by decide) ?_
                      refine At.enter rfl ?_
                      refine r_iff 57 rfl (by decide) ?_
                      refine At.enter rfl ?_
                      refine r_aload_n rfl ?_
                      refine q_getR (Sh.ref hI0.1 kx_0 rfl) ?_
                      refine r_iload_n rfl ?_
                      refine q_inlV 65 rfl [.ref 1, .int a3] [] (Nat.le_of_ble_eq_true rfl) rfl ?_
                      refine Ev.mk rfl rfl ⟨Nat.le_of_ble_eq_true rfl, Or.inr (q_rc hI0.1 kx_1 rfl)⟩ ?_
                      show At _ none _ _ (0, [(0, .ref 1), (1, .int a3)], [], (_, _)) _
                      refine At.enter rfl ?_
                      refine r_iload_n rfl ?_
                      refine r_ifs 4 rfl (fun c99 => ?_) (fun c99 => ?_)
                      · have c99_ : a3.toInt < 0 := en_k_lt_t c99
                        refine At.enter rfl ?_
                        refine r_iconst 0 rfl ?_
                        refine Ar.fall 17 rfl ?_
                        refine At.enter rfl ?_
                        refine q_iretz (by decide) ?_
                        refine At.enter rfl ?_
                        refine r_iff 68 rfl (by decide) ?_
                        refine At.enter rfl ?_
                        refine r_bipush (-2) rfl ?_
                        refine r_ireti ?_
                        have zv100 : ((-2) : Int32).toInt = (-2) := rfl
                        have x101 := HI.eqI hI0 (p := 1) (b := 0) (hv91)
                        obtain ⟨v102, hv102⟩ : ∃ v, gI g0 1 4 = v := ⟨_, rfl⟩
                        have rv102 := RgF.at hI0.2.1 (p := 1) (b := 4) rfl
                        rw [hv102] at rv102
                        dsimp only at rv102
                        have tv102 := congrArg Int32.toInt hv102
                        have x103 := HI.eqI hI0 (p := 1) (b := 4) (hv102)
                        exact ⟨_, rfl, hI0, hF0, _, rfl, by decide, ⟨by omega, by omega, by omega, by omega⟩⟩
                      · have c99_ : a3.toInt ≥ 0 := en_k_lt_f c99
                        refine At.enter rfl ?_
                        refine r_iload_n rfl ?_
                        refine r_aload_n rfl ?_
                        refine q_getI (Sh.int hI0.1 kx_1 rfl) v91 hv91 ?_
                        have bv105 := q_bnd a3
                        refine r_ics 12 rfl (fun c104 => ?_) (fun c104 => ?_)
                        · have c104_ : a3.toInt ≥ v91.toInt := en_i_ge_t c104
                          refine At.enter rfl ?_
                          refine r_iconst 0 rfl ?_
                          refine Ar.fall 17 rfl ?_
                          refine At.enter rfl ?_
                          refine q_iretz (by decide) ?_
                          refine At.enter rfl ?_
                          refine r_iff 68 rfl (by decide) ?_
                          refine At.enter rfl ?_
                          refine r_bipush (-2) rfl ?_
                          refine r_ireti ?_
                          have zv106 : ((-2) : Int32).toInt = (-2) := rfl
                          have x107 := HI.eqI hI0 (p := 1) (b := 0) (hv91)
                          obtain ⟨v108, hv108⟩ : ∃ v, gI g0 1 4 = v := ⟨_, rfl⟩
                          have rv108 := RgF.at hI0.2.1 (p := 1) (b := 4) rfl
                          rw [hv108] at rv108
                          dsimp only at rv108
                          have tv108 := congrArg Int32.toInt hv108
                          have x109 := HI.eqI hI0 (p := 1) (b := 4) (hv108)
                          exact ⟨_, rfl, hI0, hF0, _, rfl, by decide, ⟨by omega, by omega, by omega, by omega⟩⟩
                        · have c104_ : a3.toInt < v91.toInt := en_i_ge_f c104
                          refine At.enter rfl ?_
                          refine r_iconst 1 rfl ?_
                          refine r_goto ?_
                          refine At.enter rfl ?_
                          refine q_iretz (by decide) ?_
                          refine At.enter rfl ?_
                          refine r_ift (by decide) ?_
                          refine At.enter rfl ?_
                          refine r_aload_n rfl ?_
                          refine q_getR (Sh.ref hI0.1 kx_0 rfl) ?_
                          obtain ⟨v110, hv110⟩ : ∃ v, gI g0 1 4 = v := ⟨_, rfl⟩
                          have rv110 := RgF.at hI0.2.1 (p := 1) (b := 4) rfl
                          rw [hv110] at rv110
                          dsimp only at rv110
                          refine q_getI (Sh.int hI0.1 kx_1 rfl) v110 hv110 ?_
                          refine r_bipush 8 rfl ?_
                          refine r_ics 83 rfl (fun c111 => ?_) (fun c111 => ?_)
                          · have c111_ : v110.toInt < 8 := en_i_lt_t c111
                            refine At.enter rfl ?_
                            refine r_iconst 0 rfl ?_
                            refine Ar.fall 89 rfl ?_
                            refine At.enter rfl ?_
                            refine r_ireti ?_
                            have zv112 : (0 : Int32).toInt = 0 := rfl
                            have x113 := HI.eqI hI0 (p := 1) (b := 0) (hv91)
                            have x114 := HI.eqI hI0 (p := 1) (b := 4) (hv110)
                            exact ⟨_, rfl, hI0, hF0, _, rfl, by decide, ⟨by omega, by omega, by omega, by omega⟩⟩
                          · have c111_ : v110.toInt ≥ 8 := en_i_lt_f c111
                            refine At.enter rfl ?_
                            refine r_bipush (-5) rfl ?_
                            refine r_goto ?_
                            refine At.enter rfl ?_
                            refine r_ireti ?_
                            have zv115 : ((-5) : Int32).toInt = (-5) := rfl
                            have x116 := HI.eqI hI0 (p := 1) (b := 0) (hv91)
                            have x117 := HI.eqI hI0 (p := 1) (b := 4) (hv110)
                            exact ⟨_, rfl, hI0, hF0, _, rfl, by decide, ⟨by omega, by omega, by omega, by omega⟩⟩

def zF_X0_addLoad_1 : List (Nat × Nat) := [(1, 4)]
def zA_X0_addLoad_1 : List Nat := [5]
set_option maxRecDepth 100000 in
set_option maxHeartbeats 4000000 in
theorem zT_X0_addLoad_1 (d : Nat) {N : Nat} {g0 : List en_E} (hI0 : HI g0) (a1 : Int32) (a2 : Int32) (a3 : Int32) (a4 : Int32) (a5 : Int32) (a6 : Int32) : Ev (d + 1) 6 [.ref 1, .int a1, .int a2, .int a3, .int a4, .int a5, .int a6] (g0, N) (fun w h' => ∃ g', h' = (g', N) ∧ HI g' ∧ Fr zF_X0_addLoad_1 zA_X0_addLoad_1 g0 g' ∧ ∃ r : Int32, w = some (.int r) ∧ ((-1) ≤ r.toInt ∧ r.toInt ≤ 7) ∧ (((gI g0 1 4).toInt < 8 → r.toInt = (gI g0 1 4).toInt ∧ (gI g' 1 4).toInt = (gI g0 1 4).toInt + 1) ∧ (8 ≤ (gI g0 1 4).toInt → (gI g' 1 4).toInt = (gI g0 1 4).toInt) ∧ (∀ i : Int, 0 ≤ i → i < 48 → (eA g' 5 (i)).toInt = if (gI g0 1 4).toInt < 8 ∧ i = 6 * (gI g0 1 4).toInt + 0 then a1.toInt else if (gI g0 1 4).toInt < 8 ∧ i = 6 * (gI g0 1 4).toInt + 1 then a2.toInt else if (gI g0 1 4).toInt < 8 ∧ i = 6 * (gI g0 1 4).toInt + 2 then a3.toInt else if (gI g0 1 4).toInt < 8 ∧ i = 6 * (gI g0 1 4).toInt + 3 then a4.toInt else if (gI g0 1 4).toInt < 8 ∧ i = 6 * (gI g0 1 4).toInt + 4 then a5.toInt else if (gI g0 1 4).toInt < 8 ∧ i = 6 * (gI g0 1 4).toInt + 5 then a6.toInt else (eA g0 5 (i)).toInt))) := by
  have hF0 : Fr zF_X0_addLoad_1 zA_X0_addLoad_1 g0 g0 := Fr.rf
  refine Ev.mk rfl rfl ⟨Nat.le_of_ble_eq_true rfl, Or.inr (q_rc hI0.1 kx_1 rfl)⟩ ?_
  show At _ none _ _ (0, [(0, .ref 1), (1, .int a1), (2, .int a2), (3, .int a3), (4, .int a4), (5, .int a5), (6, .int a6)], [], (_, _)) _
  refine At.enter rfl ?_
  refine r_aload_n rfl ?_
  obtain ⟨v51, hv51⟩ : ∃ v, gI g0 1 4 = v := ⟨_, rfl⟩
  have rv51 := RgF.at hI0.2.1 (p := 1) (b := 4) rfl
  rw [hv51] at rv51
  dsimp only at rv51
  refine q_getI (Sh.int hI0.1 kx_1 rfl) v51 hv51 ?_
  refine r_bipush 8 rfl ?_
  refine r_ics 9 rfl (fun c52 => ?_) (fun c52 => ?_)
  · have c52_ : v51.toInt < 8 := en_i_lt_t c52
    refine At.enter rfl ?_
    refine r_aload_n rfl ?_
    refine q_getI (Sh.int hI0.1 kx_1 rfl) v51 hv51 ?_
    refine r_bipush 6 rfl ?_
    refine q_imul (v51.toInt * 6) rfl (by omega) (fun v53 hv53 => ?_)
    refine r_istore ([(7, .int v53), (0, .ref 1), (1, .int a1), (2, .int a2), (3, .int a3), (4, .int a4), (5, .int a5), (6, .int a6)]) rfl ?_
    refine r_aload_n rfl ?_
    refine q_getR (Sh.ref hI0.1 kx_1 rfl) ?_
    refine r_iload rfl ?_
    refine r_iconst 0 rfl ?_
    refine q_iadd (v53.toInt + 0) rfl (by omega) (fun v54 hv54 => ?_)
    refine r_iload_n rfl ?_
    refine q_iast (Sh.arr hI0.1 ka_5) ((6 * v51.toInt)) (by omega) (by omega) ?_
    have hI55 := HI.wA0 hI0 ka_5 (p := 5) rfl rfl ((6 * v51.toInt)) (a1)
    have hF56 := Fr.wA (p := 5) (j := (6 * v51.toInt)) (v := a1) hF0 rfl
    refine r_aload_n rfl ?_
    refine q_getR (Sh.ref hI55.1 kx_1 rfl) ?_
    refine r_iload rfl ?_
    refine r_iconst 1 rfl ?_
    refine q_iadd (v53.toInt + 1) rfl (by omega) (fun v57 hv57 => ?_)
    refine r_iload_n rfl ?_
    refine q_iast (Sh.arr hI55.1 ka_5) ((6 * v51.toInt + 1)) (by omega) (by omega) ?_
    have hI58 := HI.wA0 hI55 ka_5 (p := 5) rfl rfl ((6 * v51.toInt + 1)) (a2)
    have hF59 := Fr.wA (p := 5) (j := (6 * v51.toInt + 1)) (v := a2) hF56 rfl
    refine r_aload_n rfl ?_
    refine q_getR (Sh.ref hI58.1 kx_1 rfl) ?_
    refine r_iload rfl ?_
    refine r_iconst 2 rfl ?_
    refine q_iadd (v53.toInt + 2) rfl (by omega) (fun v60 hv60 => ?_)
    refine r_iload_n rfl ?_
    refine q_iast (Sh.arr hI58.1 ka_5) ((6 * v51.toInt + 2)) (by omega) (by omega) ?_
    have hI61 := HI.wA0 hI58 ka_5 (p := 5) rfl rfl ((6 * v51.toInt + 2)) (a3)
    have hF62 := Fr.wA (p := 5) (j := (6 * v51.toInt + 2)) (v := a3) hF59 rfl
    refine r_aload_n rfl ?_
    refine q_getR (Sh.ref hI61.1 kx_1 rfl) ?_
    refine r_iload rfl ?_
    refine r_iconst 3 rfl ?_
    refine q_iadd (v53.toInt + 3) rfl (by omega) (fun v63 hv63 => ?_)
    refine r_iload rfl ?_
    refine q_iast (Sh.arr hI61.1 ka_5) ((6 * v51.toInt + 3)) (by omega) (by omega) ?_
    have hI64 := HI.wA0 hI61 ka_5 (p := 5) rfl rfl ((6 * v51.toInt + 3)) (a4)
    have hF65 := Fr.wA (p := 5) (j := (6 * v51.toInt + 3)) (v := a4) hF62 rfl
    refine r_aload_n rfl ?_
    refine q_getR (Sh.ref hI64.1 kx_1 rfl) ?_
    refine r_iload rfl ?_
    refine r_iconst 4 rfl ?_
    refine q_iadd (v53.toInt + 4) rfl (by omega) (fun v66 hv66 => ?_)
    refine r_iload rfl ?_
    refine q_iast (Sh.arr hI64.1 ka_5) ((6 * v51.toInt + 4)) (by omega) (by omega) ?_
    have hI67 := HI.wA0 hI64 ka_5 (p := 5) rfl rfl ((6 * v51.toInt + 4)) (a5)
    have hF68 := Fr.wA (p := 5) (j := (6 * v51.toInt + 4)) (v := a5) hF65 rfl
    refine r_aload_n rfl ?_
    refine q_getR (Sh.ref hI67.1 kx_1 rfl) ?_
    refine r_iload rfl ?_
    refine r_iconst 5 rfl ?_
    refine q_iadd (v53.toInt + 5) rfl (by omega) (fun v69 hv69 => ?_)
    refine r_iload rfl ?_
    refine q_iast (Sh.arr hI67.1 ka_5) ((6 * v51.toInt + 5)) (by omega) (by omega) ?_
    have hI70 := HI.wA0 hI67 ka_5 (p := 5) rfl rfl ((6 * v51.toInt + 5)) (a6)
    have hF71 := Fr.wA (p := 5) (j := (6 * v51.toInt + 5)) (v := a6) hF68 rfl
    refine r_aload_n rfl ?_
    refine r_dup rfl ?_
    refine q_getI (Sh.int hI70.1 kx_1 rfl) v51 (((gI_sW).trans ((gI_sW).trans ((gI_sW).trans ((gI_sW).trans ((gI_sW).trans (gI_sW)))))).trans hv51) ?_
    refine r_iconst 1 rfl ?_
    refine q_iadd (v51.toInt + 1) rfl (by omega) (fun v72 hv72 => ?_)
    refine q_putI (Sh.int hI70.1 kx_1 rfl) rfl ?_
    have hI73 := HI.wI1 hI70 kx_1 rfl (p := 1) (b := 4) (v := v72) rfl (by dsimp only; omega)
    have hF74 := Fr.wI (p := 1) (b := 4) (v := v72) hF71 rfl
    refine r_aload_n rfl ?_
    refine q_getI (Sh.int hI73.1 kx_1 rfl) v72 (gI_sI_eq hI70.1 kx_1 rfl _) ?_
    refine r_iconst 1 rfl ?_
    refine q_isub (v72.toInt - 1) rfl (by omega) (fun v75 hv75 => ?_)
    refine r_ireti ?_
    have x76 := HI.eqI hI73 (p := 1) (b := 4) ((gI_sI_eq hI70.1 kx_1 rfl _))
    have x77 := HI.eqI hI0 (p := 1) (b := 4) (hv51)
    exact ⟨_, rfl, hI73, hF74, _, rfl, by omega, ⟨by omega, by omega, (by intro i i0 i1; exact (Decidable.em ((gI g0 1 4).toInt < 8 ∧ i = 6 * (gI g0 1 4).toInt + 0)).elim (fun k12_ => by refine Eq.trans ?_ (if_pos k12_).symm; refine (eA_ti ((gA_sI))).trans ?_; exact (Decidable.em (i = (6 * v51.toInt + 5))).elim (fun k13_ => by refine (eA_eqT hI67.1 ka_5 k13_ (by first | decide | omega) (by first | decide | omega)).trans ?_; (first | (rfl) | (omega))) (fun k13_ => by refine (eA_neT hI67.1 ka_5 k13_ (by first | decide | omega) (by omega)).trans ?_; exact (Decidable.em (i = (6 * v51.toInt + 4))).elim (fun k14_ => by refine (eA_eqT hI64.1 ka_5 k14_ (by first | decide | omega) (by first | decide | omega)).trans ?_; (first | (rfl) | (omega))) (fun k14_ => by refine (eA_neT hI64.1 ka_5 k14_ (by first | decide | omega) (by omega)).trans ?_; exact (Decidable.em (i = (6 * v51.toInt + 3))).elim (fun k15_ => by refine (eA_eqT hI61.1 ka_5 k15_ (by first | decide | omega) (by first | decide | omega)).trans ?_; (first | (rfl) | (omega))) (fun k15_ => by refine (eA_neT hI61.1 ka_5 k15_ (by first | decide | omega) (by omega)).trans ?_; exact (Decidable.em (i = (6 * v51.toInt + 2))).elim (fun k16_ => by refine (eA_eqT hI58.1 ka_5 k16_ (by first | decide | omega) (by first | decide | omega)).trans ?_; (first | (rfl) | (omega))) (fun k16_ => by refine (eA_neT hI58.1 ka_5 k16_ (by first | decide | omega) (by omega)).trans ?_; exact (Decidable.em (i = (6 * v51.toInt + 1))).elim (fun k17_ => by refine (eA_eqT hI55.1 ka_5 k17_ (by first | decide | omega) (by first | decide | omega)).trans ?_; (first | (rfl) | (omega))) (fun k17_ => by refine (eA_neT hI55.1 ka_5 k17_ (by first | decide | omega) (by omega)).trans ?_; exact (Decidable.em (i = (6 * v51.toInt))).elim (fun k18_ => by refine (eA_eqT hI0.1 ka_5 k18_ (by first | decide | omega) (by first | decide | omega)).trans ?_; (first | (rfl) | (omega))) (fun k18_ => by refine (eA_neT hI0.1 ka_5 k18_ (by first | decide | omega) (by omega)).trans ?_; (first | rfl | exact eA_ix (by omega) | omega)))))))) (fun k12_ => by refine Eq.trans ?_ (if_neg k12_).symm; exact (Decidable.em ((gI g0 1 4).toInt < 8 ∧ i = 6 * (gI g0 1 4).toInt + 1)).elim (fun k19_ => by refine Eq.trans ?_ (if_pos k19_).symm; refine (eA_ti ((gA_sI))).trans ?_; exact (Decidable.em (i = (6 * v51.toInt + 5))).elim (fun k20_ => by refine (eA_eqT hI67.1 ka_5 k20_ (by first | decide | omega) (by first | decide | omega)).trans ?_; (first | (rfl) | (omega))) (fun k20_ => by refine (eA_neT hI67.1 ka_5 k20_ (by first | decide | omega) (by omega)).trans ?_; exact (Decidable.em (i = (6 * v51.toInt + 4))).elim (fun k21_ => by refine (eA_eqT hI64.1 ka_5 k21_ (by first | decide | omega) (by first | decide | omega)).trans ?_; (first | (rfl) | (omega))) (fun k21_ => by refine (eA_neT hI64.1 ka_5 k21_ (by first | decide | omega) (by omega)).trans ?_; exact (Decidable.em (i = (6 * v51.toInt + 3))).elim (fun k22_ => by refine (eA_eqT hI61.1 ka_5 k22_ (by first | decide | omega) (by first | decide | omega)).trans ?_; (first | (rfl) | (omega))) (fun k22_ => by refine (eA_neT hI61.1 ka_5 k22_ (by first | decide | omega) (by omega)).trans ?_; exact (Decidable.em (i = (6 * v51.toInt + 2))).elim (fun k23_ => by refine (eA_eqT hI58.1 ka_5 k23_ (by first | decide | omega) (by first | decide | omega)).trans ?_; (first | (rfl) | (omega))) (fun k23_ => by refine (eA_neT hI58.1 ka_5 k23_ (by first | decide | omega) (by omega)).trans ?_; exact (Decidable.em (i = (6 * v51.toInt + 1))).elim (fun k24_ => by refine (eA_eqT hI55.1 ka_5 k24_ (by first | decide | omega) (by first | decide | omega)).trans ?_; (first | (rfl) | (omega))) (fun k24_ => by refine (eA_neT hI55.1 ka_5 k24_ (by first | decide | omega) (by omega)).trans ?_; exact (Decidable.em (i = (6 * v51.toInt))).elim (fun k25_ => by refine (eA_eqT hI0.1 ka_5 k25_ (by first | decide | omega) (by first | decide | omega)).trans ?_; (first | (rfl) | (omega))) (fun k25_ => by refine (eA_neT hI0.1 ka_5 k25_ (by first | decide | omega) (by omega)).trans ?_; (first | rfl | exact eA_ix (by omega) | omega)))))))) (fun k19_ => by refine Eq.trans ?_ (if_neg k19_).symm; exact (Decidable.em ((gI g0 1 4).toInt < 8 ∧ i = 6 * (gI g0 1 4).toInt + 2)).elim (fun k26_ => by refine Eq.trans ?_ (if_pos k26_).symm; refine (eA_ti ((gA_sI))).trans ?_; exact (Decidable.em (i = (6 * v51.toInt + 5))).elim (fun k27_ => by refine (eA_eqT hI67.1 ka_5 k27_ (by first | decide | omega) (by first | decide | omega)).trans ?_; (first | (rfl) | (omega))) (fun k27_ => by refine (eA_neT hI67.1 ka_5 k27_ (by first | decide | omega) (by omega)).trans ?_; exact (Decidable.em (i = (6 * v51.toInt + 4))).elim (fun k28_ => by refine (eA_eqT hI64.1 ka_5 k28_ (by first | decide | omega) (by first | decide | omega)).trans ?_; (first | (rfl) | (omega))) (fun k28_ => by refine (eA_neT hI64.1 ka_5 k28_ (by first | decide | omega) (by omega)).trans ?_; exact (Decidable.em (i = (6 * v51.toInt + 3))).elim (fun k29_ => by refine (eA_eqT hI61.1 ka_5 k29_ (by first | decide | omega) (by first | decide | omega)).trans ?_; (first | (rfl) | (omega))) (fun k29_ => by refine (eA_neT hI61.1 ka_5 k29_ (by first | decide | omega) (by omega)).trans ?_; exact (Decidable.em (i = (6 * v51.toInt + 2))).elim (fun k30_ => by refine (eA_eqT hI58.1 ka_5 k30_ (by first | decide | omega) (by first | decide | omega)).trans ?_; (first | (rfl) | (omega))) (fun k30_ => by refine (eA_neT hI58.1 ka_5 k30_ (by first | decide | omega) (by omega)).trans ?_; exact (Decidable.em (i = (6 * v51.toInt + 1))).elim (fun k31_ => by refine (eA_eqT hI55.1 ka_5 k31_ (by first | decide | omega) (by first | decide | omega)).trans ?_; (first | (rfl) | (omega))) (fun k31_ => by refine (eA_neT hI55.1 ka_5 k31_ (by first | decide | omega) (by omega)).trans ?_; exact (Decidable.em (i = (6 * v51.toInt))).elim (fun k32_ => by refine (eA_eqT hI0.1 ka_5 k32_ (by first | decide | omega) (by first | decide | omega)).trans ?_; (first | (rfl) | (omega))) (fun k32_ => by refine (eA_neT hI0.1 ka_5 k32_ (by first | decide | omega) (by omega)).trans ?_; (first | rfl | exact eA_ix (by omega) | omega)))))))) (fun k26_ => by refine Eq.trans ?_ (if_neg k26_).symm; exact (Decidable.em ((gI g0 1 4).toInt < 8 ∧ i = 6 * (gI g0 1 4).toInt + 3)).elim (fun k33_ => by refine Eq.trans ?_ (if_pos k33_).symm; refine (eA_ti ((gA_sI))).trans ?_; exact (Decidable.em (i = (6 * v51.toInt + 5))).elim (fun k34_ => by refine (eA_eqT hI67.1 ka_5 k34_ (by first | decide | omega) (by first | decide | omega)).trans ?_; (first | (rfl) | (omega))) (fun k34_ => by refine (eA_neT hI67.1 ka_5 k34_ (by first | decide | omega) (by omega)).trans ?_; exact (Decidable.em (i = (6 * v51.toInt + 4))).elim (fun k35_ => by refine (eA_eqT hI64.1 ka_5 k35_ (by first | decide | omega) (by first | decide | omega)).trans ?_; (first | (rfl) | (omega))) (fun k35_ => by refine (eA_neT hI64.1 ka_5 k35_ (by first | decide | omega) (by omega)).trans ?_; exact (Decidable.em (i = (6 * v51.toInt + 3))).elim (fun k36_ => by refine (eA_eqT hI61.1 ka_5 k36_ (by first | decide | omega) (by first | decide | omega)).trans ?_; (first | (rfl) | (omega))) (fun k36_ => by refine (eA_neT hI61.1 ka_5 k36_ (by first | decide | omega) (by omega)).trans ?_; exact (Decidable.em (i = (6 * v51.toInt + 2))).elim (fun k37_ => by refine (eA_eqT hI58.1 ka_5 k37_ (by first | decide | omega) (by first | decide | omega)).trans ?_; (first | (rfl) | (omega))) (fun k37_ => by refine (eA_neT hI58.1 ka_5 k37_ (by first | decide | omega) (by omega)).trans ?_; exact (Decidable.em (i = (6 * v51.toInt + 1))).elim (fun k38_ => by refine (eA_eqT hI55.1 ka_5 k38_ (by first | decide | omega) (by first | decide | omega)).trans ?_; (first | (rfl) | (omega))) (fun k38_ => by refine (eA_neT hI55.1 ka_5 k38_ (by first | decide | omega) (by omega)).trans ?_; exact (Decidable.em (i = (6 * v51.toInt))).elim (fun k39_ => by refine (eA_eqT hI0.1 ka_5 k39_ (by first | decide | omega) (by first | decide | omega)).trans ?_; (first | (rfl) | (omega))) (fun k39_ => by refine (eA_neT hI0.1 ka_5 k39_ (by first | decide | omega) (by omega)).trans ?_; (first | rfl | exact eA_ix (by omega) | omega)))))))) (fun k33_ => by refine Eq.trans ?_ (if_neg k33_).symm; exact (Decidable.em ((gI g0 1 4).toInt < 8 ∧ i = 6 * (gI g0 1 4).toInt + 4)).elim (fun k40_ => by refine Eq.trans ?_ (if_pos k40_).symm; refine (eA_ti ((gA_sI))).trans ?_; exact (Decidable.em (i = (6 * v51.toInt + 5))).elim (fun k41_ => by refine (eA_eqT hI67.1 ka_5 k41_ (by first | decide | omega) (by first | decide | omega)).trans ?_; (first | (rfl) | (omega))) (fun k41_ => by refine (eA_neT hI67.1 ka_5 k41_ (by first | decide | omega) (by omega)).trans ?_; exact (Decidable.em (i = (6 * v51.toInt + 4))).elim (fun k42_ => by refine (eA_eqT hI64.1 ka_5 k42_ (by first | decide | omega) (by first | decide | omega)).trans ?_; (first | (rfl) | (omega))) (fun k42_ => by refine (eA_neT hI64.1 ka_5 k42_ (by first | decide | omega) (by omega)).trans ?_; exact (Decidable.em (i = (6 * v51.toInt + 3))).elim (fun k43_ => by refine (eA_eqT hI61.1 ka_5 k43_ (by first | decide | omega) (by first | decide | omega)).trans ?_; (first | (rfl) | (omega))) (fun k43_ => by refine (eA_neT hI61.1 ka_5 k43_ (by first | decide | omega) (by omega)).trans ?_; exact (Decidable.em (i = (6 * v51.toInt + 2))).elim (fun k44_ => by refine (eA_eqT hI58.1 ka_5 k44_ (by first | decide | omega) (by first | decide | omega)).trans ?_; (first | (rfl) | (omega))) (fun k44_ => by refine (eA_neT hI58.1 ka_5 k44_ (by first | decide | omega) (by omega)).trans ?_; exact (Decidable.em (i = (6 * v51.toInt + 1))).elim (fun k45_ => by refine (eA_eqT hI55.1 ka_5 k45_ (by first | decide | omega) (by first | decide | omega)).trans ?_; (first | (rfl) | (omega))) (fun k45_ => by refine (eA_neT hI55.1 ka_5 k45_ (by first | decide | omega) (by omega)).trans ?_; exact (Decidable.em (i = (6 * v51.toInt))).elim (fun k46_ => by refine (eA_eqT hI0.1 ka_5 k46_ (by first | decide | omega) (by first | decide | omega)).trans ?_; (first | (rfl) | (omega))) (fun k46_ => by refine (eA_neT hI0.1 ka_5 k46_ (by first | decide | omega) (by omega)).trans ?_; (first | rfl | exact eA_ix (by omega) | omega)))))))) (fun k40_ => by refine Eq.trans ?_ (if_neg k40_).symm; exact (Decidable.em ((gI g0 1 4).toInt < 8 ∧ i = 6 * (gI g0 1 4).toInt + 5)).elim (fun k47_ => by refine Eq.trans ?_ (if_pos k47_).symm; refine (eA_ti ((gA_sI))).trans ?_; exact (Decidable.em (i = (6 * v51.toInt + 5))).elim (fun k48_ => by refine (eA_eqT hI67.1 ka_5 k48_ (by first | decide | omega) (by first | decide | omega)).trans ?_; (first | (rfl) | (omega))) (fun k48_ => by refine (eA_neT hI67.1 ka_5 k48_ (by first | decide | omega) (by omega)).trans ?_; exact (Decidable.em (i = (6 * v51.toInt + 4))).elim (fun k49_ => by refine (eA_eqT hI64.1 ka_5 k49_ (by first | decide | omega) (by first | decide | omega)).trans ?_; (first | (rfl) | (omega))) (fun k49_ => by refine (eA_neT hI64.1 ka_5 k49_ (by first | decide | omega) (by omega)).trans ?_; exact (Decidable.em (i = (6 * v51.toInt + 3))).elim (fun k50_ => by refine (eA_eqT hI61.1 ka_5 k50_ (by first | decide | omega) (by first | decide | omega)).trans ?_; (first | (rfl) | (omega))) (fun k50_ => by refine (eA_neT hI61.1 ka_5 k50_ (by first | decide | omega) (by omega)).trans ?_; exact (Decidable.em (i = (6 * v51.toInt + 2))).elim (fun k51_ => by refine (eA_eqT hI58.1 ka_5 k51_ (by first | decide | omega) (by first | decide | omega)).trans ?_; (first | (rfl) | (omega))) (fun k51_ => by refine (eA_neT hI58.1 ka_5 k51_ (by first | decide | omega) (by omega)).trans ?_; exact (Decidable.em (i = (6 * v51.toInt + 1))).elim (fun k52_ => by refine (eA_eqT hI55.1 ka_5 k52_ (by first | decide | omega) (by first | decide | omega)).trans ?_; (first | (rfl) | (omega))) (fun k52_ => by refine (eA_neT hI55.1 ka_5 k52_ (by first | decide | omega) (by omega)).trans ?_; exact (Decidable.em (i = (6 * v51.toInt))).elim (fun k53_ => by refine (eA_eqT hI0.1 ka_5 k53_ (by first | decide | omega) (by first | decide | omega)).trans ?_; (first | (rfl) | (omega))) (fun k53_ => by refine (eA_neT hI0.1 ka_5 k53_ (by first | decide | omega) (by omega)).trans ?_; (first | rfl | exact eA_ix (by omega) | omega)))))))) (fun k47_ => by refine Eq.trans ?_ (if_neg k47_).symm; refine (eA_ti ((gA_sI))).trans ?_; exact (Decidable.em (i = (6 * v51.toInt + 5))).elim (fun k54_ => by refine (eA_eqT hI67.1 ka_5 k54_ (by first | decide | omega) (by first | decide | omega)).trans ?_; (first | (rfl) | (omega))) (fun k54_ => by refine (eA_neT hI67.1 ka_5 k54_ (by first | decide | omega) (by omega)).trans ?_; exact (Decidable.em (i = (6 * v51.toInt + 4))).elim (fun k55_ => by refine (eA_eqT hI64.1 ka_5 k55_ (by first | decide | omega) (by first | decide | omega)).trans ?_; (first | (rfl) | (omega))) (fun k55_ => by refine (eA_neT hI64.1 ka_5 k55_ (by first | decide | omega) (by omega)).trans ?_; exact (Decidable.em (i = (6 * v51.toInt + 3))).elim (fun k56_ => by refine (eA_eqT hI61.1 ka_5 k56_ (by first | decide | omega) (by first | decide | omega)).trans ?_; (first | (rfl) | (omega))) (fun k56_ => by refine (eA_neT hI61.1 ka_5 k56_ (by first | decide | omega) (by omega)).trans ?_; exact (Decidable.em (i = (6 * v51.toInt + 2))).elim (fun k57_ => by refine (eA_eqT hI58.1 ka_5 k57_ (by first | decide | omega) (by first | decide | omega)).trans ?_; (first | (rfl) | (omega))) (fun k57_ => by refine (eA_neT hI58.1 ka_5 k57_ (by first | decide | omega) (by omega)).trans ?_; exact (Decidable.em (i = (6 * v51.toInt + 1))).elim (fun k58_ => by refine (eA_eqT hI55.1 ka_5 k58_ (by first | decide | omega) (by first | decide | omega)).trans ?_; (first | (rfl) | (omega))) (fun k58_ => by refine (eA_neT hI55.1 ka_5 k58_ (by first | decide | omega) (by omega)).trans ?_; exact (Decidable.em (i = (6 * v51.toInt))).elim (fun k59_ => by refine (eA_eqT hI0.1 ka_5 k59_ (by first | decide | omega) (by first | decide | omega)).trans ?_; (first | (rfl) | (omega))) (fun k59_ => by refine (eA_neT hI0.1 ka_5 k59_ (by first | decide | omega) (by omega)).trans ?_; (first | rfl | exact eA_ix (by omega) | omega))))))))))))))⟩⟩
  · have c52_ : v51.toInt ≥ 8 := en_i_lt_f c52
    refine At.enter rfl ?_
    refine r_iconst (-1) rfl ?_
    refine r_ireti ?_
    have zv78 : ((-1) : Int32).toInt = (-1) := rfl
    have x79 := HI.eqI hI0 (p := 1) (b := 4) (hv51)
    have x80 := HI.eqI hI0 (p := 1) (b := 4) (hv51)
    exact ⟨_, rfl, hI0, hF0, _, rfl, by decide, ⟨by omega, by omega, (by intro i i0 i1; refine Eq.trans ?_ (if_neg (show ¬ ((gI g0 1 4).toInt < 8 ∧ i = 6 * (gI g0 1 4).toInt + 0) from by omega)).symm; refine Eq.trans ?_ (if_neg (show ¬ ((gI g0 1 4).toInt < 8 ∧ i = 6 * (gI g0 1 4).toInt + 1) from by omega)).symm; refine Eq.trans ?_ (if_neg (show ¬ ((gI g0 1 4).toInt < 8 ∧ i = 6 * (gI g0 1 4).toInt + 2) from by omega)).symm; refine Eq.trans ?_ (if_neg (show ¬ ((gI g0 1 4).toInt < 8 ∧ i = 6 * (gI g0 1 4).toInt + 3) from by omega)).symm; refine Eq.trans ?_ (if_neg (show ¬ ((gI g0 1 4).toInt < 8 ∧ i = 6 * (gI g0 1 4).toInt + 4) from by omega)).symm; refine Eq.trans ?_ (if_neg (show ¬ ((gI g0 1 4).toInt < 8 ∧ i = 6 * (gI g0 1 4).toInt + 5) from by omega)).symm; (first | rfl | exact eA_ix (by omega) | omega))⟩⟩

def zF_X0_removeLoad_1 : List (Nat × Nat) := [(1, 4)]
def zA_X0_removeLoad_1 : List Nat := [5]
set_option maxRecDepth 100000 in
set_option maxHeartbeats 4000000 in
theorem zT_X0_removeLoad_1 (d : Nat) {N : Nat} {g0 : List en_E} (hI0 : HI g0) (a1 : Int32) : Ev (d + 2) 7 [.ref 1, .int a1] (g0, N) (fun w h' => ∃ g', h' = (g', N) ∧ HI g' ∧ Fr zF_X0_removeLoad_1 zA_X0_removeLoad_1 g0 g' ∧ w = none ∧ ((0 ≤ a1.toInt ∧ a1.toInt < (gI g0 1 4).toInt → (gI g' 1 4).toInt = (gI g0 1 4).toInt - 1) ∧ (¬ (0 ≤ a1.toInt ∧ a1.toInt < (gI g0 1 4).toInt) → (gI g' 1 4).toInt = (gI g0 1 4).toInt) ∧ (∀ i : Int, 0 ≤ i → i < 48 → (eA g' 5 (i)).toInt = if (0 ≤ a1.toInt ∧ a1.toInt < (gI g0 1 4).toInt) ∧ 6 * a1.toInt ≤ i ∧ i < 6 * (gI g0 1 4).toInt - 6 then (eA g0 5 (i + 6)).toInt else (eA g0 5 (i)).toInt))) := by
  have hF0 : Fr zF_X0_removeLoad_1 zA_X0_removeLoad_1 g0 g0 := Fr.rf
  refine Ev.mk rfl rfl ⟨Nat.le_of_ble_eq_true rfl, Or.inr (q_rc hI0.1 kx_1 rfl)⟩ ?_
  show At _ none _ _ (0, [(0, .ref 1), (1, .int a1)], [], (_, _)) _
  refine At.enter rfl ?_
  refine r_aload_n rfl ?_
  refine r_iload_n rfl ?_
  refine q_inlV 5 rfl [.ref 1, .int a1] [] (Nat.le_of_ble_eq_true rfl) rfl ?_
  refine Ev.mk rfl rfl ⟨Nat.le_of_ble_eq_true rfl, Or.inr (q_rc hI0.1 kx_1 rfl)⟩ ?_
  show At _ none _ _ (0, [(0, .ref 1), (1, .int a1)], [], (_, _)) _
  refine At.enter rfl ?_
  refine r_iload_n rfl ?_
  refine r_ifs 4 rfl (fun c31 => ?_) (fun c31 => ?_)
  · have c31_ : a1.toInt < 0 := en_k_lt_t c31
    refine At.enter rfl ?_
    refine r_iconst 0 rfl ?_
    refine Ar.fall 17 rfl ?_
    refine At.enter rfl ?_
    refine q_iretz (by decide) ?_
    refine At.enter rfl ?_
    refine r_ift (by decide) ?_
    refine At.enter rfl ?_
    refine r_vret ?_
    obtain ⟨v32, hv32⟩ : ∃ v, gI g0 1 4 = v := ⟨_, rfl⟩
    have rv32 := RgF.at hI0.2.1 (p := 1) (b := 4) rfl
    rw [hv32] at rv32
    dsimp only at rv32
    have tv32 := congrArg Int32.toInt hv32
    have x33 := HI.eqI hI0 (p := 1) (b := 4) (hv32)
    have x34 := HI.eqI hI0 (p := 1) (b := 4) (hv32)
    exact ⟨_, rfl, hI0, hF0, rfl, ⟨by omega, by omega, (by intro i i0 i1; refine Eq.trans ?_ (if_neg (show ¬ ((0 ≤ a1.toInt ∧ a1.toInt < (gI g0 1 4).toInt) ∧ 6 * a1.toInt ≤ i ∧ i < 6 * (gI g0 1 4).toInt - 6) from by omega)).symm; (first | rfl | exact eA_ix (by omega) | omega))⟩⟩
  · have c31_ : a1.toInt ≥ 0 := en_k_lt_f c31
    refine At.enter rfl ?_
    refine r_iload_n rfl ?_
    refine r_aload_n rfl ?_
    obtain ⟨v35, hv35⟩ : ∃ v, gI g0 1 4 = v := ⟨_, rfl⟩
    have rv35 := RgF.at hI0.2.1 (p := 1) (b := 4) rfl
    rw [hv35] at rv35
    dsimp only at rv35
    refine q_getI (Sh.int hI0.1 kx_1 rfl) v35 hv35 ?_
    have bv37 := q_bnd a1
    have bv38 := q_bnd v35
    refine r_ics 12 rfl (fun c36 => ?_) (fun c36 => ?_)
    · have c36_ : a1.toInt ≥ v35.toInt := en_i_ge_t c36
      refine At.enter rfl ?_
      refine r_iconst 0 rfl ?_
      refine Ar.fall 17 rfl ?_
      refine At.enter rfl ?_
      refine q_iretz (by decide) ?_
      refine At.enter rfl ?_
      refine r_ift (by decide) ?_
      refine At.enter rfl ?_
      refine r_vret ?_
      have x39 := HI.eqI hI0 (p := 1) (b := 4) (hv35)
      have x40 := HI.eqI hI0 (p := 1) (b := 4) (hv35)
      exact ⟨_, rfl, hI0, hF0, rfl, ⟨by omega, by omega, (by intro i i0 i1; refine Eq.trans ?_ (if_neg (show ¬ ((0 ≤ a1.toInt ∧ a1.toInt < (gI g0 1 4).toInt) ∧ 6 * a1.toInt ≤ i ∧ i < 6 * (gI g0 1 4).toInt - 6) from by omega)).symm; (first | rfl | exact eA_ix (by omega) | omega))⟩⟩
    · have c36_ : a1.toInt < v35.toInt := en_i_ge_f c36
      refine At.enter rfl ?_
      refine r_iconst 1 rfl ?_
      refine r_goto ?_
      refine At.enter rfl ?_
      refine q_iretz (by decide) ?_
      refine At.enter rfl ?_
      refine r_iff 8 rfl (by decide) ?_
      refine At.enter rfl ?_
      refine r_iload_n rfl ?_
      refine r_iconst 1 rfl ?_
      refine q_iadd (a1.toInt + 1) rfl (by omega) (fun v41 hv41 => ?_)
      refine r_bipush 6 rfl ?_
      refine q_imul (v41.toInt * 6) rfl (by omega) (fun v42 hv42 => ?_)
      refine r_istore_n ([(2, .int v42), (0, .ref 1), (1, .int a1)]) rfl ?_
      refine r_aload_n rfl ?_
      refine q_getR (Sh.ref hI0.1 kx_1 rfl) ?_
      refine r_iload_n rfl ?_
      refine r_aload_n rfl ?_
      refine q_getR (Sh.ref hI0.1 kx_1 rfl) ?_
      refine r_iload_n rfl ?_
      refine r_bipush 6 rfl ?_
      refine q_imul (a1.toInt * 6) rfl (by omega) (fun v43 hv43 => ?_)
      refine r_aload_n rfl ?_
      refine q_getI (Sh.int hI0.1 kx_1 rfl) v35 hv35 ?_
      refine r_bipush 6 rfl ?_
      refine q_imul (v35.toInt * 6) rfl (by omega) (fun v44 hv44 => ?_)
      refine r_iload_n rfl ?_
      refine q_isub (v44.toInt - v42.toInt) rfl (by omega) (fun v45 hv45 => ?_)
      refine q_cpy rfl (Nat.le_of_ble_eq_true rfl) (Sh.arr hI0.1 ka_5) (Sh.arr hI0.1 ka_5) ⟨by omega, by omega, by omega, by omega, by omega⟩ ?_
      have hI46 := HI.cpy0 hI0 ka_5 ka_5 rfl rfl ((v42 : Int32).toInt.toNat) ((v43 : Int32).toInt.toNat) ((v45 : Int32).toInt.toNat) (by omega) (by omega)
      have hF47 := Fr.cpy (p0 := 5) (p1 := 5) hF0 rfl ((v42 : Int32).toInt.toNat) ((v43 : Int32).toInt.toNat) ((v45 : Int32).toInt.toNat)
      refine r_aload_n rfl ?_
      refine r_dup rfl ?_
      refine q_getI (Sh.int hI46.1 kx_1 rfl) v35 ((gI_sW).trans hv35) ?_
      refine r_iconst 1 rfl ?_
      refine q_isub (v35.toInt - 1) rfl (by omega) (fun v48 hv48 => ?_)
      refine q_putI (Sh.int hI46.1 kx_1 rfl) rfl ?_
      have hI49 := HI.wI1 hI46 kx_1 rfl (p := 1) (b := 4) (v := v48) rfl (by dsimp only; omega)
      have hF50 := Fr.wI (p := 1) (b := 4) (v := v48) hF47 rfl
      refine Ar.fall 50 rfl ?_
      refine At.enter rfl ?_
      refine r_vret ?_
      have x51 := HI.eqI hI49 (p := 1) (b := 4) ((gI_sI_eq hI46.1 kx_1 rfl _))
      have x52 := HI.eqI hI0 (p := 1) (b := 4) (hv35)
      exact ⟨_, rfl, hI49, hF50, rfl, ⟨by omega, by omega, (by intro i i0 i1; exact (Decidable.em ((0 ≤ a1.toInt ∧ a1.toInt < (gI g0 1 4).toInt) ∧ 6 * a1.toInt ≤ i ∧ i < 6 * (gI g0 1 4).toInt - 6)).elim (fun k60_ => by refine Eq.trans ?_ (if_pos k60_).symm; refine (eA_ti ((gA_sI))).trans ?_; exact (Decidable.em ((6 * a1.toInt) ≤ i ∧ i < (6 * v35.toInt + (-6)))).elim (fun k61_ => by refine (eA_cpI hI0.1 ka_5 ka_5 (sp := (v42 : Int32).toInt.toNat) (dp := (v43 : Int32).toInt.toNat) (m := (v45 : Int32).toInt.toNat) (by omega) (by omega) (i := i) (i' := i + 6) (by omega) (by omega) (by omega)).trans ?_; (first | rfl | exact eA_ix (by omega) | omega)) (fun k61_ => by refine (eA_cpO hI0.1 ka_5 ka_5 (sp := (v42 : Int32).toInt.toNat) (dp := (v43 : Int32).toInt.toNat) (m := (v45 : Int32).toInt.toNat) (by omega) (by omega) (i := i) (by omega) (by omega)).trans ?_; (first | rfl | exact eA_ix (by omega) | omega))) (fun k60_ => by refine Eq.trans ?_ (if_neg k60_).symm; refine (eA_ti ((gA_sI))).trans ?_; exact (Decidable.em ((6 * a1.toInt) ≤ i ∧ i < (6 * v35.toInt + (-6)))).elim (fun k62_ => by refine (eA_cpI hI0.1 ka_5 ka_5 (sp := (v42 : Int32).toInt.toNat) (dp := (v43 : Int32).toInt.toNat) (m := (v45 : Int32).toInt.toNat) (by omega) (by omega) (i := i) (i' := i + 6) (by omega) (by omega) (by omega)).trans ?_; (first | rfl | exact eA_ix (by omega) | omega)) (fun k62_ => by refine (eA_cpO hI0.1 ka_5 ka_5 (sp := (v42 : Int32).toInt.toNat) (dp := (v43 : Int32).toInt.toNat) (m := (v45 : Int32).toInt.toNat) (by omega) (by omega) (i := i) (by omega) (by omega)).trans ?_; (first | rfl | exact eA_ix (by omega) | omega))))⟩⟩

def zF_X10_load_0 : List (Nat × Nat) := [(0, 14), (0, 17), (1, 4), (220, 2), (222, 2), (223, 5), (223, 10)]
def zA_X10_load_0 : List Nat := [5, 230]
set_option maxRecDepth 100000 in
set_option maxHeartbeats 4000000 in
theorem zT_X10_load_0 (d : Nat) {N : Nat} {g0 : List en_E} (hI0 : HI g0) (a1 : Int32) (a2 : Int32) (a3 : Int32) (a4 : Int32) (a5 : Int32) (a6 : Int32) : Ev (d + 3) 107 [.ref 0, .int a1, .int a2, .int a3, .int a4, .int a5, .int a6] (g0, N) (fun w h' => ∃ g', h' = (g', N) ∧ HI g' ∧ Fr zF_X10_load_0 zA_X10_load_0 g0 g' ∧ ∃ r : Int32, w = some (.int r) ∧ ((-5) ≤ r.toInt ∧ r.toInt ≤ 7) ∧ (((¬ (1 ≤ a1.toInt ∧ a1.toInt ≤ 9 ∧ 0 ≤ a4.toInt ∧ a4.toInt ≤ 99 ∧ 0 ≤ a5.toInt ∧ a5.toInt ≤ 9 ∧ 0 ≤ a6.toInt ∧ a6.toInt ≤ 9999) → r.toInt = -1 ∧ (gI g' 1 4).toInt = (gI g0 1 4).toInt) ∧ ((1 ≤ a1.toInt ∧ a1.toInt ≤ 9 ∧ 0 ≤ a4.toInt ∧ a4.toInt ≤ 99 ∧ 0 ≤ a5.toInt ∧ a5.toInt ≤ 9 ∧ 0 ≤ a6.toInt ∧ a6.toInt ≤ 9999) ∧ ¬ (0 ≤ a2.toInt ∧ a2.toInt < (gI g0 1 0).toInt ∧ 0 ≤ a3.toInt ∧ a3.toInt < (gI g0 1 0).toInt) → r.toInt = -2 ∧ (gI g' 1 4).toInt = (gI g0 1 4).toInt) ∧ ((1 ≤ a1.toInt ∧ a1.toInt ≤ 9 ∧ 0 ≤ a4.toInt ∧ a4.toInt ≤ 99 ∧ 0 ≤ a5.toInt ∧ a5.toInt ≤ 9 ∧ 0 ≤ a6.toInt ∧ a6.toInt ≤ 9999) ∧ (0 ≤ a2.toInt ∧ a2.toInt < (gI g0 1 0).toInt ∧ 0 ≤ a3.toInt ∧ a3.toInt < (gI g0 1 0).toInt) ∧ 8 ≤ (gI g0 1 4).toInt → r.toInt = -5 ∧ (gI g' 1 4).toInt = (gI g0 1 4).toInt) ∧ ((1 ≤ a1.toInt ∧ a1.toInt ≤ 9 ∧ 0 ≤ a4.toInt ∧ a4.toInt ≤ 99 ∧ 0 ≤ a5.toInt ∧ a5.toInt ≤ 9 ∧ 0 ≤ a6.toInt ∧ a6.toInt ≤ 9999) ∧ (0 ≤ a2.toInt ∧ a2.toInt < (gI g0 1 0).toInt ∧ 0 ≤ a3.toInt ∧ a3.toInt < (gI g0 1 0).toInt) ∧ (gI g0 1 4).toInt < 8 → r.toInt = (gI g0 1 4).toInt ∧ (gI g' 1 4).toInt = (gI g0 1 4).toInt + 1)) ∧ (∀ i : Int, 0 ≤ i → i < 48 → (eA g' 5 (i)).toInt = if ((1 ≤ a1.toInt ∧ a1.toInt ≤ 9 ∧ 0 ≤ a4.toInt ∧ a4.toInt ≤ 99 ∧ 0 ≤ a5.toInt ∧ a5.toInt ≤ 9 ∧ 0 ≤ a6.toInt ∧ a6.toInt ≤ 9999) ∧ (0 ≤ a2.toInt ∧ a2.toInt < (gI g0 1 0).toInt ∧ 0 ≤ a3.toInt ∧ a3.toInt < (gI g0 1 0).toInt) ∧ (gI g0 1 4).toInt < 8) ∧ i = 6 * (gI g0 1 4).toInt + 0 then a1.toInt else if ((1 ≤ a1.toInt ∧ a1.toInt ≤ 9 ∧ 0 ≤ a4.toInt ∧ a4.toInt ≤ 99 ∧ 0 ≤ a5.toInt ∧ a5.toInt ≤ 9 ∧ 0 ≤ a6.toInt ∧ a6.toInt ≤ 9999) ∧ (0 ≤ a2.toInt ∧ a2.toInt < (gI g0 1 0).toInt ∧ 0 ≤ a3.toInt ∧ a3.toInt < (gI g0 1 0).toInt) ∧ (gI g0 1 4).toInt < 8) ∧ i = 6 * (gI g0 1 4).toInt + 1 then a2.toInt else if ((1 ≤ a1.toInt ∧ a1.toInt ≤ 9 ∧ 0 ≤ a4.toInt ∧ a4.toInt ≤ 99 ∧ 0 ≤ a5.toInt ∧ a5.toInt ≤ 9 ∧ 0 ≤ a6.toInt ∧ a6.toInt ≤ 9999) ∧ (0 ≤ a2.toInt ∧ a2.toInt < (gI g0 1 0).toInt ∧ 0 ≤ a3.toInt ∧ a3.toInt < (gI g0 1 0).toInt) ∧ (gI g0 1 4).toInt < 8) ∧ i = 6 * (gI g0 1 4).toInt + 2 then a3.toInt else if ((1 ≤ a1.toInt ∧ a1.toInt ≤ 9 ∧ 0 ≤ a4.toInt ∧ a4.toInt ≤ 99 ∧ 0 ≤ a5.toInt ∧ a5.toInt ≤ 9 ∧ 0 ≤ a6.toInt ∧ a6.toInt ≤ 9999) ∧ (0 ≤ a2.toInt ∧ a2.toInt < (gI g0 1 0).toInt ∧ 0 ≤ a3.toInt ∧ a3.toInt < (gI g0 1 0).toInt) ∧ (gI g0 1 4).toInt < 8) ∧ i = 6 * (gI g0 1 4).toInt + 3 then a4.toInt else if ((1 ≤ a1.toInt ∧ a1.toInt ≤ 9 ∧ 0 ≤ a4.toInt ∧ a4.toInt ≤ 99 ∧ 0 ≤ a5.toInt ∧ a5.toInt ≤ 9 ∧ 0 ≤ a6.toInt ∧ a6.toInt ≤ 9999) ∧ (0 ≤ a2.toInt ∧ a2.toInt < (gI g0 1 0).toInt ∧ 0 ≤ a3.toInt ∧ a3.toInt < (gI g0 1 0).toInt) ∧ (gI g0 1 4).toInt < 8) ∧ i = 6 * (gI g0 1 4).toInt + 4 then a5.toInt else if ((1 ≤ a1.toInt ∧ a1.toInt ≤ 9 ∧ 0 ≤ a4.toInt ∧ a4.toInt ≤ 99 ∧ 0 ≤ a5.toInt ∧ a5.toInt ≤ 9 ∧ 0 ≤ a6.toInt ∧ a6.toInt ≤ 9999) ∧ (0 ≤ a2.toInt ∧ a2.toInt < (gI g0 1 0).toInt ∧ 0 ≤ a3.toInt ∧ a3.toInt < (gI g0 1 0).toInt) ∧ (gI g0 1 4).toInt < 8) ∧ i = 6 * (gI g0 1 4).toInt + 5 then a6.toInt else (eA g0 5 (i)).toInt))) := by
  have hF0 : Fr zF_X10_load_0 zA_X10_load_0 g0 g0 := Fr.rf
  refine Ev.mk rfl rfl ⟨Nat.le_of_ble_eq_true rfl, Or.inr (q_rc hI0.1 kx_0 rfl)⟩ ?_
  show At _ none _ _ (0, [(0, .ref 0), (1, .int a1), (2, .int a2), (3, .int a3), (4, .int a4), (5, .int a5), (6, .int a6)], [], (_, _)) _
  refine At.enter rfl ?_
  refine r_aload_n rfl ?_
  refine r_iload_n rfl ?_
  refine r_iload_n rfl ?_
  refine r_iload_n rfl ?_
  refine r_iload rfl ?_
  refine r_iload rfl ?_
  refine r_iload rfl ?_
  refine r_callV 13 rfl [.ref 0, .int a1, .int a2, .int a3, .int a4, .int a5, .int a6] [] (Nat.le_of_ble_eq_true rfl) rfl (zT_X10_whyNoLoad_0 _ hI0 a1 a2 a3 a4 a5 a6) ?_
  rintro _ _ ⟨g63, rfl, hI64, hF65, v66, rfl, hr67⟩
  refine At.sti ?_
  have hF68 := Fr.tr hF0 hF65 rfl rfl
  obtain ⟨v69, hv69⟩ : ∃ v, gI g0 1 0 = v := ⟨_, rfl⟩
  have rv69 := RgF.at hI0.2.1 (p := 1) (b := 0) rfl
  rw [hv69] at rv69
  dsimp only at rv69
  have tv69 := congrArg Int32.toInt hv69
  have x70 := HI.eqI hI0 (p := 1) (b := 0) (hv69)
  obtain ⟨v71, hv71⟩ : ∃ v, gI g0 1 4 = v := ⟨_, rfl⟩
  have rv71 := RgF.at hI0.2.1 (p := 1) (b := 4) rfl
  rw [hv71] at rv71
  dsimp only at rv71
  have tv71 := congrArg Int32.toInt hv71
  have x72 := HI.eqI hI0 (p := 1) (b := 4) (hv71)
  refine At.enter rfl ?_
  refine r_istore ([(7, .int v66), (0, .ref 0), (1, .int a1), (2, .int a2), (3, .int a3), (4, .int a4), (5, .int a5), (6, .int a6)]) rfl ?_
  refine r_iload rfl ?_
  refine r_ifs 20 rfl (fun c73 => ?_) (fun c73 => ?_)
  · have c73_ : v66.toInt = 0 := en_k_eq_t c73
    refine At.enter rfl ?_
    refine r_aload_n rfl ?_
    refine r_callV 31 rfl [.ref 0] [] (Nat.le_of_ble_eq_true rfl) rfl (T_X10_changed_0 _ hI64) ?_
    rintro _ _ ⟨g74, rfl, hI75, hF76, rfl⟩
    refine At.stn ?_
    have hF79 := Fr.tr hF68 hF76 rfl rfl
    refine At.enter rfl ?_
    refine r_aload_n rfl ?_
    refine r_aload_n rfl ?_
    refine q_getR (Sh.ref hI75.1 kx_0 rfl) ?_
    refine r_iload_n rfl ?_
    refine r_iload_n rfl ?_
    refine r_iload_n rfl ?_
    refine r_iload rfl ?_
    refine r_iload rfl ?_
    refine r_iload rfl ?_
    refine r_callV 48 rfl [.ref 1, .int a1, .int a2, .int a3, .int a4, .int a5, .int a6] [.ref 0] (Nat.le_of_ble_eq_true rfl) rfl (zT_X0_addLoad_1 _ hI75 a1 a2 a3 a4 a5 a6) ?_
    rintro _ _ ⟨g80, rfl, hI81, hF82, v83, rfl, hr84⟩
    refine At.sti ?_
    have hF85 := Fr.tr hF79 hF82 rfl rfl
    have x86 := HI.eqI hI75 (p := 1) (b := 4) ((((hF76.1 1 4 (by decide)).trans (hF65.1 1 4 (by decide))).trans hv71))
    obtain ⟨v87, hv87⟩ : ∃ v, gI g80 1 4 = v := ⟨_, rfl⟩
    have rv87 := RgF.at hI81.2.1 (p := 1) (b := 4) rfl
    rw [hv87] at rv87
    dsimp only at rv87
    have tv87 := congrArg Int32.toInt hv87
    have x88 := HI.eqI hI81 (p := 1) (b := 4) (hv87)
    refine At.enter rfl ?_
    refine q_inlV 51 rfl [.ref 0, .int v83] [] (Nat.le_of_ble_eq_true rfl) rfl ?_
    refine Ev.mk rfl rfl ⟨Nat.le_of_ble_eq_true rfl, Or.inr (q_rc hI81.1 kx_0 rfl)⟩ ?_
    show At _ none _ _ (0, [(0, .ref 0), (1, .int v83)], [], (_, _)) _
    refine At.enter rfl ?_
    refine r_aload_n rfl ?_
    refine r_iconst 0 rfl ?_
    refine q_putI (Sh.int hI81.1 kx_0 rfl) rfl ?_
    have hI89 := HI.wI0 hI81 kx_0 rfl (p := 0) (b := 17) (v := 0) rfl
    have hF90 := Fr.wI (p := 0) (b := 17) (v := 0) hF85 rfl
    refine r_iload_n rfl ?_
    refine q_ireti ?_
    refine At.enter rfl ?_
    refine r_ireti ?_
    have x91 := HI.eqI hI89 (p := 1) (b := 4) (((gI_sI_ne (by decide)).trans hv87))
    have x92 := HI.eqI hI0 (p := 1) (b := 4) (hv71)
    have x93 := HI.eqI hI0 (p := 1) (b := 0) (hv69)
    obtain ⟨w94, w95, w96, w97⟩ := (hr67.2)
    exact ⟨_, rfl, hI89, hF90, _, rfl, by omega, ⟨⟨by omega, by omega, by omega, by omega⟩, (by intro i i0 i1; exact (Decidable.em (((1 ≤ a1.toInt ∧ a1.toInt ≤ 9 ∧ 0 ≤ a4.toInt ∧ a4.toInt ≤ 99 ∧ 0 ≤ a5.toInt ∧ a5.toInt ≤ 9 ∧ 0 ≤ a6.toInt ∧ a6.toInt ≤ 9999) ∧ (0 ≤ a2.toInt ∧ a2.toInt < (gI g0 1 0).toInt ∧ 0 ≤ a3.toInt ∧ a3.toInt < (gI g0 1 0).toInt) ∧ (gI g0 1 4).toInt < 8) ∧ i = 6 * (gI g0 1 4).toInt + 0)).elim (fun k81_ => by refine Eq.trans ?_ (if_pos k81_).symm; refine (eA_ti ((gA_sI))).trans ?_; refine ((hr84.2.2.2 (i) (by omega) (by omega))).trans ?_; exact (Decidable.em ((gI g74 1 4).toInt < 8 ∧ (i) = 6 * (gI g74 1 4).toInt + 0)).elim (fun k82_ => by refine (if_pos k82_).trans ?_; (first | rfl | exact eA_ix (by omega) | omega)) (fun k82_ => by refine (if_neg k82_).trans ?_; exact (Decidable.em ((gI g74 1 4).toInt < 8 ∧ (i) = 6 * (gI g74 1 4).toInt + 1)).elim (fun k83_ => by refine (if_pos k83_).trans ?_; (first | rfl | exact eA_ix (by omega) | omega)) (fun k83_ => by refine (if_neg k83_).trans ?_; exact (Decidable.em ((gI g74 1 4).toInt < 8 ∧ (i) = 6 * (gI g74 1 4).toInt + 2)).elim (fun k84_ => by refine (if_pos k84_).trans ?_; (first | rfl | exact eA_ix (by omega) | omega)) (fun k84_ => by refine (if_neg k84_).trans ?_; exact (Decidable.em ((gI g74 1 4).toInt < 8 ∧ (i) = 6 * (gI g74 1 4).toInt + 3)).elim (fun k85_ => by refine (if_pos k85_).trans ?_; (first | rfl | exact eA_ix (by omega) | omega)) (fun k85_ => by refine (if_neg k85_).trans ?_; exact (Decidable.em ((gI g74 1 4).toInt < 8 ∧ (i) = 6 * (gI g74 1 4).toInt + 4)).elim (fun k86_ => by refine (if_pos k86_).trans ?_; (first | rfl | exact eA_ix (by omega) | omega)) (fun k86_ => by refine (if_neg k86_).trans ?_; exact (Decidable.em ((gI g74 1 4).toInt < 8 ∧ (i) = 6 * (gI g74 1 4).toInt + 5)).elim (fun k87_ => by refine (if_pos k87_).trans ?_; (first | rfl | exact eA_ix (by omega) | omega)) (fun k87_ => by refine (if_neg k87_).trans ?_; refine (eA_ti (((hF76.2.1 5 (by decide)).trans (hF65.2.1 5 (by decide))))).trans ?_; (first | rfl | exact eA_ix (by omega) | omega)))))))) (fun k81_ => by refine Eq.trans ?_ (if_neg k81_).symm; exact (Decidable.em (((1 ≤ a1.toInt ∧ a1.toInt ≤ 9 ∧ 0 ≤ a4.toInt ∧ a4.toInt ≤ 99 ∧ 0 ≤ a5.toInt ∧ a5.toInt ≤ 9 ∧ 0 ≤ a6.toInt ∧ a6.toInt ≤ 9999) ∧ (0 ≤ a2.toInt ∧ a2.toInt < (gI g0 1 0).toInt ∧ 0 ≤ a3.toInt ∧ a3.toInt < (gI g0 1 0).toInt) ∧ (gI g0 1 4).toInt < 8) ∧ i = 6 * (gI g0 1 4).toInt + 1)).elim (fun k88_ => by refine Eq.trans ?_ (if_pos k88_).symm; refine (eA_ti ((gA_sI))).trans ?_; refine ((hr84.2.2.2 (i) (by omega) (by omega))).trans ?_; exact (Decidable.em ((gI g74 1 4).toInt < 8 ∧ (i) = 6 * (gI g74 1 4).toInt + 0)).elim (fun k89_ => by refine (if_pos k89_).trans ?_; (first | rfl | exact eA_ix (by omega) | omega)) (fun k89_ => by refine (if_neg k89_).trans ?_; exact (Decidable.em ((gI g74 1 4).toInt < 8 ∧ (i) = 6 * (gI g74 1 4).toInt + 1)).elim (fun k90_ => by refine (if_pos k90_).trans ?_; (first | rfl | exact eA_ix (by omega) | omega)) (fun k90_ => by refine (if_neg k90_).trans ?_; exact (Decidable.em ((gI g74 1 4).toInt < 8 ∧ (i) = 6 * (gI g74 1 4).toInt + 2)).elim (fun k91_ => by refine (if_pos k91_).trans ?_; (first | rfl | exact eA_ix (by omega) | omega)) (fun k91_ => by refine (if_neg k91_).trans ?_; exact (Decidable.em ((gI g74 1 4).toInt < 8 ∧ (i) = 6 * (gI g74 1 4).toInt + 3)).elim (fun k92_ => by refine (if_pos k92_).trans ?_; (first | rfl | exact eA_ix (by omega) | omega)) (fun k92_ => by refine (if_neg k92_).trans ?_; exact (Decidable.em ((gI g74 1 4).toInt < 8 ∧ (i) = 6 * (gI g74 1 4).toInt + 4)).elim (fun k93_ => by refine (if_pos k93_).trans ?_; (first | rfl | exact eA_ix (by omega) | omega)) (fun k93_ => by refine (if_neg k93_).trans ?_; exact (Decidable.em ((gI g74 1 4).toInt < 8 ∧ (i) = 6 * (gI g74 1 4).toInt + 5)).elim (fun k94_ => by refine (if_pos k94_).trans ?_; (first | rfl | exact eA_ix (by omega) | omega)) (fun k94_ => by refine (if_neg k94_).trans ?_; refine (eA_ti (((hF76.2.1 5 (by decide)).trans (hF65.2.1 5 (by decide))))).trans ?_; (first | rfl | exact eA_ix (by omega) | omega)))))))) (fun k88_ => by refine Eq.trans ?_ (if_neg k88_).symm; exact (Decidable.em (((1 ≤ a1.toInt ∧ a1.toInt ≤ 9 ∧ 0 ≤ a4.toInt ∧ a4.toInt ≤ 99 ∧ 0 ≤ a5.toInt ∧ a5.toInt ≤ 9 ∧ 0 ≤ a6.toInt ∧ a6.toInt ≤ 9999) ∧ (0 ≤ a2.toInt ∧ a2.toInt < (gI g0 1 0).toInt ∧ 0 ≤ a3.toInt ∧ a3.toInt < (gI g0 1 0).toInt) ∧ (gI g0 1 4).toInt < 8) ∧ i = 6 * (gI g0 1 4).toInt + 2)).elim (fun k95_ => by refine Eq.trans ?_ (if_pos k95_).symm; refine (eA_ti ((gA_sI))).trans ?_; refine ((hr84.2.2.2 (i) (by omega) (by omega))).trans ?_; exact (Decidable.em ((gI g74 1 4).toInt < 8 ∧ (i) = 6 * (gI g74 1 4).toInt + 0)).elim (fun k96_ => by refine (if_pos k96_).trans ?_; (first | rfl | exact eA_ix (by omega) | omega)) (fun k96_ => by refine (if_neg k96_).trans ?_; exact (Decidable.em ((gI g74 1 4).toInt < 8 ∧ (i) = 6 * (gI g74 1 4).toInt + 1)).elim (fun k97_ => by refine (if_pos k97_).trans ?_; (first | rfl | exact eA_ix (by omega) | omega)) (fun k97_ => by refine (if_neg k97_).trans ?_; exact (Decidable.em ((gI g74 1 4).toInt < 8 ∧ (i) = 6 * (gI g74 1 4).toInt + 2)).elim (fun k98_ => by refine (if_pos k98_).trans ?_; (first | rfl | exact eA_ix (by omega) | omega)) (fun k98_ => by refine (if_neg k98_).trans ?_; exact (Decidable.em ((gI g74 1 4).toInt < 8 ∧ (i) = 6 * (gI g74 1 4).toInt + 3)).elim (fun k99_ => by refine (if_pos k99_).trans ?_; (first | rfl | exact eA_ix (by omega) | omega)) (fun k99_ => by refine (if_neg k99_).trans ?_; exact (Decidable.em ((gI g74 1 4).toInt < 8 ∧ (i) = 6 * (gI g74 1 4).toInt + 4)).elim (fun k100_ => by refine (if_pos k100_).trans ?_; (first | rfl | exact eA_ix (by omega) | omega)) (fun k100_ => by refine (if_neg k100_).trans ?_; exact (Decidable.em ((gI g74 1 4).toInt < 8 ∧ (i) = 6 * (gI g74 1 4).toInt + 5)).elim (fun k101_ => by refine (if_pos k101_).trans ?_; (first | rfl | exact eA_ix (by omega) | omega)) (fun k101_ => by refine (if_neg k101_).trans ?_; refine (eA_ti (((hF76.2.1 5 (by decide)).trans (hF65.2.1 5 (by decide))))).trans ?_; (first | rfl | exact eA_ix (by omega) | omega)))))))) (fun k95_ => by refine Eq.trans ?_ (if_neg k95_).symm; exact (Decidable.em (((1 ≤ a1.toInt ∧ a1.toInt ≤ 9 ∧ 0 ≤ a4.toInt ∧ a4.toInt ≤ 99 ∧ 0 ≤ a5.toInt ∧ a5.toInt ≤ 9 ∧ 0 ≤ a6.toInt ∧ a6.toInt ≤ 9999) ∧ (0 ≤ a2.toInt ∧ a2.toInt < (gI g0 1 0).toInt ∧ 0 ≤ a3.toInt ∧ a3.toInt < (gI g0 1 0).toInt) ∧ (gI g0 1 4).toInt < 8) ∧ i = 6 * (gI g0 1 4).toInt + 3)).elim (fun k102_ => by refine Eq.trans ?_ (if_pos k102_).symm; refine (eA_ti ((gA_sI))).trans ?_; refine ((hr84.2.2.2 (i) (by omega) (by omega))).trans ?_; exact (Decidable.em ((gI g74 1 4).toInt < 8 ∧ (i) = 6 * (gI g74 1 4).toInt + 0)).elim (fun k103_ => by refine (if_pos k103_).trans ?_; (first | rfl | exact eA_ix (by omega) | omega)) (fun k103_ => by refine (if_neg k103_).trans ?_; exact (Decidable.em ((gI g74 1 4).toInt < 8 ∧ (i) = 6 * (gI g74 1 4).toInt + 1)).elim (fun k104_ => by refine (if_pos k104_).trans ?_; (first | rfl | exact eA_ix (by omega) | omega)) (fun k104_ => by refine (if_neg k104_).trans ?_; exact (Decidable.em ((gI g74 1 4).toInt < 8 ∧ (i) = 6 * (gI g74 1 4).toInt + 2)).elim (fun k105_ => by refine (if_pos k105_).trans ?_; (first | rfl | exact eA_ix (by omega) | omega)) (fun k105_ => by refine (if_neg k105_).trans ?_; exact (Decidable.em ((gI g74 1 4).toInt < 8 ∧ (i) = 6 * (gI g74 1 4).toInt + 3)).elim (fun k106_ => by refine (if_pos k106_).trans ?_; (first | rfl | exact eA_ix (by omega) | omega)) (fun k106_ => by refine (if_neg k106_).trans ?_; exact (Decidable.em ((gI g74 1 4).toInt < 8 ∧ (i) = 6 * (gI g74 1 4).toInt + 4)).elim (fun k107_ => by refine (if_pos k107_).trans ?_; (first | rfl | exact eA_ix (by omega) | omega)) (fun k107_ => by refine (if_neg k107_).trans ?_; exact (Decidable.em ((gI g74 1 4).toInt < 8 ∧ (i) = 6 * (gI g74 1 4).toInt + 5)).elim (fun k108_ => by refine (if_pos k108_).trans ?_; (first | rfl | exact eA_ix (by omega) | omega)) (fun k108_ => by refine (if_neg k108_).trans ?_; refine (eA_ti (((hF76.2.1 5 (by decide)).trans (hF65.2.1 5 (by decide))))).trans ?_; (first | rfl | exact eA_ix (by omega) | omega)))))))) (fun k102_ => by refine Eq.trans ?_ (if_neg k102_).symm; exact (Decidable.em (((1 ≤ a1.toInt ∧ a1.toInt ≤ 9 ∧ 0 ≤ a4.toInt ∧ a4.toInt ≤ 99 ∧ 0 ≤ a5.toInt ∧ a5.toInt ≤ 9 ∧ 0 ≤ a6.toInt ∧ a6.toInt ≤ 9999) ∧ (0 ≤ a2.toInt ∧ a2.toInt < (gI g0 1 0).toInt ∧ 0 ≤ a3.toInt ∧ a3.toInt < (gI g0 1 0).toInt) ∧ (gI g0 1 4).toInt < 8) ∧ i = 6 * (gI g0 1 4).toInt + 4)).elim (fun k109_ => by refine Eq.trans ?_ (if_pos k109_).symm; refine (eA_ti ((gA_sI))).trans ?_; refine ((hr84.2.2.2 (i) (by omega) (by omega))).trans ?_; exact (Decidable.em ((gI g74 1 4).toInt < 8 ∧ (i) = 6 * (gI g74 1 4).toInt + 0)).elim (fun k110_ => by refine (if_pos k110_).trans ?_; (first | rfl | exact eA_ix (by omega) | omega)) (fun k110_ => by refine (if_neg k110_).trans ?_; exact (Decidable.em ((gI g74 1 4).toInt < 8 ∧ (i) = 6 * (gI g74 1 4).toInt + 1)).elim (fun k111_ => by refine (if_pos k111_).trans ?_; (first | rfl | exact eA_ix (by omega) | omega)) (fun k111_ => by refine (if_neg k111_).trans ?_; exact (Decidable.em ((gI g74 1 4).toInt < 8 ∧ (i) = 6 * (gI g74 1 4).toInt + 2)).elim (fun k112_ => by refine (if_pos k112_).trans ?_; (first | rfl | exact eA_ix (by omega) | omega)) (fun k112_ => by refine (if_neg k112_).trans ?_; exact (Decidable.em ((gI g74 1 4).toInt < 8 ∧ (i) = 6 * (gI g74 1 4).toInt + 3)).elim (fun k113_ => by refine (if_pos k113_).trans ?_; (first | rfl | exact eA_ix (by omega) | omega)) (fun k113_ => by refine (if_neg k113_).trans ?_; exact (Decidable.em ((gI g74 1 4).toInt < 8 ∧ (i) = 6 * (gI g74 1 4).toInt + 4)).elim (fun k114_ => by refine (if_pos k114_).trans ?_; (first | rfl | exact eA_ix (by omega) | omega)) (fun k114_ => by refine (if_neg k114_).trans ?_; exact (Decidable.em ((gI g74 1 4).toInt < 8 ∧ (i) = 6 * (gI g74 1 4).toInt + 5)).elim (fun k115_ => by refine (if_pos k115_).trans ?_; (first | rfl | exact eA_ix (by omega) | omega)) (fun k115_ => by refine (if_neg k115_).trans ?_; refine (eA_ti (((hF76.2.1 5 (by decide)).trans (hF65.2.1 5 (by decide))))).trans ?_; (first | rfl | exact eA_ix (by omega) | omega)))))))) (fun k109_ => by refine Eq.trans ?_ (if_neg k109_).symm; exact (Decidable.em (((1 ≤ a1.toInt ∧ a1.toInt ≤ 9 ∧ 0 ≤ a4.toInt ∧ a4.toInt ≤ 99 ∧ 0 ≤ a5.toInt ∧ a5.toInt ≤ 9 ∧ 0 ≤ a6.toInt ∧ a6.toInt ≤ 9999) ∧ (0 ≤ a2.toInt ∧ a2.toInt < (gI g0 1 0).toInt ∧ 0 ≤ a3.toInt ∧ a3.toInt < (gI g0 1 0).toInt) ∧ (gI g0 1 4).toInt < 8) ∧ i = 6 * (gI g0 1 4).toInt + 5)).elim (fun k116_ => by refine Eq.trans ?_ (if_pos k116_).symm; refine (eA_ti ((gA_sI))).trans ?_; refine ((hr84.2.2.2 (i) (by omega) (by omega))).trans ?_; exact (Decidable.em ((gI g74 1 4).toInt < 8 ∧ (i) = 6 * (gI g74 1 4).toInt + 0)).elim (fun k117_ => by refine (if_pos k117_).trans ?_; (first | rfl | exact eA_ix (by omega) | omega)) (fun k117_ => by refine (if_neg k117_).trans ?_; exact (Decidable.em ((gI g74 1 4).toInt < 8 ∧ (i) = 6 * (gI g74 1 4).toInt + 1)).elim (fun k118_ => by refine (if_pos k118_).trans ?_; (first | rfl | exact eA_ix (by omega) | omega)) (fun k118_ => by refine (if_neg k118_).trans ?_; exact (Decidable.em ((gI g74 1 4).toInt < 8 ∧ (i) = 6 * (gI g74 1 4).toInt + 2)).elim (fun k119_ => by refine (if_pos k119_).trans ?_; (first | rfl | exact eA_ix (by omega) | omega)) (fun k119_ => by refine (if_neg k119_).trans ?_; exact (Decidable.em ((gI g74 1 4).toInt < 8 ∧ (i) = 6 * (gI g74 1 4).toInt + 3)).elim (fun k120_ => by refine (if_pos k120_).trans ?_; (first | rfl | exact eA_ix (by omega) | omega)) (fun k120_ => by refine (if_neg k120_).trans ?_; exact (Decidable.em ((gI g74 1 4).toInt < 8 ∧ (i) = 6 * (gI g74 1 4).toInt + 4)).elim (fun k121_ => by refine (if_pos k121_).trans ?_; (first | rfl | exact eA_ix (by omega) | omega)) (fun k121_ => by refine (if_neg k121_).trans ?_; exact (Decidable.em ((gI g74 1 4).toInt < 8 ∧ (i) = 6 * (gI g74 1 4).toInt + 5)).elim (fun k122_ => by refine (if_pos k122_).trans ?_; (first | rfl | exact eA_ix (by omega) | omega)) (fun k122_ => by refine (if_neg k122_).trans ?_; refine (eA_ti (((hF76.2.1 5 (by decide)).trans (hF65.2.1 5 (by decide))))).trans ?_; (first | rfl | exact eA_ix (by omega) | omega)))))))) (fun k116_ => by refine Eq.trans ?_ (if_neg k116_).symm; refine (eA_ti ((gA_sI))).trans ?_; refine ((hr84.2.2.2 (i) (by omega) (by omega))).trans ?_; exact (Decidable.em ((gI g74 1 4).toInt < 8 ∧ (i) = 6 * (gI g74 1 4).toInt + 0)).elim (fun k123_ => by refine (if_pos k123_).trans ?_; (first | rfl | exact eA_ix (by omega) | omega)) (fun k123_ => by refine (if_neg k123_).trans ?_; exact (Decidable.em ((gI g74 1 4).toInt < 8 ∧ (i) = 6 * (gI g74 1 4).toInt + 1)).elim (fun k124_ => by refine (if_pos k124_).trans ?_; (first | rfl | exact eA_ix (by omega) | omega)) (fun k124_ => by refine (if_neg k124_).trans ?_; exact (Decidable.em ((gI g74 1 4).toInt < 8 ∧ (i) = 6 * (gI g74 1 4).toInt + 2)).elim (fun k125_ => by refine (if_pos k125_).trans ?_; (first | rfl | exact eA_ix (by omega) | omega)) (fun k125_ => by refine (if_neg k125_).trans ?_; exact (Decidable.em ((gI g74 1 4).toInt < 8 ∧ (i) = 6 * (gI g74 1 4).toInt + 3)).elim (fun k126_ => by refine (if_pos k126_).trans ?_; (first | rfl | exact eA_ix (by omega) | omega)) (fun k126_ => by refine (if_neg k126_).trans ?_; exact (Decidable.em ((gI g74 1 4).toInt < 8 ∧ (i) = 6 * (gI g74 1 4).toInt + 4)).elim (fun k127_ => by refine (if_pos k127_).trans ?_; (first | rfl | exact eA_ix (by omega) | omega)) (fun k127_ => by refine (if_neg k127_).trans ?_; exact (Decidable.em ((gI g74 1 4).toInt < 8 ∧ (i) = 6 * (gI g74 1 4).toInt + 5)).elim (fun k128_ => by refine (if_pos k128_).trans ?_; (first | rfl | exact eA_ix (by omega) | omega)) (fun k128_ => by refine (if_neg k128_).trans ?_; refine (eA_ti (((hF76.2.1 5 (by decide)).trans (hF65.2.1 5 (by decide))))).trans ?_; (first | rfl | exact eA_ix (by omega) | omega))))))))))))))⟩⟩
  · have c73_ : v66.toInt ≠ 0 := en_k_eq_f c73
    refine At.enter rfl ?_
    refine r_aload_n rfl ?_
    refine r_iload rfl ?_
    refine r_callV 26 rfl [.ref 0, .int v66] [] (Nat.le_of_ble_eq_true rfl) rfl (T_X10_refused_0 _ hI64 v66 (by omega)) ?_
    rintro _ _ ⟨g98, rfl, hI99, hF100, v101, rfl, hr102⟩
    refine At.sti ?_
    have hF103 := Fr.tr hF68 hF100 rfl rfl
    refine At.enter rfl ?_
    refine r_ireti ?_
    have x104 := HI.eqI hI99 (p := 1) (b := 4) ((((hF100.1 1 4 (by decide)).trans (hF65.1 1 4 (by decide))).trans hv71))
    have x105 := HI.eqI hI0 (p := 1) (b := 4) (hv71)
    have x106 := HI.eqI hI0 (p := 1) (b := 0) (hv69)
    obtain ⟨w107, w108, w109, w110⟩ := (hr67.2)
    exact ⟨_, rfl, hI99, hF103, _, rfl, by omega, ⟨⟨by omega, by omega, by omega, by omega⟩, (by intro i i0 i1; refine Eq.trans ?_ (if_neg (show ¬ (((1 ≤ a1.toInt ∧ a1.toInt ≤ 9 ∧ 0 ≤ a4.toInt ∧ a4.toInt ≤ 99 ∧ 0 ≤ a5.toInt ∧ a5.toInt ≤ 9 ∧ 0 ≤ a6.toInt ∧ a6.toInt ≤ 9999) ∧ (0 ≤ a2.toInt ∧ a2.toInt < (gI g0 1 0).toInt ∧ 0 ≤ a3.toInt ∧ a3.toInt < (gI g0 1 0).toInt) ∧ (gI g0 1 4).toInt < 8) ∧ i = 6 * (gI g0 1 4).toInt + 0) from by omega)).symm; refine Eq.trans ?_ (if_neg (show ¬ (((1 ≤ a1.toInt ∧ a1.toInt ≤ 9 ∧ 0 ≤ a4.toInt ∧ a4.toInt ≤ 99 ∧ 0 ≤ a5.toInt ∧ a5.toInt ≤ 9 ∧ 0 ≤ a6.toInt ∧ a6.toInt ≤ 9999) ∧ (0 ≤ a2.toInt ∧ a2.toInt < (gI g0 1 0).toInt ∧ 0 ≤ a3.toInt ∧ a3.toInt < (gI g0 1 0).toInt) ∧ (gI g0 1 4).toInt < 8) ∧ i = 6 * (gI g0 1 4).toInt + 1) from by omega)).symm; refine Eq.trans ?_ (if_neg (show ¬ (((1 ≤ a1.toInt ∧ a1.toInt ≤ 9 ∧ 0 ≤ a4.toInt ∧ a4.toInt ≤ 99 ∧ 0 ≤ a5.toInt ∧ a5.toInt ≤ 9 ∧ 0 ≤ a6.toInt ∧ a6.toInt ≤ 9999) ∧ (0 ≤ a2.toInt ∧ a2.toInt < (gI g0 1 0).toInt ∧ 0 ≤ a3.toInt ∧ a3.toInt < (gI g0 1 0).toInt) ∧ (gI g0 1 4).toInt < 8) ∧ i = 6 * (gI g0 1 4).toInt + 2) from by omega)).symm; refine Eq.trans ?_ (if_neg (show ¬ (((1 ≤ a1.toInt ∧ a1.toInt ≤ 9 ∧ 0 ≤ a4.toInt ∧ a4.toInt ≤ 99 ∧ 0 ≤ a5.toInt ∧ a5.toInt ≤ 9 ∧ 0 ≤ a6.toInt ∧ a6.toInt ≤ 9999) ∧ (0 ≤ a2.toInt ∧ a2.toInt < (gI g0 1 0).toInt ∧ 0 ≤ a3.toInt ∧ a3.toInt < (gI g0 1 0).toInt) ∧ (gI g0 1 4).toInt < 8) ∧ i = 6 * (gI g0 1 4).toInt + 3) from by omega)).symm; refine Eq.trans ?_ (if_neg (show ¬ (((1 ≤ a1.toInt ∧ a1.toInt ≤ 9 ∧ 0 ≤ a4.toInt ∧ a4.toInt ≤ 99 ∧ 0 ≤ a5.toInt ∧ a5.toInt ≤ 9 ∧ 0 ≤ a6.toInt ∧ a6.toInt ≤ 9999) ∧ (0 ≤ a2.toInt ∧ a2.toInt < (gI g0 1 0).toInt ∧ 0 ≤ a3.toInt ∧ a3.toInt < (gI g0 1 0).toInt) ∧ (gI g0 1 4).toInt < 8) ∧ i = 6 * (gI g0 1 4).toInt + 4) from by omega)).symm; refine Eq.trans ?_ (if_neg (show ¬ (((1 ≤ a1.toInt ∧ a1.toInt ≤ 9 ∧ 0 ≤ a4.toInt ∧ a4.toInt ≤ 99 ∧ 0 ≤ a5.toInt ∧ a5.toInt ≤ 9 ∧ 0 ≤ a6.toInt ∧ a6.toInt ≤ 9999) ∧ (0 ≤ a2.toInt ∧ a2.toInt < (gI g0 1 0).toInt ∧ 0 ≤ a3.toInt ∧ a3.toInt < (gI g0 1 0).toInt) ∧ (gI g0 1 4).toInt < 8) ∧ i = 6 * (gI g0 1 4).toInt + 5) from by omega)).symm; refine (eA_ti (((hF100.2.1 5 (by decide)).trans (hF65.2.1 5 (by decide))))).trans ?_; (first | rfl | exact eA_ix (by omega) | omega))⟩⟩

def zF_X10_fact_0 : List (Nat × Nat) := []
def zA_X10_fact_0 : List Nat := []
set_option maxRecDepth 100000 in
set_option maxHeartbeats 4000000 in
theorem zT_X10_fact_0 (d : Nat) {N : Nat} {g0 : List en_E} (hI0 : HI g0) (a1 : Int32) (a2 : Int32) : Ev (d + 2) 108 [.ref 0, .int a1, .int a2] (g0, N) (fun w h' => ∃ g', h' = (g', N) ∧ HI g' ∧ Fr zF_X10_fact_0 zA_X10_fact_0 g0 g' ∧ ∃ r : Int32, w = some (.int r) ∧ True ∧ ((0 ≤ a1.toInt ∧ a1.toInt < (gI g0 1 4).toInt ∧ 0 ≤ a2.toInt ∧ a2.toInt < 6 → r.toInt = (eA g0 5 (6 * a1.toInt + a2.toInt)).toInt) ∧ (¬ (0 ≤ a1.toInt ∧ a1.toInt < (gI g0 1 4).toInt ∧ 0 ≤ a2.toInt ∧ a2.toInt < 6) → r.toInt = -1))) := by
  have hF0 : Fr zF_X10_fact_0 zA_X10_fact_0 g0 g0 := Fr.rf
  refine Ev.mk rfl rfl ⟨Nat.le_of_ble_eq_true rfl, Or.inr (q_rc hI0.1 kx_0 rfl)⟩ ?_
  show At _ none _ _ (0, [(0, .ref 0), (1, .int a1), (2, .int a2)], [], (_, _)) _
  refine At.enter rfl ?_
  refine r_aload_n rfl ?_
  refine q_getR (Sh.ref hI0.1 kx_0 rfl) ?_
  refine r_iload_n rfl ?_
  refine q_inlV 8 rfl [.ref 1, .int a1] [] (Nat.le_of_ble_eq_true rfl) rfl ?_
  refine Ev.mk rfl rfl ⟨Nat.le_of_ble_eq_true rfl, Or.inr (q_rc hI0.1 kx_1 rfl)⟩ ?_
  show At _ none _ _ (0, [(0, .ref 1), (1, .int a1)], [], (_, _)) _
  refine At.enter rfl ?_
  refine r_iload_n rfl ?_
  refine r_ifs 4 rfl (fun c27 => ?_) (fun c27 => ?_)
  · have c27_ : a1.toInt < 0 := en_k_lt_t c27
    refine At.enter rfl ?_
    refine r_iconst 0 rfl ?_
    refine Ar.fall 17 rfl ?_
    refine At.enter rfl ?_
    refine q_iretz (by decide) ?_
    refine At.enter rfl ?_
    refine r_ift (by decide) ?_
    refine At.enter rfl ?_
    refine r_iconst (-1) rfl ?_
    refine Ar.fall 33 rfl ?_
    refine At.enter rfl ?_
    refine r_ireti ?_
    have zv28 : ((-1) : Int32).toInt = (-1) := rfl
    obtain ⟨v29, hv29⟩ : ∃ v, gI g0 1 4 = v := ⟨_, rfl⟩
    have rv29 := RgF.at hI0.2.1 (p := 1) (b := 4) rfl
    rw [hv29] at rv29
    dsimp only at rv29
    have tv29 := congrArg Int32.toInt hv29
    have x30 := HI.eqI hI0 (p := 1) (b := 4) (hv29)
    exact ⟨_, rfl, hI0, hF0, _, rfl, trivial, ⟨by omega, by omega⟩⟩
  · have c27_ : a1.toInt ≥ 0 := en_k_lt_f c27
    refine At.enter rfl ?_
    refine r_iload_n rfl ?_
    refine r_aload_n rfl ?_
    obtain ⟨v31, hv31⟩ : ∃ v, gI g0 1 4 = v := ⟨_, rfl⟩
    have rv31 := RgF.at hI0.2.1 (p := 1) (b := 4) rfl
    rw [hv31] at rv31
    dsimp only at rv31
    refine q_getI (Sh.int hI0.1 kx_1 rfl) v31 hv31 ?_
    have bv33 := q_bnd a1
    have bv34 := q_bnd v31
    refine r_ics 12 rfl (fun c32 => ?_) (fun c32 => ?_)
    · have c32_ : a1.toInt ≥ v31.toInt := en_i_ge_t c32
      refine At.enter rfl ?_
      refine r_iconst 0 rfl ?_
      refine Ar.fall 17 rfl ?_
      refine At.enter rfl ?_
      refine q_iretz (by decide) ?_
      refine At.enter rfl ?_
      refine r_ift (by decide) ?_
      refine At.enter rfl ?_
      refine r_iconst (-1) rfl ?_
      refine Ar.fall 33 rfl ?_
      refine At.enter rfl ?_
      refine r_ireti ?_
      have zv35 : ((-1) : Int32).toInt = (-1) := rfl
      have x36 := HI.eqI hI0 (p := 1) (b := 4) (hv31)
      exact ⟨_, rfl, hI0, hF0, _, rfl, trivial, ⟨by omega, by omega⟩⟩
    · have c32_ : a1.toInt < v31.toInt := en_i_ge_f c32
      refine At.enter rfl ?_
      refine r_iconst 1 rfl ?_
      refine r_goto ?_
      refine At.enter rfl ?_
      refine q_iretz (by decide) ?_
      refine At.enter rfl ?_
      refine r_iff 11 rfl (by decide) ?_
      refine At.enter rfl ?_
      refine r_iload_n rfl ?_
      refine r_iconst 0 rfl ?_
      refine r_iconst 5 rfl ?_
      refine q_inlS 17 rfl [.int a2, .int 0, .int 5] [] (Nat.le_of_ble_eq_true rfl) rfl ?_
      refine Ev.mk rfl rfl ⟨Nat.le_of_ble_eq_true rfl, Or.inl rfl⟩ ?_
      show At _ none _ _ (0, [(0, .int a2), (1, .int 0), (2, .int 5)], [], (_, _)) _
      refine At.enter rfl ?_
      refine r_iload_n rfl ?_
      refine r_iload_n rfl ?_
      refine r_ics 5 rfl (fun c37 => ?_) (fun c37 => ?_)
      · have c37_ : a2.toInt < 0 := en_i_lt_t c37
        refine At.enter rfl ?_
        refine r_iconst 0 rfl ?_
        refine Ar.fall 15 rfl ?_
        refine At.enter rfl ?_
        refine q_iretz (by decide) ?_
        refine At.enter rfl ?_
        refine r_ift (by decide) ?_
        refine At.enter rfl ?_
        refine r_iconst (-1) rfl ?_
        refine Ar.fall 33 rfl ?_
        refine At.enter rfl ?_
        refine r_ireti ?_
        have zv38 : ((-1) : Int32).toInt = (-1) := rfl
        have x39 := HI.eqI hI0 (p := 1) (b := 4) (hv31)
        exact ⟨_, rfl, hI0, hF0, _, rfl, trivial, ⟨by omega, by omega⟩⟩
      · have c37_ : a2.toInt ≥ 0 := en_i_lt_f c37
        refine At.enter rfl ?_
        refine r_iload_n rfl ?_
        refine r_iload_n rfl ?_
        refine r_ics 10 rfl (fun c40 => ?_) (fun c40 => ?_)
        · have c40_ : a2.toInt > 5 := en_i_gt_t c40
          refine At.enter rfl ?_
          refine r_iconst 0 rfl ?_
          refine Ar.fall 15 rfl ?_
          refine At.enter rfl ?_
          refine q_iretz (by decide) ?_
          refine At.enter rfl ?_
          refine r_ift (by decide) ?_
          refine At.enter rfl ?_
          refine r_iconst (-1) rfl ?_
          refine Ar.fall 33 rfl ?_
          refine At.enter rfl ?_
          refine r_ireti ?_
          have zv41 : ((-1) : Int32).toInt = (-1) := rfl
          have x42 := HI.eqI hI0 (p := 1) (b := 4) (hv31)
          exact ⟨_, rfl, hI0, hF0, _, rfl, trivial, ⟨by omega, by omega⟩⟩
        · have c40_ : a2.toInt ≤ 5 := en_i_gt_f c40
          refine At.enter rfl ?_
          refine r_iconst 1 rfl ?_
          refine r_goto ?_
          refine At.enter rfl ?_
          refine q_iretz (by decide) ?_
          refine At.enter rfl ?_
          refine r_iff 20 rfl (by decide) ?_
          refine At.enter rfl ?_
          refine r_aload_n rfl ?_
          refine q_getR (Sh.ref hI0.1 kx_0 rfl) ?_
          refine r_iload_n rfl ?_
          refine r_iload_n rfl ?_
          refine r_callV 29 rfl [.ref 1, .int a1, .int a2] [] (Nat.le_of_ble_eq_true rfl) rfl (zT_X0_about_1 _ hI0 a1 a2) ?_
          rintro _ _ ⟨g43, rfl, hI44, hF45, v46, rfl, hr47⟩
          refine At.sti ?_
          have hF48 := Fr.tr hF0 hF45 rfl rfl
          refine At.enter rfl ?_
          refine r_goto ?_
          refine At.enter rfl ?_
          refine r_ireti ?_
          have x49 := HI.eqI hI0 (p := 1) (b := 4) (hv31)
          obtain ⟨w50, w51⟩ := hr47.2
          exact ⟨_, rfl, hI44, hF48, _, rfl, trivial, ⟨by omega, by omega⟩⟩

def zF_X10_drop_0 : List (Nat × Nat) := [(0, 14), (0, 17), (1, 4), (220, 2), (222, 2), (223, 5), (223, 10)]
def zA_X10_drop_0 : List Nat := [5, 230]
set_option maxRecDepth 100000 in
set_option maxHeartbeats 4000000 in
theorem zT_X10_drop_0 (d : Nat) {N : Nat} {g0 : List en_E} (hI0 : HI g0) (a1 : Int32) : Ev (d + 3) 109 [.ref 0, .int a1] (g0, N) (fun w h' => ∃ g', h' = (g', N) ∧ HI g' ∧ Fr zF_X10_drop_0 zA_X10_drop_0 g0 g' ∧ ∃ r : Int32, w = some (.int r) ∧ ((-2) ≤ r.toInt ∧ r.toInt ≤ 8) ∧ (((0 ≤ a1.toInt ∧ a1.toInt < (gI g0 1 4).toInt → r.toInt = (gI g0 1 4).toInt - 1 ∧ (gI g' 1 4).toInt = (gI g0 1 4).toInt - 1) ∧ (¬ (0 ≤ a1.toInt ∧ a1.toInt < (gI g0 1 4).toInt) → r.toInt = -2 ∧ (gI g' 1 4).toInt = (gI g0 1 4).toInt)) ∧ (∀ i : Int, 0 ≤ i → i < 48 → (eA g' 5 (i)).toInt = if (0 ≤ a1.toInt ∧ a1.toInt < (gI g0 1 4).toInt) ∧ 6 * a1.toInt ≤ i ∧ i < 6 * (gI g0 1 4).toInt - 6 then (eA g0 5 (i + 6)).toInt else (eA g0 5 (i)).toInt))) := by
  have hF0 : Fr zF_X10_drop_0 zA_X10_drop_0 g0 g0 := Fr.rf
  refine Ev.mk rfl rfl ⟨Nat.le_of_ble_eq_true rfl, Or.inr (q_rc hI0.1 kx_0 rfl)⟩ ?_
  show At _ none _ _ (0, [(0, .ref 0), (1, .int a1)], [], (_, _)) _
  refine At.enter rfl ?_
  refine r_aload_n rfl ?_
  refine q_getR (Sh.ref hI0.1 kx_0 rfl) ?_
  refine r_iload_n rfl ?_
  refine q_inlV 8 rfl [.ref 1, .int a1] [] (Nat.le_of_ble_eq_true rfl) rfl ?_
  refine Ev.mk rfl rfl ⟨Nat.le_of_ble_eq_true rfl, Or.inr (q_rc hI0.1 kx_1 rfl)⟩ ?_
  show At _ none _ _ (0, [(0, .ref 1), (1, .int a1)], [], (_, _)) _
  refine At.enter rfl ?_
  refine r_iload_n rfl ?_
  refine r_ifs 4 rfl (fun c69 => ?_) (fun c69 => ?_)
  · have c69_ : a1.toInt < 0 := en_k_lt_t c69
    refine At.enter rfl ?_
    refine r_iconst 0 rfl ?_
    refine Ar.fall 17 rfl ?_
    refine At.enter rfl ?_
    refine q_iretz (by decide) ?_
    refine At.enter rfl ?_
    refine r_iff 11 rfl (by decide) ?_
    refine At.enter rfl ?_
    refine r_aload_n rfl ?_
    refine r_bipush (-2) rfl ?_
    refine r_callV 17 rfl [.ref 0, .int (-2)] [] (Nat.le_of_ble_eq_true rfl) rfl (T_X10_refused_0 _ hI0 (-2) (by decide)) ?_
    rintro _ _ ⟨g70, rfl, hI71, hF72, v73, rfl, hr74⟩
    refine At.sti ?_
    have hF75 := Fr.tr hF0 hF72 rfl rfl
    have zv76 : ((-2) : Int32).toInt = (-2) := rfl
    refine At.enter rfl ?_
    refine r_ireti ?_
    obtain ⟨v77, hv77⟩ : ∃ v, gI g0 1 4 = v := ⟨_, rfl⟩
    have rv77 := RgF.at hI0.2.1 (p := 1) (b := 4) rfl
    rw [hv77] at rv77
    dsimp only at rv77
    have tv77 := congrArg Int32.toInt hv77
    have x78 := HI.eqI hI71 (p := 1) (b := 4) (((hF72.1 1 4 (by decide)).trans hv77))
    have x79 := HI.eqI hI0 (p := 1) (b := 4) (hv77)
    exact ⟨_, rfl, hI71, hF75, _, rfl, by omega, ⟨⟨by omega, by omega⟩, (by intro i i0 i1; refine Eq.trans ?_ (if_neg (show ¬ ((0 ≤ a1.toInt ∧ a1.toInt < (gI g0 1 4).toInt) ∧ 6 * a1.toInt ≤ i ∧ i < 6 * (gI g0 1 4).toInt - 6) from by omega)).symm; refine (eA_ti ((hF72.2.1 5 (by decide)))).trans ?_; (first | rfl | exact eA_ix (by omega) | omega))⟩⟩
  · have c69_ : a1.toInt ≥ 0 := en_k_lt_f c69
    refine At.enter rfl ?_
    refine r_iload_n rfl ?_
    refine r_aload_n rfl ?_
    obtain ⟨v80, hv80⟩ : ∃ v, gI g0 1 4 = v := ⟨_, rfl⟩
    have rv80 := RgF.at hI0.2.1 (p := 1) (b := 4) rfl
    rw [hv80] at rv80
    dsimp only at rv80
    refine q_getI (Sh.int hI0.1 kx_1 rfl) v80 hv80 ?_
    have bv82 := q_bnd a1
    have bv83 := q_bnd v80
    refine r_ics 12 rfl (fun c81 => ?_) (fun c81 => ?_)
    · have c81_ : a1.toInt ≥ v80.toInt := en_i_ge_t c81
      refine At.enter rfl ?_
      refine r_iconst 0 rfl ?_
      refine Ar.fall 17 rfl ?_
      refine At.enter rfl ?_
      refine q_iretz (by decide) ?_
      refine At.enter rfl ?_
      refine r_iff 11 rfl (by decide) ?_
      refine At.enter rfl ?_
      refine r_aload_n rfl ?_
      refine r_bipush (-2) rfl ?_
      refine r_callV 17 rfl [.ref 0, .int (-2)] [] (Nat.le_of_ble_eq_true rfl) rfl (T_X10_refused_0 _ hI0 (-2) (by decide)) ?_
      rintro _ _ ⟨g84, rfl, hI85, hF86, v87, rfl, hr88⟩
      refine At.sti ?_
      have hF89 := Fr.tr hF0 hF86 rfl rfl
      have zv90 : ((-2) : Int32).toInt = (-2) := rfl
      refine At.enter rfl ?_
      refine r_ireti ?_
      have x91 := HI.eqI hI85 (p := 1) (b := 4) (((hF86.1 1 4 (by decide)).trans hv80))
      have x92 := HI.eqI hI0 (p := 1) (b := 4) (hv80)
      exact ⟨_, rfl, hI85, hF89, _, rfl, by omega, ⟨⟨by omega, by omega⟩, (by intro i i0 i1; refine Eq.trans ?_ (if_neg (show ¬ ((0 ≤ a1.toInt ∧ a1.toInt < (gI g0 1 4).toInt) ∧ 6 * a1.toInt ≤ i ∧ i < 6 * (gI g0 1 4).toInt - 6) from by omega)).symm; refine (eA_ti ((hF86.2.1 5 (by decide)))).trans ?_; (first | rfl | exact eA_ix (by omega) | omega))⟩⟩
    · have c81_ : a1.toInt < v80.toInt := en_i_ge_f c81
      refine At.enter rfl ?_
      refine r_iconst 1 rfl ?_
      refine r_goto ?_
      refine At.enter rfl ?_
      refine q_iretz (by decide) ?_
      refine At.enter rfl ?_
      refine r_ift (by decide) ?_
      refine At.enter rfl ?_
      refine r_aload_n rfl ?_
      refine q_getR (Sh.ref hI0.1 kx_0 rfl) ?_
      refine r_iload_n rfl ?_
      refine r_callV 26 rfl [.ref 1, .int a1] [] (Nat.le_of_ble_eq_true rfl) rfl (zT_X0_removeLoad_1 _ hI0 a1) ?_
      rintro _ _ ⟨g93, rfl, hI94, hF95, rfl, hr97⟩
      refine At.stn ?_
      have hF98 := Fr.tr hF0 hF95 rfl rfl
      have x99 := HI.eqI hI0 (p := 1) (b := 4) (hv80)
      obtain ⟨v100, hv100⟩ : ∃ v, gI g93 1 4 = v := ⟨_, rfl⟩
      have rv100 := RgF.at hI94.2.1 (p := 1) (b := 4) rfl
      rw [hv100] at rv100
      dsimp only at rv100
      have tv100 := congrArg Int32.toInt hv100
      have x101 := HI.eqI hI94 (p := 1) (b := 4) (hv100)
      refine At.enter rfl ?_
      refine r_aload_n rfl ?_
      refine r_callV 30 rfl [.ref 0] [] (Nat.le_of_ble_eq_true rfl) rfl (T_X10_changed_0 _ hI94) ?_
      rintro _ _ ⟨g102, rfl, hI103, hF104, rfl⟩
      refine At.stn ?_
      have hF107 := Fr.tr hF98 hF104 rfl rfl
      refine At.enter rfl ?_
      refine r_aload_n rfl ?_
      refine r_aload_n rfl ?_
      refine q_getR (Sh.ref hI103.1 kx_0 rfl) ?_
      refine q_getI (Sh.int hI103.1 kx_1 rfl) v100 ((hF104.1 1 4 (by decide)).trans hv100) ?_
      refine q_inlV 41 rfl [.ref 0, .int v100] [] (Nat.le_of_ble_eq_true rfl) rfl ?_
      refine Ev.mk rfl rfl ⟨Nat.le_of_ble_eq_true rfl, Or.inr (q_rc hI103.1 kx_0 rfl)⟩ ?_
      show At _ none _ _ (0, [(0, .ref 0), (1, .int v100)], [], (_, _)) _
      refine At.enter rfl ?_
      refine r_aload_n rfl ?_
      refine r_iconst 0 rfl ?_
      refine q_putI (Sh.int hI103.1 kx_0 rfl) rfl ?_
      have hI108 := HI.wI0 hI103 kx_0 rfl (p := 0) (b := 17) (v := 0) rfl
      have hF109 := Fr.wI (p := 0) (b := 17) (v := 0) hF107 rfl
      refine r_iload_n rfl ?_
      refine q_ireti ?_
      refine At.enter rfl ?_
      refine r_ireti ?_
      have x110 := HI.eqI hI108 (p := 1) (b := 4) ((((gI_sI_ne (by decide)).trans (hF104.1 1 4 (by decide))).trans hv100))
      have x111 := HI.eqI hI0 (p := 1) (b := 4) (hv80)
      exact ⟨_, rfl, hI108, hF109, _, rfl, by omega, ⟨⟨by omega, by omega⟩, (by intro i i0 i1; exact (Decidable.em ((0 ≤ a1.toInt ∧ a1.toInt < (gI g0 1 4).toInt) ∧ 6 * a1.toInt ≤ i ∧ i < 6 * (gI g0 1 4).toInt - 6)).elim (fun k129_ => by refine Eq.trans ?_ (if_pos k129_).symm; refine (eA_ti (((gA_sI).trans (hF104.2.1 5 (by decide))))).trans ?_; refine ((hr97.2.2 (i) (by omega) (by omega))).trans ?_; exact (Decidable.em ((0 ≤ a1.toInt ∧ a1.toInt < (gI g0 1 4).toInt) ∧ 6 * a1.toInt ≤ (i) ∧ (i) < 6 * (gI g0 1 4).toInt - 6)).elim (fun k130_ => by refine (if_pos k130_).trans ?_; (first | rfl | exact eA_ix (by omega) | omega)) (fun k130_ => by refine (if_neg k130_).trans ?_; (first | rfl | exact eA_ix (by omega) | omega))) (fun k129_ => by refine Eq.trans ?_ (if_neg k129_).symm; refine (eA_ti (((gA_sI).trans (hF104.2.1 5 (by decide))))).trans ?_; refine ((hr97.2.2 (i) (by omega) (by omega))).trans ?_; exact (Decidable.em ((0 ≤ a1.toInt ∧ a1.toInt < (gI g0 1 4).toInt) ∧ 6 * a1.toInt ≤ (i) ∧ (i) < 6 * (gI g0 1 4).toInt - 6)).elim (fun k131_ => by refine (if_pos k131_).trans ?_; (first | rfl | exact eA_ix (by omega) | omega)) (fun k131_ => by refine (if_neg k131_).trans ?_; (first | rfl | exact eA_ix (by omega) | omega))))⟩⟩

def zF_X10_feed_0 : List (Nat × Nat) := [(174, 1)]
def zA_X10_feed_0 : List Nat := [175]
set_option maxRecDepth 100000 in
set_option maxHeartbeats 4000000 in
theorem zT_X10_feed_0 (d : Nat) {N : Nat} {g0 : List en_E} (hI0 : HI g0) (a1 : Int32) (a2 : Int32) (a3 : Int32) (a4 : Int32) (a5 : Int32) : Ev (d + 2) 111 [.ref 0, .int a1, .int a2, .int a3, .int a4, .int a5] (g0, N) (fun w h' => ∃ g', h' = (g', N) ∧ HI g' ∧ Fr zF_X10_feed_0 zA_X10_feed_0 g0 g' ∧ ∃ r : Int32, w = some (.int r) ∧ ((-1) ≤ r.toInt ∧ r.toInt ≤ 400) ∧ (((380 < (gI g0 174 1).toInt → r.toInt = -1 ∧ (gI g' 174 1).toInt = (gI g0 174 1).toInt) ∧ ((gI g0 174 1).toInt ≤ 380 → r.toInt = (gI g0 174 1).toInt + 20 ∧ (gI g' 174 1).toInt = (gI g0 174 1).toInt + 20)) ∧ (∀ i : Int, 0 ≤ i → i < 400 → (eA g' 175 (i)).toInt = if (gI g0 174 1).toInt ≤ 380 ∧ (gI g0 174 1).toInt + 0 ≤ i ∧ i < (gI g0 174 1).toInt + 4 then BYT a1 (i - (gI g0 174 1).toInt - 0) else if (gI g0 174 1).toInt ≤ 380 ∧ (gI g0 174 1).toInt + 4 ≤ i ∧ i < (gI g0 174 1).toInt + 8 then BYT a2 (i - (gI g0 174 1).toInt - 4) else if (gI g0 174 1).toInt ≤ 380 ∧ (gI g0 174 1).toInt + 8 ≤ i ∧ i < (gI g0 174 1).toInt + 12 then BYT a3 (i - (gI g0 174 1).toInt - 8) else if (gI g0 174 1).toInt ≤ 380 ∧ (gI g0 174 1).toInt + 12 ≤ i ∧ i < (gI g0 174 1).toInt + 16 then BYT a4 (i - (gI g0 174 1).toInt - 12) else if (gI g0 174 1).toInt ≤ 380 ∧ (gI g0 174 1).toInt + 16 ≤ i ∧ i < (gI g0 174 1).toInt + 20 then BYT a5 (i - (gI g0 174 1).toInt - 16) else (eA g0 175 (i)).toInt))) := by
  have hF0 : Fr zF_X10_feed_0 zA_X10_feed_0 g0 g0 := Fr.rf
  refine Ev.mk rfl rfl ⟨Nat.le_of_ble_eq_true rfl, Or.inr (q_rc hI0.1 kx_0 rfl)⟩ ?_
  show At _ none _ _ (0, [(0, .ref 0), (1, .int a1), (2, .int a2), (3, .int a3), (4, .int a4), (5, .int a5)], [], (_, _)) _
  refine At.enter rfl ?_
  refine r_aload_n rfl ?_
  refine q_getR (Sh.ref hI0.1 kx_0 rfl) ?_
  obtain ⟨v97, hv97⟩ : ∃ v, gI g0 174 1 = v := ⟨_, rfl⟩
  have rv97 := RgF.at hI0.2.1 (p := 174) (b := 1) rfl
  rw [hv97] at rv97
  dsimp only at rv97
  refine q_getI (Sh.int hI0.1 kx_174 rfl) v97 hv97 ?_
  refine r_bipush 20 rfl ?_
  refine q_iadd (v97.toInt + 20) rfl (by omega) (fun v98 hv98 => ?_)
  refine r_sipush 400 rfl ?_
  refine r_ics 16 rfl (fun c99 => ?_) (fun c99 => ?_)
  · have c99_ : v98.toInt ≤ 400 := en_i_le_t c99
    refine At.enter rfl ?_
    refine r_aload_n rfl ?_
    refine q_getR (Sh.ref hI0.1 kx_0 rfl) ?_
    refine r_iload_n rfl ?_
    refine r_callV 26 rfl [.ref 174, .int a1] [] (Nat.le_of_ble_eq_true rfl) rfl (zT_X8_append_174 _ hI0 a1) ?_
    rintro _ _ ⟨g100, rfl, hI101, hF102, rfl, hr104⟩
    refine At.stn ?_
    have hF105 := Fr.tr hF0 hF102 rfl rfl
    have x106 := HI.eqI hI0 (p := 174) (b := 1) (hv97)
    obtain ⟨v107, hv107⟩ : ∃ v, gI g100 174 1 = v := ⟨_, rfl⟩
    have rv107 := RgF.at hI101.2.1 (p := 174) (b := 1) rfl
    rw [hv107] at rv107
    dsimp only at rv107
    have tv107 := congrArg Int32.toInt hv107
    have x108 := HI.eqI hI101 (p := 174) (b := 1) (hv107)
    refine At.enter rfl ?_
    refine r_aload_n rfl ?_
    refine q_getR (Sh.ref hI101.1 kx_0 rfl) ?_
    refine r_iload_n rfl ?_
    refine r_callV 34 rfl [.ref 174, .int a2] [] (Nat.le_of_ble_eq_true rfl) rfl (zT_X8_append_174 _ hI101 a2) ?_
    rintro _ _ ⟨g109, rfl, hI110, hF111, rfl, hr113⟩
    refine At.stn ?_
    have hF114 := Fr.tr hF105 hF111 rfl rfl
    have x115 := HI.eqI hI101 (p := 174) (b := 1) (hv107)
    obtain ⟨v116, hv116⟩ : ∃ v, gI g109 174 1 = v := ⟨_, rfl⟩
    have rv116 := RgF.at hI110.2.1 (p := 174) (b := 1) rfl
    rw [hv116] at rv116
    dsimp only at rv116
    have tv116 := congrArg Int32.toInt hv116
    have x117 := HI.eqI hI110 (p := 174) (b := 1) (hv116)
    refine At.enter rfl ?_
    refine r_aload_n rfl ?_
    refine q_getR (Sh.ref hI110.1 kx_0 rfl) ?_
    refine r_iload_n rfl ?_
    refine r_callV 42 rfl [.ref 174, .int a3] [] (Nat.le_of_ble_eq_true rfl) rfl (zT_X8_append_174 _ hI110 a3) ?_
    rintro _ _ ⟨g118, rfl, hI119, hF120, rfl, hr122⟩
    refine At.stn ?_
    have hF123 := Fr.tr hF114 hF120 rfl rfl
    have x124 := HI.eqI hI110 (p := 174) (b := 1) (hv116)
    obtain ⟨v125, hv125⟩ : ∃ v, gI g118 174 1 = v := ⟨_, rfl⟩
    have rv125 := RgF.at hI119.2.1 (p := 174) (b := 1) rfl
    rw [hv125] at rv125
    dsimp only at rv125
    have tv125 := congrArg Int32.toInt hv125
    have x126 := HI.eqI hI119 (p := 174) (b := 1) (hv125)
    refine At.enter rfl ?_
    refine r_aload_n rfl ?_
    refine q_getR (Sh.ref hI119.1 kx_0 rfl) ?_
    refine r_iload rfl ?_
    refine r_callV 51 rfl [.ref 174, .int a4] [] (Nat.le_of_ble_eq_true rfl) rfl (zT_X8_append_174 _ hI119 a4) ?_
    rintro _ _ ⟨g127, rfl, hI128, hF129, rfl, hr131⟩
    refine At.stn ?_
    have hF132 := Fr.tr hF123 hF129 rfl rfl
    have x133 := HI.eqI hI119 (p := 174) (b := 1) (hv125)
    obtain ⟨v134, hv134⟩ : ∃ v, gI g127 174 1 = v := ⟨_, rfl⟩
    have rv134 := RgF.at hI128.2.1 (p := 174) (b := 1) rfl
    rw [hv134] at rv134
    dsimp only at rv134
    have tv134 := congrArg Int32.toInt hv134
    have x135 := HI.eqI hI128 (p := 174) (b := 1) (hv134)
    refine At.enter rfl ?_
    refine r_aload_n rfl ?_
    refine q_getR (Sh.ref hI128.1 kx_0 rfl) ?_
    refine r_iload rfl ?_
    refine r_callV 60 rfl [.ref 174, .int a5] [] (Nat.le_of_ble_eq_true rfl) rfl (zT_X8_append_174 _ hI128 a5) ?_
    rintro _ _ ⟨g136, rfl, hI137, hF138, rfl, hr140⟩
    refine At.stn ?_
    have hF141 := Fr.tr hF132 hF138 rfl rfl
    have x142 := HI.eqI hI128 (p := 174) (b := 1) (hv134)
    obtain ⟨v143, hv143⟩ : ∃ v, gI g136 174 1 = v := ⟨_, rfl⟩
    have rv143 := RgF.at hI137.2.1 (p := 174) (b := 1) rfl
    rw [hv143] at rv143
    dsimp only at rv143
    have tv143 := congrArg Int32.toInt hv143
    have x144 := HI.eqI hI137 (p := 174) (b := 1) (hv143)
    refine At.enter rfl ?_
    refine r_aload_n rfl ?_
    refine q_getR (Sh.ref hI137.1 kx_0 rfl) ?_
    refine q_getI (Sh.int hI137.1 kx_174 rfl) v143 hv143 ?_
    refine r_ireti ?_
    have x145 := HI.eqI hI137 (p := 174) (b := 1) (hv143)
    have x146 := HI.eqI hI0 (p := 174) (b := 1) (hv97)
    exact ⟨_, rfl, hI137, hF141, _, rfl, by omega, ⟨(by omega), (by intro i i0 i1; exact (Decidable.em ((gI g0 174 1).toInt ≤ 380 ∧ (gI g0 174 1).toInt + 0 ≤ i ∧ i < (gI g0 174 1).toInt + 4)).elim (fun k132_ => by refine Eq.trans ?_ (if_pos k132_).symm; refine (((hr140.2 (by omega)) (i) (by omega) (by omega))).trans ?_; exact (Decidable.em ((gI g127 174 1).toInt ≤ (i) ∧ (i) < (gI g127 174 1).toInt + 4)).elim (fun k137_ => by refine (if_pos k137_).trans ?_; (first | rfl | exact eA_ix (by omega) | omega)) (fun k137_ => by refine (if_neg k137_).trans ?_; refine (((hr131.2 (by omega)) ((i)) (by omega) (by omega))).trans ?_; exact (Decidable.em ((gI g118 174 1).toInt ≤ ((i)) ∧ ((i)) < (gI g118 174 1).toInt + 4)).elim (fun k136_ => by refine (if_pos k136_).trans ?_; (first | rfl | exact eA_ix (by omega) | omega)) (fun k136_ => by refine (if_neg k136_).trans ?_; refine (((hr122.2 (by omega)) (((i))) (by omega) (by omega))).trans ?_; exact (Decidable.em ((gI g109 174 1).toInt ≤ (((i))) ∧ (((i))) < (gI g109 174 1).toInt + 4)).elim (fun k135_ => by refine (if_pos k135_).trans ?_; (first | rfl | exact eA_ix (by omega) | omega)) (fun k135_ => by refine (if_neg k135_).trans ?_; refine (((hr113.2 (by omega)) ((((i)))) (by omega) (by omega))).trans ?_; exact (Decidable.em ((gI g100 174 1).toInt ≤ ((((i)))) ∧ ((((i)))) < (gI g100 174 1).toInt + 4)).elim (fun k134_ => by refine (if_pos k134_).trans ?_; (first | rfl | exact eA_ix (by omega) | omega)) (fun k134_ => by refine (if_neg k134_).trans ?_; refine (((hr104.2 (by omega)) (((((i))))) (by omega) (by omega))).trans ?_; exact (Decidable.em ((gI g0 174 1).toInt ≤ (((((i))))) ∧ (((((i))))) < (gI g0 174 1).toInt + 4)).elim (fun k133_ => by refine (if_pos k133_).trans ?_; (first | rfl | exact eA_ix (by omega) | omega)) (fun k133_ => by refine (if_neg k133_).trans ?_; (first | rfl | exact eA_ix (by omega) | omega))))))) (fun k132_ => by refine Eq.trans ?_ (if_neg k132_).symm; exact (Decidable.em ((gI g0 174 1).toInt ≤ 380 ∧ (gI g0 174 1).toInt + 4 ≤ i ∧ i < (gI g0 174 1).toInt + 8)).elim (fun k138_ => by refine Eq.trans ?_ (if_pos k138_).symm; refine (((hr140.2 (by omega)) (i) (by omega) (by omega))).trans ?_; exact (Decidable.em ((gI g127 174 1).toInt ≤ (i) ∧ (i) < (gI g127 174 1).toInt + 4)).elim (fun k143_ => by refine (if_pos k143_).trans ?_; (first | rfl | exact eA_ix (by omega) | omega)) (fun k143_ => by refine (if_neg k143_).trans ?_; refine (((hr131.2 (by omega)) ((i)) (by omega) (by omega))).trans ?_; exact (Decidable.em ((gI g118 174 1).toInt ≤ ((i)) ∧ ((i)) < (gI g118 174 1).toInt + 4)).elim (fun k142_ => by refine (if_pos k142_).trans ?_; (first | rfl | exact eA_ix (by omega) | omega)) (fun k142_ => by refine (if_neg k142_).trans ?_; refine (((hr122.2 (by omega)) (((i))) (by omega) (by omega))).trans ?_; exact (Decidable.em ((gI g109 174 1).toInt ≤ (((i))) ∧ (((i))) < (gI g109 174 1).toInt + 4)).elim (fun k141_ => by refine (if_pos k141_).trans ?_; (first | rfl | exact eA_ix (by omega) | omega)) (fun k141_ => by refine (if_neg k141_).trans ?_; refine (((hr113.2 (by omega)) ((((i)))) (by omega) (by omega))).trans ?_; exact (Decidable.em ((gI g100 174 1).toInt ≤ ((((i)))) ∧ ((((i)))) < (gI g100 174 1).toInt + 4)).elim (fun k140_ => by refine (if_pos k140_).trans ?_; (first | rfl | exact eA_ix (by omega) | omega)) (fun k140_ => by refine (if_neg k140_).trans ?_; refine (((hr104.2 (by omega)) (((((i))))) (by omega) (by omega))).trans ?_; exact (Decidable.em ((gI g0 174 1).toInt ≤ (((((i))))) ∧ (((((i))))) < (gI g0 174 1).toInt + 4)).elim (fun k139_ => by refine (if_pos k139_).trans ?_; (first | rfl | exact eA_ix (by omega) | omega)) (fun k139_ => by refine (if_neg k139_).trans ?_; (first | rfl | exact eA_ix (by omega) | omega))))))) (fun k138_ => by refine Eq.trans ?_ (if_neg k138_).symm; exact (Decidable.em ((gI g0 174 1).toInt ≤ 380 ∧ (gI g0 174 1).toInt + 8 ≤ i ∧ i < (gI g0 174 1).toInt + 12)).elim (fun k144_ => by refine Eq.trans ?_ (if_pos k144_).symm; refine (((hr140.2 (by omega)) (i) (by omega) (by omega))).trans ?_; exact (Decidable.em ((gI g127 174 1).toInt ≤ (i) ∧ (i) < (gI g127 174 1).toInt + 4)).elim (fun k149_ => by refine (if_pos k149_).trans ?_; (first | rfl | exact eA_ix (by omega) | omega)) (fun k149_ => by refine (if_neg k149_).trans ?_; refine (((hr131.2 (by omega)) ((i)) (by omega) (by omega))).trans ?_; exact (Decidable.em ((gI g118 174 1).toInt ≤ ((i)) ∧ ((i)) < (gI g118 174 1).toInt + 4)).elim (fun k148_ => by refine (if_pos k148_).trans ?_; (first | rfl | exact eA_ix (by omega) | omega)) (fun k148_ => by refine (if_neg k148_).trans ?_; refine (((hr122.2 (by omega)) (((i))) (by omega) (by omega))).trans ?_; exact (Decidable.em ((gI g109 174 1).toInt ≤ (((i))) ∧ (((i))) < (gI g109 174 1).toInt + 4)).elim (fun k147_ => by refine (if_pos k147_).trans ?_; (first | rfl | exact eA_ix (by omega) | omega)) (fun k147_ => by refine (if_neg k147_).trans ?_; refine (((hr113.2 (by omega)) ((((i)))) (by omega) (by omega))).trans ?_; exact (Decidable.em ((gI g100 174 1).toInt ≤ ((((i)))) ∧ ((((i)))) < (gI g100 174 1).toInt + 4)).elim (fun k146_ => by refine (if_pos k146_).trans ?_; (first | rfl | exact eA_ix (by omega) | omega)) (fun k146_ => by refine (if_neg k146_).trans ?_; refine (((hr104.2 (by omega)) (((((i))))) (by omega) (by omega))).trans ?_; exact (Decidable.em ((gI g0 174 1).toInt ≤ (((((i))))) ∧ (((((i))))) < (gI g0 174 1).toInt + 4)).elim (fun k145_ => by refine (if_pos k145_).trans ?_; (first | rfl | exact eA_ix (by omega) | omega)) (fun k145_ => by refine (if_neg k145_).trans ?_; (first | rfl | exact eA_ix (by omega) | omega))))))) (fun k144_ => by refine Eq.trans ?_ (if_neg k144_).symm; exact (Decidable.em ((gI g0 174 1).toInt ≤ 380 ∧ (gI g0 174 1).toInt + 12 ≤ i ∧ i < (gI g0 174 1).toInt + 16)).elim (fun k150_ => by refine Eq.trans ?_ (if_pos k150_).symm; refine (((hr140.2 (by omega)) (i) (by omega) (by omega))).trans ?_; exact (Decidable.em ((gI g127 174 1).toInt ≤ (i) ∧ (i) < (gI g127 174 1).toInt + 4)).elim (fun k155_ => by refine (if_pos k155_).trans ?_; (first | rfl | exact eA_ix (by omega) | omega)) (fun k155_ => by refine (if_neg k155_).trans ?_; refine (((hr131.2 (by omega)) ((i)) (by omega) (by omega))).trans ?_; exact (Decidable.em ((gI g118 174 1).toInt ≤ ((i)) ∧ ((i)) < (gI g118 174 1).toInt + 4)).elim (fun k154_ => by refine (if_pos k154_).trans ?_; (first | rfl | exact eA_ix (by omega) | omega)) (fun k154_ => by refine (if_neg k154_).trans ?_; refine (((hr122.2 (by omega)) (((i))) (by omega) (by omega))).trans ?_; exact (Decidable.em ((gI g109 174 1).toInt ≤ (((i))) ∧ (((i))) < (gI g109 174 1).toInt + 4)).elim (fun k153_ => by refine (if_pos k153_).trans ?_; (first | rfl | exact eA_ix (by omega) | omega)) (fun k153_ => by refine (if_neg k153_).trans ?_; refine (((hr113.2 (by omega)) ((((i)))) (by omega) (by omega))).trans ?_; exact (Decidable.em ((gI g100 174 1).toInt ≤ ((((i)))) ∧ ((((i)))) < (gI g100 174 1).toInt + 4)).elim (fun k152_ => by refine (if_pos k152_).trans ?_; (first | rfl | exact eA_ix (by omega) | omega)) (fun k152_ => by refine (if_neg k152_).trans ?_; refine (((hr104.2 (by omega)) (((((i))))) (by omega) (by omega))).trans ?_; exact (Decidable.em ((gI g0 174 1).toInt ≤ (((((i))))) ∧ (((((i))))) < (gI g0 174 1).toInt + 4)).elim (fun k151_ => by refine (if_pos k151_).trans ?_; (first | rfl | exact eA_ix (by omega) | omega)) (fun k151_ => by refine (if_neg k151_).trans ?_; (first | rfl | exact eA_ix (by omega) | omega))))))) (fun k150_ => by refine Eq.trans ?_ (if_neg k150_).symm; exact (Decidable.em ((gI g0 174 1).toInt ≤ 380 ∧ (gI g0 174 1).toInt + 16 ≤ i ∧ i < (gI g0 174 1).toInt + 20)).elim (fun k156_ => by refine Eq.trans ?_ (if_pos k156_).symm; refine (((hr140.2 (by omega)) (i) (by omega) (by omega))).trans ?_; exact (Decidable.em ((gI g127 174 1).toInt ≤ (i) ∧ (i) < (gI g127 174 1).toInt + 4)).elim (fun k161_ => by refine (if_pos k161_).trans ?_; (first | rfl | exact eA_ix (by omega) | omega)) (fun k161_ => by refine (if_neg k161_).trans ?_; refine (((hr131.2 (by omega)) ((i)) (by omega) (by omega))).trans ?_; exact (Decidable.em ((gI g118 174 1).toInt ≤ ((i)) ∧ ((i)) < (gI g118 174 1).toInt + 4)).elim (fun k160_ => by refine (if_pos k160_).trans ?_; (first | rfl | exact eA_ix (by omega) | omega)) (fun k160_ => by refine (if_neg k160_).trans ?_; refine (((hr122.2 (by omega)) (((i))) (by omega) (by omega))).trans ?_; exact (Decidable.em ((gI g109 174 1).toInt ≤ (((i))) ∧ (((i))) < (gI g109 174 1).toInt + 4)).elim (fun k159_ => by refine (if_pos k159_).trans ?_; (first | rfl | exact eA_ix (by omega) | omega)) (fun k159_ => by refine (if_neg k159_).trans ?_; refine (((hr113.2 (by omega)) ((((i)))) (by omega) (by omega))).trans ?_; exact (Decidable.em ((gI g100 174 1).toInt ≤ ((((i)))) ∧ ((((i)))) < (gI g100 174 1).toInt + 4)).elim (fun k158_ => by refine (if_pos k158_).trans ?_; (first | rfl | exact eA_ix (by omega) | omega)) (fun k158_ => by refine (if_neg k158_).trans ?_; refine (((hr104.2 (by omega)) (((((i))))) (by omega) (by omega))).trans ?_; exact (Decidable.em ((gI g0 174 1).toInt ≤ (((((i))))) ∧ (((((i))))) < (gI g0 174 1).toInt + 4)).elim (fun k157_ => by refine (if_pos k157_).trans ?_; (first | rfl | exact eA_ix (by omega) | omega)) (fun k157_ => by refine (if_neg k157_).trans ?_; (first | rfl | exact eA_ix (by omega) | omega))))))) (fun k156_ => by refine Eq.trans ?_ (if_neg k156_).symm; refine (((hr140.2 (by omega)) (i) (by omega) (by omega))).trans ?_; exact (Decidable.em ((gI g127 174 1).toInt ≤ (i) ∧ (i) < (gI g127 174 1).toInt + 4)).elim (fun k166_ => by refine (if_pos k166_).trans ?_; (first | rfl | exact eA_ix (by omega) | omega)) (fun k166_ => by refine (if_neg k166_).trans ?_; refine (((hr131.2 (by omega)) ((i)) (by omega) (by omega))).trans ?_; exact (Decidable.em ((gI g118 174 1).toInt ≤ ((i)) ∧ ((i)) < (gI g118 174 1).toInt + 4)).elim (fun k165_ => by refine (if_pos k165_).trans ?_; (first | rfl | exact eA_ix (by omega) | omega)) (fun k165_ => by refine (if_neg k165_).trans ?_; refine (((hr122.2 (by omega)) (((i))) (by omega) (by omega))).trans ?_; exact (Decidable.em ((gI g109 174 1).toInt ≤ (((i))) ∧ (((i))) < (gI g109 174 1).toInt + 4)).elim (fun k164_ => by refine (if_pos k164_).trans ?_; (first | rfl | exact eA_ix (by omega) | omega)) (fun k164_ => by refine (if_neg k164_).trans ?_; refine (((hr113.2 (by omega)) ((((i)))) (by omega) (by omega))).trans ?_; exact (Decidable.em ((gI g100 174 1).toInt ≤ ((((i)))) ∧ ((((i)))) < (gI g100 174 1).toInt + 4)).elim (fun k163_ => by refine (if_pos k163_).trans ?_; (first | rfl | exact eA_ix (by omega) | omega)) (fun k163_ => by refine (if_neg k163_).trans ?_; refine (((hr104.2 (by omega)) (((((i))))) (by omega) (by omega))).trans ?_; exact (Decidable.em ((gI g0 174 1).toInt ≤ (((((i))))) ∧ (((((i))))) < (gI g0 174 1).toInt + 4)).elim (fun k162_ => by refine (if_pos k162_).trans ?_; (first | rfl | exact eA_ix (by omega) | omega)) (fun k162_ => by refine (if_neg k162_).trans ?_; (first | rfl | exact eA_ix (by omega) | omega))))))))))))⟩⟩
  · have c99_ : v98.toInt > 400 := en_i_le_f c99
    refine At.enter rfl ?_
    refine r_iconst (-1) rfl ?_
    refine r_ireti ?_
    have zv147 : ((-1) : Int32).toInt = (-1) := rfl
    have x148 := HI.eqI hI0 (p := 174) (b := 1) (hv97)
    have x149 := HI.eqI hI0 (p := 174) (b := 1) (hv97)
    exact ⟨_, rfl, hI0, hF0, _, rfl, by decide, ⟨(by omega), (by intro i i0 i1; refine Eq.trans ?_ (if_neg (show ¬ ((gI g0 174 1).toInt ≤ 380 ∧ (gI g0 174 1).toInt + 0 ≤ i ∧ i < (gI g0 174 1).toInt + 4) from by omega)).symm; refine Eq.trans ?_ (if_neg (show ¬ ((gI g0 174 1).toInt ≤ 380 ∧ (gI g0 174 1).toInt + 4 ≤ i ∧ i < (gI g0 174 1).toInt + 8) from by omega)).symm; refine Eq.trans ?_ (if_neg (show ¬ ((gI g0 174 1).toInt ≤ 380 ∧ (gI g0 174 1).toInt + 8 ≤ i ∧ i < (gI g0 174 1).toInt + 12) from by omega)).symm; refine Eq.trans ?_ (if_neg (show ¬ ((gI g0 174 1).toInt ≤ 380 ∧ (gI g0 174 1).toInt + 12 ≤ i ∧ i < (gI g0 174 1).toInt + 16) from by omega)).symm; refine Eq.trans ?_ (if_neg (show ¬ ((gI g0 174 1).toInt ≤ 380 ∧ (gI g0 174 1).toInt + 16 ≤ i ∧ i < (gI g0 174 1).toInt + 20) from by omega)).symm; (first | rfl | exact eA_ix (by omega) | omega))⟩⟩

def zF_X10_dropped_0 : List (Nat × Nat) := []
def zA_X10_dropped_0 : List Nat := []
set_option maxRecDepth 100000 in
set_option maxHeartbeats 4000000 in
theorem zT_X10_dropped_0 (d : Nat) {N : Nat} {g0 : List en_E} (hI0 : HI g0) : Ev (d + 1) 114 [.ref 0] (g0, N) (fun w h' => ∃ g', h' = (g', N) ∧ HI g' ∧ Fr zF_X10_dropped_0 zA_X10_dropped_0 g0 g' ∧ ∃ r : Int32, w = some (.int r) ∧ True ∧ (r.toInt = (gI g0 0 16).toInt)) := by
  have hF0 : Fr zF_X10_dropped_0 zA_X10_dropped_0 g0 g0 := Fr.rf
  refine Ev.mk rfl rfl ⟨Nat.le_of_ble_eq_true rfl, Or.inr (q_rc hI0.1 kx_0 rfl)⟩ ?_
  show At _ none _ _ (0, [(0, .ref 0)], [], (_, _)) _
  refine At.enter rfl ?_
  refine r_aload_n rfl ?_
  obtain ⟨v3, hv3⟩ : ∃ v, gI g0 0 16 = v := ⟨_, rfl⟩
  refine q_getI (Sh.int hI0.1 kx_0 rfl) v3 hv3 ?_
  refine r_ireti ?_
  have x4 := HI.eqI hI0 (p := 0) (b := 16) (hv3)
  exact ⟨_, rfl, hI0, hF0, _, rfl, trivial, (by omega)⟩

def zF_X10_way_0 : List (Nat × Nat) := []
def zA_X10_way_0 : List Nat := []
set_option maxRecDepth 100000 in
set_option maxHeartbeats 4000000 in
theorem zT_X10_way_0 (d : Nat) {N : Nat} {g0 : List en_E} (hI0 : HI g0) (a1 : Int32) (a2 : Int32) : Ev (d + 5) 118 [.ref 0, .int a1, .int a2] (g0, N) (fun w h' => ∃ g', h' = (g', N) ∧ HI g' ∧ Fr zF_X10_way_0 zA_X10_way_0 g0 g' ∧ ∃ r : Int32, w = some (.int r) ∧ True ∧ ((¬ (0 ≤ a1.toInt ∧ a1.toInt < (gI g0 1 4).toInt) → r.toInt = -1) ∧ ((0 ≤ a1.toInt ∧ a1.toInt < (gI g0 1 4).toInt) → (eA g0 5 (6 * a1.toInt + 2)).toInt ≠ -1 → WAYA (NX g0) 11 (eA g0 5 (6 * a1.toInt + 1)).toInt (eA g0 5 (6 * a1.toInt + 2)).toInt a2.toInt r.toInt))) := by
  have hF0 : Fr zF_X10_way_0 zA_X10_way_0 g0 g0 := Fr.rf
  refine Ev.mk rfl rfl ⟨Nat.le_of_ble_eq_true rfl, Or.inr (q_rc hI0.1 kx_0 rfl)⟩ ?_
  show At _ none _ _ (0, [(0, .ref 0), (1, .int a1), (2, .int a2)], [], (_, _)) _
  refine At.enter rfl ?_
  refine r_aload_n rfl ?_
  refine q_getR (Sh.ref hI0.1 kx_0 rfl) ?_
  refine r_iload_n rfl ?_
  refine q_inlV 8 rfl [.ref 1, .int a1] [] (Nat.le_of_ble_eq_true rfl) rfl ?_
  refine Ev.mk rfl rfl ⟨Nat.le_of_ble_eq_true rfl, Or.inr (q_rc hI0.1 kx_1 rfl)⟩ ?_
  show At _ none _ _ (0, [(0, .ref 1), (1, .int a1)], [], (_, _)) _
  refine At.enter rfl ?_
  refine r_iload_n rfl ?_
  refine r_ifs 4 rfl (fun c37 => ?_) (fun c37 => ?_)
  · have c37_ : a1.toInt < 0 := en_k_lt_t c37
    refine At.enter rfl ?_
    refine r_iconst 0 rfl ?_
    refine Ar.fall 17 rfl ?_
    refine At.enter rfl ?_
    refine q_iretz (by decide) ?_
    refine At.enter rfl ?_
    refine r_iff 11 rfl (by decide) ?_
    refine At.enter rfl ?_
    refine r_iconst (-1) rfl ?_
    refine r_ireti ?_
    have zv38 : ((-1) : Int32).toInt = (-1) := rfl
    obtain ⟨v39, hv39⟩ : ∃ v, gI g0 1 4 = v := ⟨_, rfl⟩
    have rv39 := RgF.at hI0.2.1 (p := 1) (b := 4) rfl
    rw [hv39] at rv39
    dsimp only at rv39
    have tv39 := congrArg Int32.toInt hv39
    have x40 := HI.eqI hI0 (p := 1) (b := 4) (hv39)
    exact ⟨_, rfl, hI0, hF0, _, rfl, trivial, ⟨fun _ => by omega, fun h => absurd h (by omega)⟩⟩
  · have c37_ : a1.toInt ≥ 0 := en_k_lt_f c37
    refine At.enter rfl ?_
    refine r_iload_n rfl ?_
    refine r_aload_n rfl ?_
    obtain ⟨v41, hv41⟩ : ∃ v, gI g0 1 4 = v := ⟨_, rfl⟩
    have rv41 := RgF.at hI0.2.1 (p := 1) (b := 4) rfl
    rw [hv41] at rv41
    dsimp only at rv41
    refine q_getI (Sh.int hI0.1 kx_1 rfl) v41 hv41 ?_
    have bv43 := q_bnd a1
    have bv44 := q_bnd v41
    refine r_ics 12 rfl (fun c42 => ?_) (fun c42 => ?_)
    · have c42_ : a1.toInt ≥ v41.toInt := en_i_ge_t c42
      refine At.enter rfl ?_
      refine r_iconst 0 rfl ?_
      refine Ar.fall 17 rfl ?_
      refine At.enter rfl ?_
      refine q_iretz (by decide) ?_
      refine At.enter rfl ?_
      refine r_iff 11 rfl (by decide) ?_
      refine At.enter rfl ?_
      refine r_iconst (-1) rfl ?_
      refine r_ireti ?_
      have zv45 : ((-1) : Int32).toInt = (-1) := rfl
      have x46 := HI.eqI hI0 (p := 1) (b := 4) (hv41)
      exact ⟨_, rfl, hI0, hF0, _, rfl, trivial, ⟨fun _ => by omega, fun h => absurd h (by omega)⟩⟩
    · have c42_ : a1.toInt < v41.toInt := en_i_ge_f c42
      refine At.enter rfl ?_
      refine r_iconst 1 rfl ?_
      refine r_goto ?_
      refine At.enter rfl ?_
      refine q_iretz (by decide) ?_
      refine At.enter rfl ?_
      refine r_ift (by decide) ?_
      refine At.enter rfl ?_
      refine r_iload_n rfl ?_
      refine r_iconst (-1) rfl ?_
      refine r_ics 18 rfl (fun c47 => ?_) (fun c47 => ?_)
      · have c47_ : a2.toInt ≠ (-1) := en_i_ne_t c47
        refine At.enter rfl ?_
        refine r_aload_n rfl ?_
        refine q_getR (Sh.ref hI0.1 kx_0 rfl) ?_
        refine r_iload_n rfl ?_
        refine r_iload_n rfl ?_
        refine r_callV 38 rfl [.ref 184, .int a1, .int a2] [] (Nat.le_of_ble_eq_true rfl) rfl (zT_X9_standOf_184 _ hI0 a1 a2) ?_
        rintro _ _ ⟨g48, rfl, hI49, hF50, v51, rfl, hr52⟩
        refine At.sti ?_
        have hF53 := Fr.tr hF0 hF50 rfl rfl
        refine At.enter rfl ?_
        refine r_ireti ?_
        have x54 := HI.eqI hI0 (p := 1) (b := 4) (hv41)
        exact ⟨_, rfl, hI49, hF53, _, rfl, trivial, ⟨fun h => absurd h (by omega), fun h hw => hr52.2 h hw (by omega)⟩⟩
      · have c47_ : a2.toInt = (-1) := en_i_ne_f c47
        refine At.enter rfl ?_
        refine r_aload_n rfl ?_
        refine q_getR (Sh.ref hI0.1 kx_0 rfl) ?_
        refine r_iload_n rfl ?_
        refine r_callV 26 rfl [.ref 1, .int a1] [] (Nat.le_of_ble_eq_true rfl) rfl (zT_X0_handsOf_1 _ hI0 a1) ?_
        rintro _ _ ⟨g55, rfl, hI56, hF57, v58, rfl, hr59⟩
        refine At.sti ?_
        have hF60 := Fr.tr hF0 hF57 rfl rfl
        refine At.enter rfl ?_
        refine r_goto ?_
        refine At.enter rfl ?_
        refine r_ireti ?_
        have x61 := HI.eqI hI0 (p := 1) (b := 4) (hv41)
        exact ⟨_, rfl, hI56, hF60, _, rfl, trivial, ⟨fun h => absurd h (by omega), fun h hw => WAYA.mk v58.toInt (hr59.2 h hw) (fun _ => by omega) (fun c => absurd c.1 (by omega)) (fun c => absurd c.1 (by omega))⟩⟩

def zF_X10_enter_0 : List (Nat × Nat) := []
def zA_X10_enter_0 : List Nat := []
set_option maxRecDepth 100000 in
set_option maxHeartbeats 4000000 in
theorem zT_X10_enter_0 (d : Nat) {N : Nat} {g0 : List en_E} (hI0 : HI g0) (a1 : Int32) (a2 : Int32) : Ev (d + 4) 119 [.ref 0, .int a1, .int a2] (g0, N) (fun w h' => ∃ g', h' = (g', N) ∧ HI g' ∧ Fr zF_X10_enter_0 zA_X10_enter_0 g0 g' ∧ ∃ r : Int32, w = some (.int r) ∧ True ∧ ((¬ ((0 ≤ a1.toInt ∧ a1.toInt < (gI g0 1 0).toInt) ∧ BIT a2 (gI g0 1 0).toInt) → r.toInt = -1) ∧ (((0 ≤ a1.toInt ∧ a1.toInt < (gI g0 1 0).toInt) ∧ BIT a2 (gI g0 1 0).toInt) → r.toInt = (ACI (RCI (NX g0) (hbI a2) a1.toInt 12) (gI g0 1 0).toInt).toInt))) := by
  have hF0 : Fr zF_X10_enter_0 zA_X10_enter_0 g0 g0 := Fr.rf
  refine Ev.mk rfl rfl ⟨Nat.le_of_ble_eq_true rfl, Or.inr (q_rc hI0.1 kx_0 rfl)⟩ ?_
  show At _ none _ _ (0, [(0, .ref 0), (1, .int a1), (2, .int a2)], [], (_, _)) _
  refine At.enter rfl ?_
  refine r_aload_n rfl ?_
  refine q_getR (Sh.ref hI0.1 kx_0 rfl) ?_
  refine r_iload_n rfl ?_
  refine q_inlV 8 rfl [.ref 1, .int a1] [] (Nat.le_of_ble_eq_true rfl) rfl ?_
  refine Ev.mk rfl rfl ⟨Nat.le_of_ble_eq_true rfl, Or.inr (q_rc hI0.1 kx_1 rfl)⟩ ?_
  show At _ none _ _ (0, [(0, .ref 1), (1, .int a1)], [], (_, _)) _
  refine At.enter rfl ?_
  refine r_iload_n rfl ?_
  refine r_ifs 4 rfl (fun c29 => ?_) (fun c29 => ?_)
  · have c29_ : a1.toInt < 0 := en_k_lt_t c29
    refine At.enter rfl ?_
    refine r_iconst 0 rfl ?_
    refine Ar.fall 17 rfl ?_
    refine At.enter rfl ?_
    refine q_iretz (by decide) ?_
    refine At.enter rfl ?_
    refine r_ift (by decide) ?_
    refine At.enter rfl ?_
    refine r_iconst (-1) rfl ?_
    refine Ar.fall 38 rfl ?_
    refine At.enter rfl ?_
    refine r_ireti ?_
    have zv30 : ((-1) : Int32).toInt = (-1) := rfl
    obtain ⟨v31, hv31⟩ : ∃ v, gI g0 1 0 = v := ⟨_, rfl⟩
    have rv31 := RgF.at hI0.2.1 (p := 1) (b := 0) rfl
    rw [hv31] at rv31
    dsimp only at rv31
    have tv31 := congrArg Int32.toInt hv31
    have x32 := HI.eqI hI0 (p := 1) (b := 0) (hv31)
    exact ⟨_, rfl, hI0, hF0, _, rfl, trivial, ⟨fun _ => by omega, fun h => by first | exact absurd h.1 (by omega) | exact absurd h.2.1 (by omega) | exact absurd ((show _ ↔ BIT a2 (gI g0 1 0).toInt from by rw [hv31]; exact BIT.x hNone (by omega) (by omega)).mpr h.2) (by omega)⟩⟩
  · have c29_ : a1.toInt ≥ 0 := en_k_lt_f c29
    refine At.enter rfl ?_
    refine r_iload_n rfl ?_
    refine r_aload_n rfl ?_
    obtain ⟨v33, hv33⟩ : ∃ v, gI g0 1 0 = v := ⟨_, rfl⟩
    have rv33 := RgF.at hI0.2.1 (p := 1) (b := 0) rfl
    rw [hv33] at rv33
    dsimp only at rv33
    refine q_getI (Sh.int hI0.1 kx_1 rfl) v33 hv33 ?_
    have bv35 := q_bnd a1
    have bv36 := q_bnd v33
    refine r_ics 12 rfl (fun c34 => ?_) (fun c34 => ?_)
    · have c34_ : a1.toInt ≥ v33.toInt := en_i_ge_t c34
      refine At.enter rfl ?_
      refine r_iconst 0 rfl ?_
      refine Ar.fall 17 rfl ?_
      refine At.enter rfl ?_
      refine q_iretz (by decide) ?_
      refine At.enter rfl ?_
      refine r_ift (by decide) ?_
      refine At.enter rfl ?_
      refine r_iconst (-1) rfl ?_
      refine Ar.fall 38 rfl ?_
      refine At.enter rfl ?_
      refine r_ireti ?_
      have zv37 : ((-1) : Int32).toInt = (-1) := rfl
      have x38 := HI.eqI hI0 (p := 1) (b := 0) (hv33)
      exact ⟨_, rfl, hI0, hF0, _, rfl, trivial, ⟨fun _ => by omega, fun h => by first | exact absurd h.1 (by omega) | exact absurd h.2.1 (by omega) | exact absurd ((show _ ↔ BIT a2 (gI g0 1 0).toInt from by rw [hv33]; exact BIT.x hNone (by omega) (by omega)).mpr h.2) (by omega)⟩⟩
    · have c34_ : a1.toInt < v33.toInt := en_i_ge_f c34
      refine At.enter rfl ?_
      refine r_iconst 1 rfl ?_
      refine r_goto ?_
      refine At.enter rfl ?_
      refine q_iretz (by decide) ?_
      refine At.enter rfl ?_
      refine r_iff 11 rfl (by decide) ?_
      refine At.enter rfl ?_
      refine r_iload_n rfl ?_
      refine r_aload_n rfl ?_
      refine q_getR (Sh.ref hI0.1 kx_0 rfl) ?_
      refine q_getI (Sh.int hI0.1 kx_1 rfl) v33 hv33 ?_
      refine q_inlS 22 rfl [.int a2, .int v33] [] (Nat.le_of_ble_eq_true rfl) rfl ?_
      refine Ev.mk rfl rfl ⟨Nat.le_of_ble_eq_true rfl, Or.inl rfl⟩ ?_
      show At _ none _ _ (0, [(0, .int a2), (1, .int v33)], [], (_, _)) _
      refine At.enter rfl ?_
      refine r_iload_n rfl ?_
      refine r_ifs 4 rfl (fun c39 => ?_) (fun c39 => ?_)
      · have c39_ : a2.toInt < 0 := en_k_lt_t c39
        refine At.enter rfl ?_
        refine r_iconst 0 rfl ?_
        refine Ar.fall 15 rfl ?_
        refine At.enter rfl ?_
        refine q_iretz (by decide) ?_
        refine At.enter rfl ?_
        refine r_ift (by decide) ?_
        refine At.enter rfl ?_
        refine r_iconst (-1) rfl ?_
        refine Ar.fall 38 rfl ?_
        refine At.enter rfl ?_
        refine r_ireti ?_
        have zv40 : ((-1) : Int32).toInt = (-1) := rfl
        have x41 := HI.eqI hI0 (p := 1) (b := 0) (hv33)
        exact ⟨_, rfl, hI0, hF0, _, rfl, trivial, ⟨fun _ => by omega, fun h => by first | exact absurd h.1 (by omega) | exact absurd h.2.1 (by omega) | exact absurd ((show _ ↔ BIT a2 (gI g0 1 0).toInt from by rw [hv33]; exact BIT.x hNone (by omega) (by omega)).mpr h.2) (by omega)⟩⟩
      · have c39_ : a2.toInt ≥ 0 := en_k_lt_f c39
        refine At.enter rfl ?_
        refine r_iload_n rfl ?_
        refine r_iload_n rfl ?_
        refine q_ishrO (fun v42 hv42 => ?_)
        refine r_ifs 10 rfl (fun c43 => ?_) (fun c43 => ?_)
        · have c43_ : v42.toInt ≠ 0 := en_k_ne_t c43
          refine At.enter rfl ?_
          refine r_iconst 0 rfl ?_
          refine Ar.fall 15 rfl ?_
          refine At.enter rfl ?_
          refine q_iretz (by decide) ?_
          refine At.enter rfl ?_
          refine r_ift (by decide) ?_
          refine At.enter rfl ?_
          refine r_iconst (-1) rfl ?_
          refine Ar.fall 38 rfl ?_
          refine At.enter rfl ?_
          refine r_ireti ?_
          have zv44 : ((-1) : Int32).toInt = (-1) := rfl
          have x45 := HI.eqI hI0 (p := 1) (b := 0) (hv33)
          exact ⟨_, rfl, hI0, hF0, _, rfl, trivial, ⟨fun _ => by omega, fun h => by first | exact absurd h.1 (by omega) | exact absurd h.2.1 (by omega) | exact absurd ((show _ ↔ BIT a2 (gI g0 1 0).toInt from by rw [hv33]; exact BIT.x hv42 (by omega) (by omega)).mpr h.2) (by omega)⟩⟩
        · have c43_ : v42.toInt = 0 := en_k_ne_f c43
          refine At.enter rfl ?_
          refine r_iconst 1 rfl ?_
          refine r_goto ?_
          refine At.enter rfl ?_
          refine q_iretz (by decide) ?_
          refine At.enter rfl ?_
          refine r_iff 25 rfl (by decide) ?_
          refine At.enter rfl ?_
          refine r_aload_n rfl ?_
          refine q_getR (Sh.ref hI0.1 kx_0 rfl) ?_
          refine r_iload_n rfl ?_
          refine r_iload_n rfl ?_
          refine r_callV 34 rfl [.ref 184, .int a1, .int a2] [] (Nat.le_of_ble_eq_true rfl) rfl (zT_X9_comersTo_184 _ hI0 a1 (by omega) a2) ?_
          rintro _ _ ⟨g46, rfl, hI47, hF48, v49, rfl, hr50⟩
          refine At.sti ?_
          have hF51 := Fr.tr hF0 hF48 rfl rfl
          refine At.enter rfl ?_
          refine r_goto ?_
          refine At.enter rfl ?_
          refine r_ireti ?_
          have x52 := HI.eqI hI0 (p := 1) (b := 0) (hv33)
          exact ⟨_, rfl, hI47, hF51, _, rfl, trivial, ⟨fun h => absurd ⟨⟨by omega, by omega⟩, (show _ ↔ BIT a2 (gI g0 1 0).toInt from by rw [hv33]; exact BIT.x hv42 (by omega) (by omega)).mp (by omega)⟩ h, fun _ => hr50.2⟩⟩

def zF_X10_pieces_0 : List (Nat × Nat) := []
def zA_X10_pieces_0 : List Nat := []
set_option maxRecDepth 100000 in
set_option maxHeartbeats 4000000 in
theorem zT_X10_pieces_0 (d : Nat) {N : Nat} {g0 : List en_E} (hI0 : HI g0) (a1 : Int32) : Ev (d + 5) 133 [.ref 0, .int a1] (g0, N) (fun w h' => ∃ g', h' = (g', N) ∧ HI g' ∧ Fr zF_X10_pieces_0 zA_X10_pieces_0 g0 g' ∧ ∃ r : Int32, w = some (.int r) ∧ True ∧ ((¬ (0 ≤ a1.toInt ∧ a1.toInt < (gI g0 1 4).toInt) → r.toInt = -1) ∧ ((0 ≤ a1.toInt ∧ a1.toInt < (gI g0 1 4).toInt) → (eA g0 5 (6 * a1.toInt + 2)).toInt ≠ -1 → PCE (NX g0) (SX g0) 11 (eA g0 5 (6 * a1.toInt + 1)).toInt (eA g0 5 (6 * a1.toInt + 2)).toInt (eA g0 5 (6 * a1.toInt + 0)).toInt r))) := by
  have hF0 : Fr zF_X10_pieces_0 zA_X10_pieces_0 g0 g0 := Fr.rf
  refine Ev.mk rfl rfl ⟨Nat.le_of_ble_eq_true rfl, Or.inr (q_rc hI0.1 kx_0 rfl)⟩ ?_
  show At _ none _ _ (0, [(0, .ref 0), (1, .int a1)], [], (_, _)) _
  refine At.enter rfl ?_
  refine r_aload_n rfl ?_
  refine q_getR (Sh.ref hI0.1 kx_0 rfl) ?_
  refine r_iload_n rfl ?_
  refine q_inlV 8 rfl [.ref 1, .int a1] [] (Nat.le_of_ble_eq_true rfl) rfl ?_
  refine Ev.mk rfl rfl ⟨Nat.le_of_ble_eq_true rfl, Or.inr (q_rc hI0.1 kx_1 rfl)⟩ ?_
  show At _ none _ _ (0, [(0, .ref 1), (1, .int a1)], [], (_, _)) _
  refine At.enter rfl ?_
  refine r_iload_n rfl ?_
  refine r_ifs 4 rfl (fun c23 => ?_) (fun c23 => ?_)
  · have c23_ : a1.toInt < 0 := en_k_lt_t c23
    refine At.enter rfl ?_
    refine r_iconst 0 rfl ?_
    refine Ar.fall 17 rfl ?_
    refine At.enter rfl ?_
    refine q_iretz (by decide) ?_
    refine At.enter rfl ?_
    refine r_ift (by decide) ?_
    refine At.enter rfl ?_
    refine r_iconst (-1) rfl ?_
    refine Ar.fall 23 rfl ?_
    refine At.enter rfl ?_
    refine r_ireti ?_
    have zv24 : ((-1) : Int32).toInt = (-1) := rfl
    obtain ⟨v25, hv25⟩ : ∃ v, gI g0 1 4 = v := ⟨_, rfl⟩
    have rv25 := RgF.at hI0.2.1 (p := 1) (b := 4) rfl
    rw [hv25] at rv25
    dsimp only at rv25
    have tv25 := congrArg Int32.toInt hv25
    have x26 := HI.eqI hI0 (p := 1) (b := 4) (hv25)
    exact ⟨_, rfl, hI0, hF0, _, rfl, trivial, ⟨fun _ => by omega, fun h => absurd h (by omega)⟩⟩
  · have c23_ : a1.toInt ≥ 0 := en_k_lt_f c23
    refine At.enter rfl ?_
    refine r_iload_n rfl ?_
    refine r_aload_n rfl ?_
    obtain ⟨v27, hv27⟩ : ∃ v, gI g0 1 4 = v := ⟨_, rfl⟩
    have rv27 := RgF.at hI0.2.1 (p := 1) (b := 4) rfl
    rw [hv27] at rv27
    dsimp only at rv27
    refine q_getI (Sh.int hI0.1 kx_1 rfl) v27 hv27 ?_
    have bv29 := q_bnd a1
    have bv30 := q_bnd v27
    refine r_ics 12 rfl (fun c28 => ?_) (fun c28 => ?_)
    · have c28_ : a1.toInt ≥ v27.toInt := en_i_ge_t c28
      refine At.enter rfl ?_
      refine r_iconst 0 rfl ?_
      refine Ar.fall 17 rfl ?_
      refine At.enter rfl ?_
      refine q_iretz (by decide) ?_
      refine At.enter rfl ?_
      refine r_ift (by decide) ?_
      refine At.enter rfl ?_
      refine r_iconst (-1) rfl ?_
      refine Ar.fall 23 rfl ?_
      refine At.enter rfl ?_
      refine r_ireti ?_
      have zv31 : ((-1) : Int32).toInt = (-1) := rfl
      have x32 := HI.eqI hI0 (p := 1) (b := 4) (hv27)
      exact ⟨_, rfl, hI0, hF0, _, rfl, trivial, ⟨fun _ => by omega, fun h => absurd h (by omega)⟩⟩
    · have c28_ : a1.toInt < v27.toInt := en_i_ge_f c28
      refine At.enter rfl ?_
      refine r_iconst 1 rfl ?_
      refine r_goto ?_
      refine At.enter rfl ?_
      refine q_iretz (by decide) ?_
      refine At.enter rfl ?_
      refine r_iff 11 rfl (by decide) ?_
      refine At.enter rfl ?_
      refine r_aload_n rfl ?_
      refine q_getR (Sh.ref hI0.1 kx_0 rfl) ?_
      refine r_iload_n rfl ?_
      refine r_callV 19 rfl [.ref 184, .int a1] [] (Nat.le_of_ble_eq_true rfl) rfl (zT_X9_minutesInPieces_184 _ hI0 a1) ?_
      rintro _ _ ⟨g33, rfl, hI34, hF35, v36, rfl, hr37⟩
      refine At.sti ?_
      have hF38 := Fr.tr hF0 hF35 rfl rfl
      refine At.enter rfl ?_
      refine r_goto ?_
      refine At.enter rfl ?_
      refine r_ireti ?_
      have x39 := HI.eqI hI0 (p := 1) (b := 4) (hv27)
      exact ⟨_, rfl, hI34, hF38, _, rfl, trivial, ⟨fun h => absurd h (by omega), fun h hw => hr37.2 h hw⟩⟩

def zF_X11_is_hb : List (Nat × Nat) := []
def zA_X11_is_hb : List Nat := []
set_option maxRecDepth 100000 in
set_option maxHeartbeats 4000000 in
theorem zT_X11_is_hb (d : Nat) {N : Nat} {g0 : List en_E} (hI0 : HI g0) (a0 : Int32) (a1 : Int32) : Ev (d + 1) 160 [.int a0, .int a1] (g0, N) (fun w h' => ∃ g', h' = (g', N) ∧ HI g' ∧ Fr zF_X11_is_hb zA_X11_is_hb g0 g' ∧ ∃ r : Int32, w = some (.int r) ∧ (0 ≤ r.toInt ∧ r.toInt ≤ 1) ∧ (BL (hbI a0 a1.toInt) r.toInt)) := by
  have hF0 : Fr zF_X11_is_hb zA_X11_is_hb g0 g0 := Fr.rf
  refine Ev.mk rfl rfl ⟨Nat.le_of_ble_eq_true rfl, Or.inl rfl⟩ ?_
  show At _ none _ _ (0, [(0, .int a0), (1, .int a1)], [], (_, _)) _
  refine At.enter rfl ?_
  refine r_iload_n rfl ?_
  refine r_iload_n rfl ?_
  refine q_ishrO (fun v7 hv7 => ?_)
  refine r_iconst 1 rfl ?_
  refine q_iandO (fun v8 hv8 => ?_)
  refine r_iconst 1 rfl ?_
  refine r_ics 9 rfl (fun c9 => ?_) (fun c9 => ?_)
  · have c9_ : v8.toInt ≠ 1 := en_i_ne_t c9
    refine At.enter rfl ?_
    refine r_iconst 0 rfl ?_
    refine Ar.fall 14 rfl ?_
    refine At.enter rfl ?_
    refine r_iretz (by decide) ?_
    have zv10 : (0 : Int32).toInt = 0 := rfl
    exact ⟨_, rfl, hI0, hF0, _, rfl, by decide, (Or.inr ⟨by omega, fun f => absurd ((hbI.mk (by assumption) hv8).1.mpr f) (by omega)⟩)⟩
  · have c9_ : v8.toInt = 1 := en_i_ne_f c9
    refine At.enter rfl ?_
    refine r_iconst 1 rfl ?_
    refine r_goto ?_
    refine At.enter rfl ?_
    refine r_iretz (by decide) ?_
    have zv11 : (1 : Int32).toInt = 1 := rfl
    exact ⟨_, rfl, hI0, hF0, _, rfl, by decide, (Or.inl ⟨by omega, (hbI.mk (by assumption) hv8).1.mp (by omega)⟩)⟩

def zF_X11_fact_231 : List (Nat × Nat) := [(231, 0)]
def zA_X11_fact_231 : List Nat := []
set_option maxRecDepth 100000 in
set_option maxHeartbeats 4000000 in
theorem zT_X11_fact_231 (d : Nat) {N : Nat} {g0 : List en_E} (hI0 : HI g0) (a1 : Int32) (a2 : Int32) : Ev (d + 3) 179 [.ref 231, .int a1, .int a2] (g0, N) (fun w h' => ∃ g', h' = (g', N) ∧ HI g' ∧ Fr zF_X11_fact_231 zA_X11_fact_231 g0 g' ∧ ∃ r : Int32, w = some (.int r) ∧ True ∧ ((0 ≤ a1.toInt ∧ a1.toInt < (eA g0 233 1).toInt ∧ 0 ≤ a2.toInt ∧ a2.toInt < 6 → r.toInt = (eA g0 233 (46 + (6 * a1.toInt + a2.toInt))).toInt) ∧ (¬ (0 ≤ a1.toInt ∧ a1.toInt < (eA g0 233 1).toInt ∧ 0 ≤ a2.toInt ∧ a2.toInt < 6) → r.toInt = -1))) := by
  have hF0 : Fr zF_X11_fact_231 zA_X11_fact_231 g0 g0 := Fr.rf
  refine Ev.mk rfl rfl ⟨Nat.le_of_ble_eq_true rfl, Or.inr (q_rc hI0.1 kx_231 rfl)⟩ ?_
  show At _ none _ _ (0, [(0, .ref 231), (1, .int a1), (2, .int a2)], [], (_, _)) _
  refine At.enter rfl ?_
  refine r_aload_n rfl ?_
  refine r_iconst 0 rfl ?_
  refine q_putI (Sh.int hI0.1 kx_231 rfl) rfl ?_
  have hI31 := HI.wI0 hI0 kx_231 rfl (p := 231) (b := 0) (v := 0) rfl
  have hF32 := Fr.wI (p := 231) (b := 0) (v := 0) hF0 rfl
  refine r_aload_n rfl ?_
  refine r_iload_n rfl ?_
  refine q_inlV 10 rfl [.ref 231, .int a1] [] (Nat.le_of_ble_eq_true rfl) rfl ?_
  refine Ev.mk rfl rfl ⟨Nat.le_of_ble_eq_true rfl, Or.inr (q_rc hI31.1 kx_231 rfl)⟩ ?_
  show At _ none _ _ (0, [(0, .ref 231), (1, .int a1)], [], (_, _)) _
  refine At.enter rfl ?_
  refine r_iload_n rfl ?_
  refine q_i2l (fun v33 hv33 => ?_)
  refine r_lconst 0 rfl ?_
  refine r_aload_n rfl ?_
  refine q_getR (Sh.ref hI31.1 kx_231 rfl) ?_
  refine r_iconst 1 rfl ?_
  obtain ⟨v34, hv34⟩ : ∃ v, eA g0 233 1 = v := ⟨_, rfl⟩
  have tv34 := congrArg Int32.toInt hv34
  have wv34 := HI.t1 hI0
  rw [hv34] at wv34
  refine q_iald (Sh.arr hI31.1 ka_233) 1 rfl (by decide) v34 ((eA_c (gA_sI)).trans hv34) ?_
  refine q_i2l (fun v35 hv35 => ?_)
  refine r_lconst 1 rfl ?_
  refine q_lsub (v35.toInt - 1) rfl (by omega) (fun v36 hv36 => ?_)
  refine q_inlS 15 rfl [.long v33, .long 0, .long v36] [] (Nat.le_of_ble_eq_true rfl) rfl ?_
  refine Ev.mk rfl rfl ⟨Nat.le_of_ble_eq_true rfl, Or.inl rfl⟩ ?_
  show At _ none _ _ (0, [(0, .long v33), (2, .long 0), (4, .long v36)], [], (_, _)) _
  refine At.enter rfl ?_
  refine r_lload_n rfl ?_
  refine r_lload_n rfl ?_
  refine r_lcmp _ rfl ?_
  refine r_ifs 6 rfl (fun c37 => ?_) (fun c37 => ?_)
  · have c37_ : v33.toInt < 0 := en_j_lt_t c37
    refine At.enter rfl ?_
    refine r_iconst 0 rfl ?_
    refine Ar.fall 18 rfl ?_
    refine At.enter rfl ?_
    refine q_iretz (by decide) ?_
    refine At.enter rfl ?_
    refine q_iretz (by decide) ?_
    refine At.enter rfl ?_
    refine r_ift (by decide) ?_
    refine At.enter rfl ?_
    refine r_iconst (-1) rfl ?_
    refine Ar.fall 35 rfl ?_
    refine At.enter rfl ?_
    refine r_ireti ?_
    have zv38 : ((-1) : Int32).toInt = (-1) := rfl
    have x39 := HI.eqA hI0 (p := 233) (j := 1) (hv34)
    have y40 := congrArg Int32.toInt hv34
    exact ⟨_, rfl, hI31, hF32, _, rfl, trivial, ⟨by omega, by omega⟩⟩
  · have c37_ : v33.toInt ≥ 0 := en_j_lt_f c37
    refine At.enter rfl ?_
    refine r_lload_n rfl ?_
    refine r_lload rfl ?_
    refine r_lcmp _ rfl ?_
    refine r_ifs 13 rfl (fun c41 => ?_) (fun c41 => ?_)
    · have c41_ : v33.toInt > v36.toInt := en_j_gt_t c41
      refine At.enter rfl ?_
      refine r_iconst 0 rfl ?_
      refine Ar.fall 18 rfl ?_
      refine At.enter rfl ?_
      refine q_iretz (by decide) ?_
      refine At.enter rfl ?_
      refine q_iretz (by decide) ?_
      refine At.enter rfl ?_
      refine r_ift (by decide) ?_
      refine At.enter rfl ?_
      refine r_iconst (-1) rfl ?_
      refine Ar.fall 35 rfl ?_
      refine At.enter rfl ?_
      refine r_ireti ?_
      have zv42 : ((-1) : Int32).toInt = (-1) := rfl
      have x43 := HI.eqA hI0 (p := 233) (j := 1) (hv34)
      have y44 := congrArg Int32.toInt hv34
      exact ⟨_, rfl, hI31, hF32, _, rfl, trivial, ⟨by omega, by omega⟩⟩
    · have c41_ : v33.toInt ≤ v36.toInt := en_j_gt_f c41
      refine At.enter rfl ?_
      refine r_iconst 1 rfl ?_
      refine r_goto ?_
      refine At.enter rfl ?_
      refine q_iretz (by decide) ?_
      refine At.enter rfl ?_
      refine q_iretz (by decide) ?_
      refine At.enter rfl ?_
      refine r_iff 13 rfl (by decide) ?_
      refine At.enter rfl ?_
      refine r_iload_n rfl ?_
      refine q_i2l (fun v45 hv45 => ?_)
      refine r_lconst 0 rfl ?_
      refine r_ldc2 5 rfl ?_
      refine q_inlS 22 rfl [.long v45, .long 0, .long 5] [] (Nat.le_of_ble_eq_true rfl) rfl ?_
      refine Ev.mk rfl rfl ⟨Nat.le_of_ble_eq_true rfl, Or.inl rfl⟩ ?_
      show At _ none _ _ (0, [(0, .long v45), (2, .long 0), (4, .long 5)], [], (_, _)) _
      refine At.enter rfl ?_
      refine r_lload_n rfl ?_
      refine r_lload_n rfl ?_
      refine r_lcmp _ rfl ?_
      refine r_ifs 6 rfl (fun c46 => ?_) (fun c46 => ?_)
      · have c46_ : v45.toInt < 0 := en_j_lt_t c46
        refine At.enter rfl ?_
        refine r_iconst 0 rfl ?_
        refine Ar.fall 18 rfl ?_
        refine At.enter rfl ?_
        refine q_iretz (by decide) ?_
        refine At.enter rfl ?_
        refine r_ift (by decide) ?_
        refine At.enter rfl ?_
        refine r_iconst (-1) rfl ?_
        refine Ar.fall 35 rfl ?_
        refine At.enter rfl ?_
        refine r_ireti ?_
        have zv47 : ((-1) : Int32).toInt = (-1) := rfl
        have x48 := HI.eqA hI0 (p := 233) (j := 1) (hv34)
        have y49 := congrArg Int32.toInt hv34
        exact ⟨_, rfl, hI31, hF32, _, rfl, trivial, ⟨by omega, by omega⟩⟩
      · have c46_ : v45.toInt ≥ 0 := en_j_lt_f c46
        refine At.enter rfl ?_
        refine r_lload_n rfl ?_
        refine r_lload rfl ?_
        refine r_lcmp _ rfl ?_
        refine r_ifs 13 rfl (fun c50 => ?_) (fun c50 => ?_)
        · have c50_ : v45.toInt > 5 := en_j_gt_t c50
          refine At.enter rfl ?_
          refine r_iconst 0 rfl ?_
          refine Ar.fall 18 rfl ?_
          refine At.enter rfl ?_
          refine q_iretz (by decide) ?_
          refine At.enter rfl ?_
          refine r_ift (by decide) ?_
          refine At.enter rfl ?_
          refine r_iconst (-1) rfl ?_
          refine Ar.fall 35 rfl ?_
          refine At.enter rfl ?_
          refine r_ireti ?_
          have zv51 : ((-1) : Int32).toInt = (-1) := rfl
          have x52 := HI.eqA hI0 (p := 233) (j := 1) (hv34)
          have y53 := congrArg Int32.toInt hv34
          exact ⟨_, rfl, hI31, hF32, _, rfl, trivial, ⟨by omega, by omega⟩⟩
        · have c50_ : v45.toInt ≤ 5 := en_j_gt_f c50
          refine At.enter rfl ?_
          refine r_iconst 1 rfl ?_
          refine r_goto ?_
          refine At.enter rfl ?_
          refine q_iretz (by decide) ?_
          refine At.enter rfl ?_
          refine r_iff 25 rfl (by decide) ?_
          refine At.enter rfl ?_
          refine r_aload_n rfl ?_
          refine r_iload_n rfl ?_
          refine r_iload_n rfl ?_
          refine q_inlV 31 rfl [.ref 231, .int a1, .int a2] [] (Nat.le_of_ble_eq_true rfl) rfl ?_
          refine Ev.mk rfl rfl ⟨Nat.le_of_ble_eq_true rfl, Or.inr (q_rc hI31.1 kx_231 rfl)⟩ ?_
          show At _ none _ _ (0, [(0, .ref 231), (1, .int a1), (2, .int a2)], [], (_, _)) _
          refine At.enter rfl ?_
          refine r_aload_n rfl ?_
          refine q_getR (Sh.ref hI31.1 kx_231 rfl) ?_
          refine r_bipush 46 rfl ?_
          refine r_bipush 6 rfl ?_
          refine r_iload_n rfl ?_
          refine q_imul (6 * a1.toInt) rfl (by omega) (fun v54 hv54 => ?_)
          refine q_iadd (46 + v54.toInt) rfl (by omega) (fun v55 hv55 => ?_)
          refine r_iload_n rfl ?_
          refine q_iadd (v55.toInt + a2.toInt) rfl (by omega) (fun v56 hv56 => ?_)
          obtain ⟨v57, hv57⟩ : ∃ v, eA g0 233 (6 * a1.toInt + a2.toInt + 46) = v := ⟨_, rfl⟩
          refine q_iald (Sh.arr hI31.1 ka_233) (6 * a1.toInt + a2.toInt + 46) (by omega) (by omega) v57 ((eA_c (gA_sI)).trans hv57) ?_
          refine q_ireti ?_
          refine At.enter rfl ?_
          refine r_goto ?_
          refine At.enter rfl ?_
          refine r_ireti ?_
          have x58 := HI.eqA hI0 (p := 233) (j := 1) (hv34)
          have y59 := congrArg Int32.toInt hv34
          have y60 := (eA_ix (g := g0) (p := 233) (show 46 + (6 * a1.toInt + a2.toInt) = (6 * a1.toInt + a2.toInt + 46) from by omega)).trans (congrArg Int32.toInt hv57)
          exact ⟨_, rfl, hI31, hF32, _, rfl, trivial, ⟨by omega, by omega⟩⟩

def zF_X11_dropped_231 : List (Nat × Nat) := [(231, 0)]
def zA_X11_dropped_231 : List Nat := []
set_option maxRecDepth 100000 in
set_option maxHeartbeats 4000000 in
theorem zT_X11_dropped_231 (d : Nat) {N : Nat} {g0 : List en_E} (hI0 : HI g0) : Ev (d + 1) 183 [.ref 231] (g0, N) (fun w h' => ∃ g', h' = (g', N) ∧ HI g' ∧ Fr zF_X11_dropped_231 zA_X11_dropped_231 g0 g' ∧ ∃ r : Int32, w = some (.int r) ∧ True ∧ (r.toInt = (gI g0 231 6).toInt)) := by
  have hF0 : Fr zF_X11_dropped_231 zA_X11_dropped_231 g0 g0 := Fr.rf
  refine Ev.mk rfl rfl ⟨Nat.le_of_ble_eq_true rfl, Or.inr (q_rc hI0.1 kx_231 rfl)⟩ ?_
  show At _ none _ _ (0, [(0, .ref 231)], [], (_, _)) _
  refine At.enter rfl ?_
  refine r_aload_n rfl ?_
  refine r_iconst 0 rfl ?_
  refine q_putI (Sh.int hI0.1 kx_231 rfl) rfl ?_
  have hI7 := HI.wI0 hI0 kx_231 rfl (p := 231) (b := 0) (v := 0) rfl
  have hF8 := Fr.wI (p := 231) (b := 0) (v := 0) hF0 rfl
  refine r_aload_n rfl ?_
  obtain ⟨v9, hv9⟩ : ∃ v, gI g0 231 6 = v := ⟨_, rfl⟩
  refine q_getI (Sh.int hI7.1 kx_231 rfl) v9 ((gI_sI_ne (by decide)).trans hv9) ?_
  refine r_ireti ?_
  have x10 := HI.eqI hI0 (p := 231) (b := 6) (hv9)
  exact ⟨_, rfl, hI7, hF8, _, rfl, trivial, (by omega)⟩

def zF_X11_findWay_231 : List (Nat × Nat) := []
def zA_X11_findWay_231 : List Nat := [249]
set_option maxRecDepth 100000 in
set_option maxHeartbeats 4000000 in
theorem zT_X11_findWay_231 (d : Nat) {N : Nat} {g0 : List en_E} (hI0 : HI g0) (a1 : Int32) (h_a1 : 0 ≤ a1.toInt ∧ a1.toInt ≤ 7) (hl : a1.toInt < (eA g0 233 1).toInt) : Ev (d + 4) 219 [.ref 231, .int a1] (g0, N) (fun w h' => ∃ g', h' = (g', N) ∧ HI g' ∧ Fr zF_X11_findWay_231 zA_X11_findWay_231 g0 g' ∧ ∃ r : Int32, w = some (.int r) ∧ ((-1) ≤ r.toInt ∧ r.toInt ≤ 12) ∧ ((∀ j : Int, 0 ≤ j → j ≤ r.toInt → (eA g' 249 j).toInt < (eA g0 233 0).toInt) ∧ ((eA g0 233 (46 + (6 * a1.toInt + 2))).toInt ≠ -1 → WAYF (NMq g0) 12 (eA g0 233 (46 + (6 * a1.toInt + 1))).toInt (eA g0 233 (46 + (6 * a1.toInt + 2))).toInt r.toInt) ∧ ∀ j : Int, 0 ≤ j → j ≤ r.toInt → (eA g' 249 j).toInt = itI (NMq g0) j (eA g0 233 (46 + (6 * a1.toInt + 1))).toInt)) := by
  have hF0 : Fr zF_X11_findWay_231 zA_X11_findWay_231 g0 g0 := Fr.rf
  refine Ev.mk rfl rfl ⟨Nat.le_of_ble_eq_true rfl, Or.inr (q_rc hI0.1 kx_231 rfl)⟩ ?_
  show At _ none _ _ (0, [(0, .ref 231), (1, .int a1)], [], (_, _)) _
  refine At.enter rfl ?_
  refine r_aload_n rfl ?_
  refine r_iload_n rfl ?_
  refine r_iconst 1 rfl ?_
  refine q_inlV 6 rfl [.ref 231, .int a1, .int 1] [] (Nat.le_of_ble_eq_true rfl) rfl ?_
  refine Ev.mk rfl rfl ⟨Nat.le_of_ble_eq_true rfl, Or.inr (q_rc hI0.1 kx_231 rfl)⟩ ?_
  show At _ none _ _ (0, [(0, .ref 231), (1, .int a1), (2, .int 1)], [], (_, _)) _
  refine At.enter rfl ?_
  refine r_aload_n rfl ?_
  refine q_getR (Sh.ref hI0.1 kx_231 rfl) ?_
  refine r_bipush 46 rfl ?_
  refine r_bipush 6 rfl ?_
  refine r_iload_n rfl ?_
  refine q_imul (6 * a1.toInt) rfl (by omega) (fun v527 hv527 => ?_)
  refine q_iadd (46 + v527.toInt) rfl (by omega) (fun v528 hv528 => ?_)
  refine r_iload_n rfl ?_
  refine q_iadd (v528.toInt + 1) rfl (by omega) (fun v529 hv529 => ?_)
  obtain ⟨v530, hv530⟩ : ∃ v, eA g0 233 (6 * a1.toInt + 47) = v := ⟨_, rfl⟩
  have wv530 := HI.l1 hI0 (j := (6 * a1.toInt + 47)) (a1.toInt) (by omega) (by omega)
  rw [hv530] at wv530
  refine q_iald (Sh.arr hI0.1 ka_233) (6 * a1.toInt + 47) (by omega) (by omega) v530 hv530 ?_
  refine q_ireti ?_
  refine At.enter rfl ?_
  refine r_istore_n ([(2, .int v530), (0, .ref 231), (1, .int a1)]) rfl ?_
  refine r_iconst 0 rfl ?_
  refine r_istore_n ([(3, .int 0), (2, .int v530), (0, .ref 231), (1, .int a1)]) rfl ?_
  refine Ar.fall 9 rfl ?_
  have z_771 : (0 : Int32).toInt = 0 := rfl
  refine w_loopI (fun n_ l_ g_ => ∃ x751 : Int32, ∃ x752 : Int32, n_ = 13 - x752.toInt ∧ HI g_ ∧ Fr zF_X11_findWay_231 zA_X11_findWay_231 g0 g_ ∧ en_get 0 l_ = some (.ref 231) ∧ en_get 1 l_ = some (.int a1) ∧ en_get 2 l_ = some (.int x751) ∧ en_get 3 l_ = some (.int x752) ∧ ((-1) ≤ x751.toInt ∧ x751.toInt ≤ 11) ∧ (0 ≤ x752.toInt ∧ x752.toInt ≤ 13) ∧ (∀ j : Int, 0 ≤ j → j < x752.toInt → (eA g_ 249 j).toInt < (eA g0 233 0).toInt) ∧ (x751.toInt = -1 ∨ x751.toInt < (eA g0 233 0).toInt) ∧ (x751.toInt = itI (NMq g0) x752.toInt (eA g0 233 (46 + (6 * a1.toInt + 1))).toInt) ∧ (∀ j : Int, 0 ≤ j → j < x752.toInt → itI (NMq g0) j (eA g0 233 (46 + (6 * a1.toInt + 1))).toInt ≠ (eA g0 233 (46 + (6 * a1.toInt + 2))).toInt) ∧ (∀ j : Int, 0 ≤ j → j < x752.toInt → (eA g_ 249 j).toInt = itI (NMq g0) j (eA g0 233 (46 + (6 * a1.toInt + 1))).toInt) ∧ (0 ≤ x752.toInt)) ?_ (13 - 0) ⟨v530, 0, by first | rfl | omega, hI0, hF0, rfl, rfl, rfl, rfl, by omega, by decide, (fun j h0 h1 => absurd h1 (by omega)), by omega, (by have y243_ := (eA_ix (g := g0) (p := 233) (show 46 + (6 * a1.toInt + 1) = (6 * a1.toInt + 47) from by omega)).trans (congrArg Int32.toInt hv530); refine Eq.trans ?_ (itI_n _ (by first | decide | omega) _).symm; omega), (fun j h0 h1 => absurd h1 (by omega)), (fun j h0 h1 => absurd h1 (by omega)), by omega⟩
  rintro n757 l756 g753 ⟨x751, x752, hm772, hI754, hF755, e759, e760, e761, e762, r763, r764, q765, q766, q767, q768, q769, q770⟩ ih758
  refine At.enter rfl ?_
  refine r_iload_n e762 ?_
  refine r_bipush 13 rfl ?_
  refine r_ics 15 rfl (fun c773 => ?_) (fun c773 => ?_)
  · have c773_ : x752.toInt ≥ 13 := en_i_ge_t c773
    refine At.enter rfl ?_
    refine r_iconst (-1) rfl ?_
    refine r_ireti ?_
    have zv774 : ((-1) : Int32).toInt = (-1) := rfl
    have y244_ := (eA_ix (g := g0) (p := 233) (show 46 + (6 * a1.toInt + 1) = (6 * a1.toInt + 47) from by omega)).trans (congrArg Int32.toInt hv530)
    exact ⟨_, rfl, hI754, hF755, _, rfl, by decide, ⟨(fun j h0 h1 => absurd h1 (by have : ((-1) : Int32).toInt = -1 := rfl; omega)), (by first | exact WAYF.a x752.toInt (by omega) (by omega) (by rw [← q767]; omega) q768 (by omega) | exact WAYF.n (NMq.e g0) (by omega) q768 (by rw [← q767]; omega) (by omega)), (fun j h0 h1 => absurd h1 (by omega))⟩⟩
  · have c773_ : x752.toInt < 13 := en_i_ge_f c773
    refine At.enter rfl ?_
    refine r_iload_n e761 ?_
    refine r_iconst (-1) rfl ?_
    refine r_ics 20 rfl (fun c775 => ?_) (fun c775 => ?_)
    · have c775_ : x751.toInt = (-1) := en_i_eq_t c775
      refine At.enter rfl ?_
      refine r_iconst (-1) rfl ?_
      refine r_ireti ?_
      have zv776 : ((-1) : Int32).toInt = (-1) := rfl
      have y245_ := (eA_ix (g := g0) (p := 233) (show 46 + (6 * a1.toInt + 1) = (6 * a1.toInt + 47) from by omega)).trans (congrArg Int32.toInt hv530)
      exact ⟨_, rfl, hI754, hF755, _, rfl, by decide, ⟨(fun j h0 h1 => absurd h1 (by have : ((-1) : Int32).toInt = -1 := rfl; omega)), (by first | exact WAYF.a x752.toInt (by omega) (by omega) (by rw [← q767]; omega) q768 (by omega) | exact WAYF.n (NMq.e g0) (by omega) q768 (by rw [← q767]; omega) (by omega)), (fun j h0 h1 => absurd h1 (by omega))⟩⟩
    · have c775_ : x751.toInt ≠ (-1) := en_i_eq_f c775
      refine At.enter rfl ?_
      refine r_aload_n e759 ?_
      refine q_getR (Sh.ref hI754.1 kx_231 rfl) ?_
      refine r_iload_n e762 ?_
      refine r_iload_n e761 ?_
      refine q_iast (Sh.arr hI754.1 ka_249) (x752.toInt) rfl (by omega) ?_
      have hI777 := HI.wA1 hI754 ka_249 (p := 249) rfl rfl (x752.toInt) (v := x751) (by dsimp only; omega)
      have hF778 := Fr.wA (p := 249) (j := x752.toInt) (v := x751) hF755 rfl
      refine r_iload_n e761 ?_
      refine r_aload_n e759 ?_
      refine r_iload_n e760 ?_
      refine r_iconst 2 rfl ?_
      refine q_inlV 34 rfl [.ref 231, .int a1, .int 2] [.int x751] (Nat.le_of_ble_eq_true rfl) rfl ?_
      refine Ev.mk rfl rfl ⟨Nat.le_of_ble_eq_true rfl, Or.inr (q_rc hI777.1 kx_231 rfl)⟩ ?_
      show At _ none _ _ (0, [(0, .ref 231), (1, .int a1), (2, .int 2)], [], (_, _)) _
      refine At.enter rfl ?_
      refine r_aload_n rfl ?_
      refine q_getR (Sh.ref hI777.1 kx_231 rfl) ?_
      refine r_bipush 46 rfl ?_
      refine r_bipush 6 rfl ?_
      refine r_iload_n rfl ?_
      refine q_imul (6 * a1.toInt) rfl (by omega) (fun v779 hv779 => ?_)
      refine q_iadd (46 + v779.toInt) rfl (by omega) (fun v780 hv780 => ?_)
      refine r_iload_n rfl ?_
      refine q_iadd (v780.toInt + 2) rfl (by omega) (fun v781 hv781 => ?_)
      obtain ⟨v782, hv782⟩ : ∃ v, eA g0 233 (6 * a1.toInt + 48) = v := ⟨_, rfl⟩
      have wv782 := HI.l2 hI0 (j := (6 * a1.toInt + 48)) (a1.toInt) (by omega) (by omega)
      rw [hv782] at wv782
      refine q_iald (Sh.arr hI777.1 ka_233) (6 * a1.toInt + 48) (by omega) (by omega) v782 ((eA_c ((gA_sA_ne (by decide)).trans (hF755.2.1 233 (by decide)))).trans hv782) ?_
      refine q_ireti ?_
      refine At.enter rfl ?_
      refine r_ics 37 rfl (fun c783 => ?_) (fun c783 => ?_)
      · have c783_ : x751.toInt ≠ v782.toInt := en_i_ne_t c783
        refine At.enter rfl ?_
        refine r_aload_n e759 ?_
        refine r_iload_n e761 ?_
        refine r_iconst 0 rfl ?_
        refine r_callV 45 rfl [.ref 231, .int x751, .int 0] [] (Nat.le_of_ble_eq_true rfl) rfl (T_X11_nextOf0_231 _ hI777 x751 (by omega)) ?_
        rintro _ _ ⟨g784, rfl, hI785, hF786, v787, rfl, hr788⟩
        refine At.sti ?_
        have hF789 := Fr.tr hF778 hF786 rfl rfl
        have zv790 : (0 : Int32).toInt = 0 := rfl
        rw [eA_c (((gA_sA_ne (by decide)).trans (hF755.2.1 233 (by decide))))] at hr788
        rw [NMo.c (((gA_sA_ne (by decide)).trans (hF755.2.1 233 (by decide))))] at hr788
        refine At.enter rfl ?_
        refine r_istore_n _ rfl ?_
        refine q_iinc (w_p1 (by decide) (Or.inr rfl) e762) (x752.toInt + 1) rfl (by omega) (fun v791 hv791 => ?_)
        refine r_goto ?_
        exact ih758 (13 - v791.toInt) _ _ ⟨v787, v791, by first | rfl | omega, hI785, hF789, (w_p1 (by decide) (Or.inr rfl) (w_p1 (by decide) (Or.inr rfl) e759)), (w_p1 (by decide) (Or.inr rfl) (w_p1 (by decide) (Or.inr rfl) e760)), (w_p1 (by decide) (Or.inr rfl) (w_e1 _ _ _)), (w_e1 _ _ _), by omega, by omega, (by intro j h0 h1; exact (Decidable.em (j = x752.toInt)).elim (fun e => by rw [e, ((eA_c (hF786.2.1 249 (by decide))).trans (eA_sA_eq hI754.1 ka_249 rfl (by omega) (by omega)))]; omega) (fun e => by rw [((eA_c (hF786.2.1 249 (by decide))).trans (eA_sA_ne hI754.1 ka_249 e (by omega) h0))]; exact q765 j h0 (by omega))), by omega, (by rw [show v791.toInt = x752.toInt + 1 from by omega, itI_s (NMq g0) (by omega), ← q767]; have z := NMq.ne (g := g0) (s := x751.toInt) (by omega); omega), (WAYF.step q768 (by rw [← q767]; have y246_ := (eA_ix (g := g0) (p := 233) (show 46 + (6 * a1.toInt + 1) = (6 * a1.toInt + 47) from by omega)).trans (congrArg Int32.toInt hv530); have y247_ := (eA_ix (g := g0) (p := 233) (show 46 + (6 * a1.toInt + 2) = (6 * a1.toInt + 48) from by omega)).trans (congrArg Int32.toInt hv782); omega) (show v791.toInt = x752.toInt + 1 from by omega)), (by intro j h0 h1; refine (eA_ti ((hF786.2.1 249 (by decide)))).trans ?_; exact (Decidable.em (j = x752.toInt)).elim (fun k248_ => by refine (eA_eqT hI754.1 ka_249 k248_ (by omega) (by omega)).trans ?_; rw [k248_]; omega) (fun k248_ => by refine (eA_neT hI754.1 ka_249 k248_ (by omega) (by omega)).trans ?_; exact q769 j h0 (by omega))), by omega⟩ ⟨by omega, by omega⟩
      · have c783_ : x751.toInt = v782.toInt := en_i_ne_f c783
        refine At.enter rfl ?_
        refine r_iload_n e762 ?_
        refine r_ireti ?_
        have y249_ := (eA_ix (g := g0) (p := 233) (show 46 + (6 * a1.toInt + 1) = (6 * a1.toInt + 47) from by omega)).trans (congrArg Int32.toInt hv530)
        have y250_ := (eA_ix (g := g0) (p := 233) (show 46 + (6 * a1.toInt + 2) = (6 * a1.toInt + 48) from by omega)).trans (congrArg Int32.toInt hv782)
        exact ⟨_, rfl, hI777, hF778, _, rfl, by omega, ⟨(by intro j h0 h1; exact (Decidable.em (j = x752.toInt)).elim (fun e => by rw [e, ((eA_c rfl).trans (eA_sA_eq hI754.1 ka_249 rfl (by omega) (by omega)))]; omega) (fun e => by rw [((eA_c rfl).trans (eA_sA_ne hI754.1 ka_249 e (by omega) h0))]; exact q765 j h0 (by omega))), (by first | exact WAYF.a x752.toInt (by omega) (by omega) (by rw [← q767]; omega) q768 (by omega) | exact WAYF.n (NMq.e g0) (by omega) q768 (by rw [← q767]; omega) (by omega)), (by intro j h0 h1; exact (Decidable.em (j = x752.toInt)).elim (fun k251_ => by refine (eA_eqT hI754.1 ka_249 k251_ (by omega) (by omega)).trans ?_; rw [k251_]; omega) (fun k251_ => by refine (eA_neT hI754.1 ka_249 k251_ (by omega) (by omega)).trans ?_; exact q769 j h0 (by omega)))⟩⟩

def zF_X11_way_231 : List (Nat × Nat) := [(231, 0)]
def zA_X11_way_231 : List Nat := [249]
set_option maxRecDepth 100000 in
set_option maxHeartbeats 4000000 in
theorem zT_X11_way_231 (d : Nat) {N : Nat} {g0 : List en_E} (hI0 : HI g0) (a1 : Int32) (a2 : Int32) : Ev (d + 5) 220 [.ref 231, .int a1, .int a2] (g0, N) (fun w h' => ∃ g', h' = (g', N) ∧ HI g' ∧ Fr zF_X11_way_231 zA_X11_way_231 g0 g' ∧ ∃ r : Int32, w = some (.int r) ∧ ((-1) ≤ r.toInt ∧ r.toInt ≤ 12) ∧ ((¬ (0 ≤ a1.toInt ∧ a1.toInt < (eA g0 233 1).toInt) → r.toInt = -1) ∧ ((0 ≤ a1.toInt ∧ a1.toInt < (eA g0 233 1).toInt) → (eA g0 233 (46 + (6 * a1.toInt + 2))).toInt ≠ -1 → WAYA (NMq g0) 12 (eA g0 233 (46 + (6 * a1.toInt + 1))).toInt (eA g0 233 (46 + (6 * a1.toInt + 2))).toInt a2.toInt r.toInt))) := by
  have hF0 : Fr zF_X11_way_231 zA_X11_way_231 g0 g0 := Fr.rf
  refine Ev.mk rfl rfl ⟨Nat.le_of_ble_eq_true rfl, Or.inr (q_rc hI0.1 kx_231 rfl)⟩ ?_
  show At _ none _ _ (0, [(0, .ref 231), (1, .int a1), (2, .int a2)], [], (_, _)) _
  refine At.enter rfl ?_
  refine r_aload_n rfl ?_
  refine r_iconst 0 rfl ?_
  refine q_putI (Sh.int hI0.1 kx_231 rfl) rfl ?_
  have hI55 := HI.wI0 hI0 kx_231 rfl (p := 231) (b := 0) (v := 0) rfl
  have hF56 := Fr.wI (p := 231) (b := 0) (v := 0) hF0 rfl
  refine r_aload_n rfl ?_
  refine r_iload_n rfl ?_
  refine q_inlV 10 rfl [.ref 231, .int a1] [] (Nat.le_of_ble_eq_true rfl) rfl ?_
  refine Ev.mk rfl rfl ⟨Nat.le_of_ble_eq_true rfl, Or.inr (q_rc hI55.1 kx_231 rfl)⟩ ?_
  show At _ none _ _ (0, [(0, .ref 231), (1, .int a1)], [], (_, _)) _
  refine At.enter rfl ?_
  refine r_iload_n rfl ?_
  refine q_i2l (fun v57 hv57 => ?_)
  refine r_lconst 0 rfl ?_
  refine r_aload_n rfl ?_
  refine q_getR (Sh.ref hI55.1 kx_231 rfl) ?_
  refine r_iconst 1 rfl ?_
  obtain ⟨v58, hv58⟩ : ∃ v, eA g0 233 1 = v := ⟨_, rfl⟩
  have tv58 := congrArg Int32.toInt hv58
  have wv58 := HI.t1 hI0
  rw [hv58] at wv58
  refine q_iald (Sh.arr hI55.1 ka_233) 1 rfl (by decide) v58 ((eA_c (gA_sI)).trans hv58) ?_
  refine q_i2l (fun v59 hv59 => ?_)
  refine r_lconst 1 rfl ?_
  refine q_lsub (v59.toInt - 1) rfl (by omega) (fun v60 hv60 => ?_)
  refine q_inlS 15 rfl [.long v57, .long 0, .long v60] [] (Nat.le_of_ble_eq_true rfl) rfl ?_
  refine Ev.mk rfl rfl ⟨Nat.le_of_ble_eq_true rfl, Or.inl rfl⟩ ?_
  show At _ none _ _ (0, [(0, .long v57), (2, .long 0), (4, .long v60)], [], (_, _)) _
  refine At.enter rfl ?_
  refine r_lload_n rfl ?_
  refine r_lload_n rfl ?_
  refine r_lcmp _ rfl ?_
  refine r_ifs 6 rfl (fun c61 => ?_) (fun c61 => ?_)
  · have c61_ : v57.toInt < 0 := en_j_lt_t c61
    refine At.enter rfl ?_
    refine r_iconst 0 rfl ?_
    refine Ar.fall 18 rfl ?_
    refine At.enter rfl ?_
    refine q_iretz (by decide) ?_
    refine At.enter rfl ?_
    refine q_iretz (by decide) ?_
    refine At.enter rfl ?_
    refine r_iff 13 rfl (by decide) ?_
    refine At.enter rfl ?_
    refine r_iconst (-1) rfl ?_
    refine r_ireti ?_
    have zv62 : ((-1) : Int32).toInt = (-1) := rfl
    have x63 := HI.eqA hI0 (p := 233) (j := 1) (hv58)
    exact ⟨_, rfl, hI55, hF56, _, rfl, by decide, ⟨fun _ => by omega, fun h => absurd h (by omega)⟩⟩
  · have c61_ : v57.toInt ≥ 0 := en_j_lt_f c61
    refine At.enter rfl ?_
    refine r_lload_n rfl ?_
    refine r_lload rfl ?_
    refine r_lcmp _ rfl ?_
    refine r_ifs 13 rfl (fun c64 => ?_) (fun c64 => ?_)
    · have c64_ : v57.toInt > v60.toInt := en_j_gt_t c64
      refine At.enter rfl ?_
      refine r_iconst 0 rfl ?_
      refine Ar.fall 18 rfl ?_
      refine At.enter rfl ?_
      refine q_iretz (by decide) ?_
      refine At.enter rfl ?_
      refine q_iretz (by decide) ?_
      refine At.enter rfl ?_
      refine r_iff 13 rfl (by decide) ?_
      refine At.enter rfl ?_
      refine r_iconst (-1) rfl ?_
      refine r_ireti ?_
      have zv65 : ((-1) : Int32).toInt = (-1) := rfl
      have x66 := HI.eqA hI0 (p := 233) (j := 1) (hv58)
      exact ⟨_, rfl, hI55, hF56, _, rfl, by decide, ⟨fun _ => by omega, fun h => absurd h (by omega)⟩⟩
    · have c64_ : v57.toInt ≤ v60.toInt := en_j_gt_f c64
      refine At.enter rfl ?_
      refine r_iconst 1 rfl ?_
      refine r_goto ?_
      refine At.enter rfl ?_
      refine q_iretz (by decide) ?_
      refine At.enter rfl ?_
      refine q_iretz (by decide) ?_
      refine At.enter rfl ?_
      refine r_ift (by decide) ?_
      refine At.enter rfl ?_
      refine r_aload_n rfl ?_
      refine r_iload_n rfl ?_
      refine r_callV 20 rfl [.ref 231, .int a1] [] (Nat.le_of_ble_eq_true rfl) rfl (zT_X11_findWay_231 _ hI55 a1 (by omega) (by rw [eA_c ((gA_sI)), hv58]; omega)) ?_
      rintro _ _ ⟨g67, rfl, hI68, hF69, v70, rfl, hr71⟩
      refine At.sti ?_
      have hF72 := Fr.tr hF56 hF69 rfl rfl
      obtain ⟨w73, w74, w75, w76⟩ := hr71
      have w77 := And.intro w73 w74
      have fw78 : ∀ j : Int, 0 ≤ j → j ≤ v70.toInt → (eA g67 249 j).toInt < (eA g0 233 0).toInt := fun j a b => by have z := w77.2 j a b; rw [eA_c ((gA_sI))] at z; exact z
      have w79 := WAYF.cg ((gA_sI)) w75
      have w80 := itI.cg ((gA_sI)) w76
      refine At.enter rfl ?_
      refine r_istore_n ([(3, .int v70), (0, .ref 231), (1, .int a1), (2, .int a2)]) rfl ?_
      refine r_iload_n rfl ?_
      refine r_iconst (-1) rfl ?_
      refine r_ics 26 rfl (fun c81 => ?_) (fun c81 => ?_)
      · have c81_ : v70.toInt = (-1) := en_i_eq_t c81
        refine At.enter rfl ?_
        refine r_iload_n rfl ?_
        refine r_goto ?_
        refine At.enter rfl ?_
        refine r_ireti ?_
        have x82 := HI.eqA hI0 (p := 233) (j := 1) (hv58)
        exact ⟨_, rfl, hI68, hF72, _, rfl, by omega, ⟨fun h => absurd h (by omega), fun h hw => WAYA.mk v70.toInt (w79 hw) (fun e => by omega) (fun q => by omega) (fun q => by omega)⟩⟩
      · have c81_ : v70.toInt ≠ (-1) := en_i_eq_f c81
        refine At.enter rfl ?_
        refine r_iload_n rfl ?_
        refine r_iconst (-1) rfl ?_
        refine r_ics 31 rfl (fun c83 => ?_) (fun c83 => ?_)
        · have c83_ : a2.toInt ≠ (-1) := en_i_ne_t c83
          refine At.enter rfl ?_
          refine r_iload_n rfl ?_
          refine q_i2l (fun v84 hv84 => ?_)
          refine r_lconst 0 rfl ?_
          refine r_iload_n rfl ?_
          refine q_i2l (fun v85 hv85 => ?_)
          refine q_inlS 43 rfl [.long v84, .long 0, .long v85] [] (Nat.le_of_ble_eq_true rfl) rfl ?_
          refine Ev.mk rfl rfl ⟨Nat.le_of_ble_eq_true rfl, Or.inl rfl⟩ ?_
          show At _ none _ _ (0, [(0, .long v84), (2, .long 0), (4, .long v85)], [], (_, _)) _
          refine At.enter rfl ?_
          refine r_lload_n rfl ?_
          refine r_lload_n rfl ?_
          refine r_lcmp _ rfl ?_
          refine r_ifs 6 rfl (fun c86 => ?_) (fun c86 => ?_)
          · have c86_ : v84.toInt < 0 := en_j_lt_t c86
            refine At.enter rfl ?_
            refine r_iconst 0 rfl ?_
            refine Ar.fall 18 rfl ?_
            refine At.enter rfl ?_
            refine q_iretz (by decide) ?_
            refine At.enter rfl ?_
            refine r_ift (by decide) ?_
            refine At.enter rfl ?_
            refine r_iconst (-1) rfl ?_
            refine Ar.fall 56 rfl ?_
            refine At.enter rfl ?_
            refine r_ireti ?_
            have zv87 : ((-1) : Int32).toInt = (-1) := rfl
            have x88 := HI.eqA hI0 (p := 233) (j := 1) (hv58)
            exact ⟨_, rfl, hI68, hF72, _, rfl, by decide, ⟨fun h => absurd h (by omega), fun h hw => WAYA.mk v70.toInt (w79 hw) (fun e => by omega) (fun q => by omega) (fun q => by omega)⟩⟩
          · have c86_ : v84.toInt ≥ 0 := en_j_lt_f c86
            refine At.enter rfl ?_
            refine r_lload_n rfl ?_
            refine r_lload rfl ?_
            refine r_lcmp _ rfl ?_
            refine r_ifs 13 rfl (fun c89 => ?_) (fun c89 => ?_)
            · have c89_ : v84.toInt > v85.toInt := en_j_gt_t c89
              refine At.enter rfl ?_
              refine r_iconst 0 rfl ?_
              refine Ar.fall 18 rfl ?_
              refine At.enter rfl ?_
              refine q_iretz (by decide) ?_
              refine At.enter rfl ?_
              refine r_ift (by decide) ?_
              refine At.enter rfl ?_
              refine r_iconst (-1) rfl ?_
              refine Ar.fall 56 rfl ?_
              refine At.enter rfl ?_
              refine r_ireti ?_
              have zv90 : ((-1) : Int32).toInt = (-1) := rfl
              have x91 := HI.eqA hI0 (p := 233) (j := 1) (hv58)
              exact ⟨_, rfl, hI68, hF72, _, rfl, by decide, ⟨fun h => absurd h (by omega), fun h hw => WAYA.mk v70.toInt (w79 hw) (fun e => by omega) (fun q => by omega) (fun q => by omega)⟩⟩
            · have c89_ : v84.toInt ≤ v85.toInt := en_j_gt_f c89
              refine At.enter rfl ?_
              refine r_iconst 1 rfl ?_
              refine r_goto ?_
              refine At.enter rfl ?_
              refine q_iretz (by decide) ?_
              refine At.enter rfl ?_
              refine r_iff 46 rfl (by decide) ?_
              refine At.enter rfl ?_
              refine r_aload_n rfl ?_
              refine q_getR (Sh.ref hI68.1 kx_231 rfl) ?_
              refine r_iload_n rfl ?_
              obtain ⟨v92, hv92⟩ : ∃ v, eA g67 249 a2.toInt = v := ⟨_, rfl⟩
              have rv92 := RgA.at hI68.2.2.1 (Sh.arr hI68.1 ka_249).2 (p := 249) rfl (j := a2.toInt) (by omega)
              rw [hv92] at rv92
              dsimp only at rv92
              refine q_iald (Sh.arr hI68.1 ka_249) a2.toInt rfl (by omega) v92 hv92 ?_
              refine r_goto ?_
              refine At.enter rfl ?_
              refine r_ireti ?_
              have x93 := HI.eqA hI0 (p := 233) (j := 1) (hv58)
              exact ⟨_, rfl, hI68, hF72, _, rfl, by omega, ⟨fun h => absurd h (by omega), fun h hw => WAYA.mk v70.toInt (w79 hw) (fun e => by omega) (fun q => by have z := w80 _ q.2.1 q.2.2; rw [hv92] at z; omega) (fun q => by omega)⟩⟩
        · have c83_ : a2.toInt = (-1) := en_i_ne_f c83
          refine At.enter rfl ?_
          refine r_iload_n rfl ?_
          refine r_goto ?_
          refine At.enter rfl ?_
          refine r_ireti ?_
          have x94 := HI.eqA hI0 (p := 233) (j := 1) (hv58)
          exact ⟨_, rfl, hI68, hF72, _, rfl, by omega, ⟨fun h => absurd h (by omega), fun h hw => WAYA.mk v70.toInt (w79 hw) (fun e => by omega) (fun q => by omega) (fun q => by omega)⟩⟩

def zF_X11_enter_231 : List (Nat × Nat) := [(231, 0)]
def zA_X11_enter_231 : List Nat := []
set_option maxRecDepth 100000 in
set_option maxHeartbeats 4000000 in
theorem zT_X11_enter_231 (d : Nat) {N : Nat} {g0 : List en_E} (hI0 : HI g0) (a1 : Int32) (a2 : Int32) : Ev (d + 4) 222 [.ref 231, .int a1, .int a2] (g0, N) (fun w h' => ∃ g', h' = (g', N) ∧ HI g' ∧ Fr zF_X11_enter_231 zA_X11_enter_231 g0 g' ∧ ∃ r : Int32, w = some (.int r) ∧ True ∧ ((¬ ((0 ≤ a1.toInt ∧ a1.toInt < (eA g0 233 0).toInt) ∧ BIT a2 (eA g0 233 0).toInt) → r.toInt = -1) ∧ (((0 ≤ a1.toInt ∧ a1.toInt < (eA g0 233 0).toInt) ∧ BIT a2 (eA g0 233 0).toInt) → r.toInt = (ACI (RCI (NMq g0) (hbI a2) a1.toInt 12) (eA g0 233 0).toInt).toInt))) := by
  have hF0 : Fr zF_X11_enter_231 zA_X11_enter_231 g0 g0 := Fr.rf
  refine Ev.mk rfl rfl ⟨Nat.le_of_ble_eq_true rfl, Or.inr (q_rc hI0.1 kx_231 rfl)⟩ ?_
  show At _ none _ _ (0, [(0, .ref 231), (1, .int a1), (2, .int a2)], [], (_, _)) _
  refine At.enter rfl ?_
  refine r_aload_n rfl ?_
  refine r_iconst 0 rfl ?_
  refine q_putI (Sh.int hI0.1 kx_231 rfl) rfl ?_
  have hI10179 := HI.wI0 hI0 kx_231 rfl (p := 231) (b := 0) (v := 0) rfl
  have hF10180 := Fr.wI (p := 231) (b := 0) (v := 0) hF0 rfl
  refine r_aload_n rfl ?_
  refine r_iload_n rfl ?_
  refine q_inlV 10 rfl [.ref 231, .int a1] [] (Nat.le_of_ble_eq_true rfl) rfl ?_
  refine Ev.mk rfl rfl ⟨Nat.le_of_ble_eq_true rfl, Or.inr (q_rc hI10179.1 kx_231 rfl)⟩ ?_
  show At _ none _ _ (0, [(0, .ref 231), (1, .int a1)], [], (_, _)) _
  refine At.enter rfl ?_
  refine r_iload_n rfl ?_
  refine q_i2l (fun v10181 hv10181 => ?_)
  refine r_lconst 0 rfl ?_
  refine r_aload_n rfl ?_
  refine q_getR (Sh.ref hI10179.1 kx_231 rfl) ?_
  refine r_iconst 0 rfl ?_
  obtain ⟨v10182, hv10182⟩ : ∃ v, eA g0 233 0 = v := ⟨_, rfl⟩
  have tv10182 := congrArg Int32.toInt hv10182
  have wv10182 := HI.t0 hI0
  rw [hv10182] at wv10182
  refine q_iald (Sh.arr hI10179.1 ka_233) 0 rfl (by decide) v10182 ((eA_c (gA_sI)).trans hv10182) ?_
  refine q_i2l (fun v10183 hv10183 => ?_)
  refine r_lconst 1 rfl ?_
  refine q_lsub (v10183.toInt - 1) rfl (by omega) (fun v10184 hv10184 => ?_)
  refine q_inlS 15 rfl [.long v10181, .long 0, .long v10184] [] (Nat.le_of_ble_eq_true rfl) rfl ?_
  refine Ev.mk rfl rfl ⟨Nat.le_of_ble_eq_true rfl, Or.inl rfl⟩ ?_
  show At _ none _ _ (0, [(0, .long v10181), (2, .long 0), (4, .long v10184)], [], (_, _)) _
  refine At.enter rfl ?_
  refine r_lload_n rfl ?_
  refine r_lload_n rfl ?_
  refine r_lcmp _ rfl ?_
  refine r_ifs 6 rfl (fun c10185 => ?_) (fun c10185 => ?_)
  · have c10185_ : v10181.toInt < 0 := en_j_lt_t c10185
    refine At.enter rfl ?_
    refine r_iconst 0 rfl ?_
    refine Ar.fall 18 rfl ?_
    refine At.enter rfl ?_
    refine q_iretz (by decide) ?_
    refine At.enter rfl ?_
    refine q_iretz (by decide) ?_
    refine At.enter rfl ?_
    refine r_ift (by decide) ?_
    refine At.enter rfl ?_
    refine r_iconst (-1) rfl ?_
    refine r_ireti ?_
    have zv10186 : ((-1) : Int32).toInt = (-1) := rfl
    have x10187 := HI.eqA hI0 (p := 233) (j := 0) (hv10182)
    exact ⟨_, rfl, hI10179, hF10180, _, rfl, trivial, ⟨fun _ => by omega, fun h => by first | exact absurd h.1 (by omega) | exact absurd h.2.1 (by omega) | exact absurd ((BIT.r (b := a2) (v := a2) (n := (eA g0 233 0).toInt) (by rw [hv10182]; exact BIT.m hNone (by omega))).mp h.2).2 (by omega)⟩⟩
  · have c10185_ : v10181.toInt ≥ 0 := en_j_lt_f c10185
    refine At.enter rfl ?_
    refine r_lload_n rfl ?_
    refine r_lload rfl ?_
    refine r_lcmp _ rfl ?_
    refine r_ifs 13 rfl (fun c10188 => ?_) (fun c10188 => ?_)
    · have c10188_ : v10181.toInt > v10184.toInt := en_j_gt_t c10188
      refine At.enter rfl ?_
      refine r_iconst 0 rfl ?_
      refine Ar.fall 18 rfl ?_
      refine At.enter rfl ?_
      refine q_iretz (by decide) ?_
      refine At.enter rfl ?_
      refine q_iretz (by decide) ?_
      refine At.enter rfl ?_
      refine r_ift (by decide) ?_
      refine At.enter rfl ?_
      refine r_iconst (-1) rfl ?_
      refine r_ireti ?_
      have zv10189 : ((-1) : Int32).toInt = (-1) := rfl
      have x10190 := HI.eqA hI0 (p := 233) (j := 0) (hv10182)
      exact ⟨_, rfl, hI10179, hF10180, _, rfl, trivial, ⟨fun _ => by omega, fun h => by first | exact absurd h.1 (by omega) | exact absurd h.2.1 (by omega) | exact absurd ((BIT.r (b := a2) (v := a2) (n := (eA g0 233 0).toInt) (by rw [hv10182]; exact BIT.m hNone (by omega))).mp h.2).2 (by omega)⟩⟩
    · have c10188_ : v10181.toInt ≤ v10184.toInt := en_j_gt_f c10188
      refine At.enter rfl ?_
      refine r_iconst 1 rfl ?_
      refine r_goto ?_
      refine At.enter rfl ?_
      refine q_iretz (by decide) ?_
      refine At.enter rfl ?_
      refine q_iretz (by decide) ?_
      refine At.enter rfl ?_
      refine r_iff 13 rfl (by decide) ?_
      refine At.enter rfl ?_
      refine r_aload_n rfl ?_
      refine r_iload_n rfl ?_
      refine q_inlV 18 rfl [.ref 231, .int a2] [] (Nat.le_of_ble_eq_true rfl) rfl ?_
      refine Ev.mk rfl rfl ⟨Nat.le_of_ble_eq_true rfl, Or.inr (q_rc hI10179.1 kx_231 rfl)⟩ ?_
      show At _ none _ _ (0, [(0, .ref 231), (1, .int a2)], [], (_, _)) _
      refine At.enter rfl ?_
      refine r_iload_n rfl ?_
      refine q_i2l (fun v10191 hv10191 => ?_)
      refine r_lconst 0 rfl ?_
      refine r_iconst 1 rfl ?_
      refine r_aload_n rfl ?_
      refine q_getR (Sh.ref hI10179.1 kx_231 rfl) ?_
      refine r_iconst 0 rfl ?_
      refine q_iald (Sh.arr hI10179.1 ka_233) 0 rfl (by decide) v10182 ((eA_c (gA_sI)).trans hv10182) ?_
      refine q_ishlO (fun v10192 hv10192 => ?_)
      refine q_i2l (fun v10193 hv10193 => ?_)
      refine r_lconst 1 rfl ?_
      have bv10194 := q_bnd v10192
      refine q_lsub (v10193.toInt - 1) rfl (by omega) (fun v10195 hv10195 => ?_)
      refine q_inlS 17 rfl [.long v10191, .long 0, .long v10195] [] (Nat.le_of_ble_eq_true rfl) rfl ?_
      refine Ev.mk rfl rfl ⟨Nat.le_of_ble_eq_true rfl, Or.inl rfl⟩ ?_
      show At _ none _ _ (0, [(0, .long v10191), (2, .long 0), (4, .long v10195)], [], (_, _)) _
      refine At.enter rfl ?_
      refine r_lload_n rfl ?_
      refine r_lload_n rfl ?_
      refine r_lcmp _ rfl ?_
      refine r_ifs 6 rfl (fun c10196 => ?_) (fun c10196 => ?_)
      · have c10196_ : v10191.toInt < 0 := en_j_lt_t c10196
        refine At.enter rfl ?_
        refine r_iconst 0 rfl ?_
        refine Ar.fall 18 rfl ?_
        refine At.enter rfl ?_
        refine q_iretz (by decide) ?_
        refine At.enter rfl ?_
        refine q_iretz (by decide) ?_
        refine At.enter rfl ?_
        refine r_iff 21 rfl (by decide) ?_
        refine At.enter rfl ?_
        refine r_iconst (-1) rfl ?_
        refine r_ireti ?_
        have zv10197 : ((-1) : Int32).toInt = (-1) := rfl
        have x10198 := HI.eqA hI0 (p := 233) (j := 0) (hv10182)
        exact ⟨_, rfl, hI10179, hF10180, _, rfl, trivial, ⟨fun _ => by omega, fun h => by first | exact absurd h.1 (by omega) | exact absurd h.2.1 (by omega) | exact absurd ((BIT.r (b := a2) (v := v10192) (n := (eA g0 233 0).toInt) (by rw [hv10182]; exact BIT.m hv10192 (by omega))).mp h.2).2 (by omega)⟩⟩
      · have c10196_ : v10191.toInt ≥ 0 := en_j_lt_f c10196
        refine At.enter rfl ?_
        refine r_lload_n rfl ?_
        refine r_lload rfl ?_
        refine r_lcmp _ rfl ?_
        refine r_ifs 13 rfl (fun c10199 => ?_) (fun c10199 => ?_)
        · have c10199_ : v10191.toInt > v10195.toInt := en_j_gt_t c10199
          refine At.enter rfl ?_
          refine r_iconst 0 rfl ?_
          refine Ar.fall 18 rfl ?_
          refine At.enter rfl ?_
          refine q_iretz (by decide) ?_
          refine At.enter rfl ?_
          refine q_iretz (by decide) ?_
          refine At.enter rfl ?_
          refine r_iff 21 rfl (by decide) ?_
          refine At.enter rfl ?_
          refine r_iconst (-1) rfl ?_
          refine r_ireti ?_
          have zv10200 : ((-1) : Int32).toInt = (-1) := rfl
          have x10201 := HI.eqA hI0 (p := 233) (j := 0) (hv10182)
          exact ⟨_, rfl, hI10179, hF10180, _, rfl, trivial, ⟨fun _ => by omega, fun h => by first | exact absurd h.1 (by omega) | exact absurd h.2.1 (by omega) | exact absurd ((BIT.r (b := a2) (v := v10192) (n := (eA g0 233 0).toInt) (by rw [hv10182]; exact BIT.m hv10192 (by omega))).mp h.2).2 (by omega)⟩⟩
        · have c10199_ : v10191.toInt ≤ v10195.toInt := en_j_gt_f c10199
          refine At.enter rfl ?_
          refine r_iconst 1 rfl ?_
          refine r_goto ?_
          refine At.enter rfl ?_
          refine q_iretz (by decide) ?_
          refine At.enter rfl ?_
          refine q_iretz (by decide) ?_
          refine At.enter rfl ?_
          refine r_ift (by decide) ?_
          refine At.enter rfl ?_
          refine r_iconst 0 rfl ?_
          refine r_istore_n ([(3, .int 0), (0, .ref 231), (1, .int a1), (2, .int a2)]) rfl ?_
          refine r_iconst 0 rfl ?_
          refine r_istore ([(4, .int 0), (3, .int 0), (0, .ref 231), (1, .int a1), (2, .int a2)]) rfl ?_
          refine Ar.fall 28 rfl ?_
          have z_14764 : (0 : Int32).toInt = 0 := rfl
          have z_14765 : (0 : Int32).toInt = 0 := rfl
          have x14766 := HI.eqA hI10179 (p := 233) (j := 0) (((eA_c gA_sI).trans hv10182))
          refine w_loopI (fun n_ l_ g_ => ∃ x14747 : Int32, ∃ x14748 : Int32, n_ = 12 - x14748.toInt ∧ HI g_ ∧ Fr zF_X11_enter_231 zA_X11_enter_231 g0 g_ ∧ en_get 0 l_ = some (.ref 231) ∧ en_get 1 l_ = some (.int a1) ∧ en_get 2 l_ = some (.int a2) ∧ en_get 3 l_ = some (.int x14747) ∧ en_get 4 l_ = some (.int x14748) ∧ (0 ≤ x14748.toInt ∧ x14748.toInt ≤ 12) ∧ (x14747.toInt = (ACI (RCI (NMq g0) (hbI a2) a1.toInt 12) x14748.toInt).toInt) ∧ (0 ≤ x14748.toInt) ∧ (x14748.toInt ≤ (eA g0 233 0).toInt)) ?_ (12 - 0) ⟨0, 0, by first | rfl | omega, hI10179, hF10180, rfl, rfl, rfl, rfl, rfl, by decide, ((by first | rfl | omega : _ = (0 : Int)).trans (ACI.z _ (by first | decide | omega))), by omega, by omega⟩
          rintro n14753 l14752 g14749 ⟨x14747, x14748, hm14767, hI14750, hF14751, e14755, e14756, e14757, e14758, e14759, r14760, q14761, q14762, q14763⟩ ih14754
          refine At.enter rfl ?_
          refine r_iload e14759 ?_
          refine r_aload_n e14755 ?_
          refine q_getR (Sh.ref hI14750.1 kx_231 rfl) ?_
          refine r_iconst 0 rfl ?_
          refine q_iald (Sh.arr hI14750.1 ka_233) 0 rfl (by decide) v10182 ((eA_c (hF14751.2.1 233 (by decide))).trans hv10182) ?_
          have bv14769 := q_bnd x14748
          have bv14770 := q_bnd v10182
          refine r_ics 39 rfl (fun c14768 => ?_) (fun c14768 => ?_)
          · have c14768_ : x14748.toInt ≥ v10182.toInt := en_i_ge_t c14768
            refine At.enter rfl ?_
            refine r_iload_n e14758 ?_
            refine r_ireti ?_
            have x14771 := HI.eqA hI0 (p := 233) (j := 0) (hv10182)
            exact ⟨_, rfl, hI14750, hF14751, _, rfl, trivial, ⟨fun h => absurd ⟨⟨by omega, by omega⟩, (BIT.r (b := a2) (v := v10192) (n := (eA g0 233 0).toInt) (by rw [hv10182]; exact BIT.m hv10192 (by omega))).mpr ⟨by omega, by omega⟩⟩ h, fun _ => (by rw [show (eA g0 233 0).toInt = x14748.toInt from by omega]; exact q14761)⟩⟩
          · have c14768_ : x14748.toInt < v10182.toInt := en_i_ge_f c14768
            refine At.enter rfl ?_
            refine r_iload e14759 ?_
            refine r_istore _ rfl ?_
            refine r_iconst 0 rfl ?_
            refine r_istore _ rfl ?_
            refine Ar.fall 46 rfl ?_
            have z_15233 : (0 : Int32).toInt = 0 := rfl
            refine w_loopI (fun n_ l_ g_ => ∃ x15213 : Int32, ∃ x15214 : Int32, ∃ x15215 : Int32, n_ = 13 - x15215.toInt ∧ HI g_ ∧ Fr zF_X11_enter_231 zA_X11_enter_231 g0 g_ ∧ en_get 0 l_ = some (.ref 231) ∧ en_get 1 l_ = some (.int a1) ∧ en_get 2 l_ = some (.int a2) ∧ en_get 3 l_ = some (.int x15213) ∧ en_get 4 l_ = some (.int x14748) ∧ en_get 5 l_ = some (.int x15214) ∧ en_get 6 l_ = some (.int x15215) ∧ ((-1) ≤ x15214.toInt ∧ x15214.toInt ≤ 11) ∧ (0 ≤ x15215.toInt ∧ x15215.toInt ≤ 13) ∧ ((x15214.toInt = -1 ∧ x15213.toInt = (ACI (RCI (NMq g0) (hbI a2) a1.toInt 12) (x14748.toInt + 1)).toInt) ∨ (x15214.toInt ≠ -1 ∧ x15213.toInt = (ACI (RCI (NMq g0) (hbI a2) a1.toInt 12) x14748.toInt).toInt ∧ (RCI (NMq g0) (hbI a2) a1.toInt (12 - x15215.toInt) x15214.toInt ↔ RCI (NMq g0) (hbI a2) a1.toInt 12 x14748.toInt))) ∧ (0 ≤ x15215.toInt)) ?_ (13 - 0) ⟨x14747, x14748, 0, by first | rfl | omega, hI14750, hF14751, (w_p1 (by decide) (Or.inr rfl) (w_p1 (by decide) (Or.inr rfl) e14755)), (w_p1 (by decide) (Or.inr rfl) (w_p1 (by decide) (Or.inr rfl) e14756)), (w_p1 (by decide) (Or.inr rfl) (w_p1 (by decide) (Or.inr rfl) e14757)), (w_p1 (by decide) (Or.inr rfl) (w_p1 (by decide) (Or.inr rfl) e14758)), (w_p1 (by decide) (Or.inr rfl) (w_p1 (by decide) (Or.inr rfl) e14759)), (w_p1 (by decide) (Or.inr rfl) (w_e1 _ _ _)), (w_e1 _ _ _), by omega, by decide, (Or.inr ⟨by omega, q14761, Iff.rfl⟩), by omega⟩
            rintro n15220 l15219 g15216 ⟨x15213, x15214, x15215, hm15234, hI15217, hF15218, e15222, e15223, e15224, e15225, e15226, e15227, e15228, r15229, r15230, q15231, q15232⟩ ih15221
            refine At.enter rfl ?_
            refine r_iload e15228 ?_
            refine r_bipush 13 rfl ?_
            refine r_ics 53 rfl (fun c15235 => ?_) (fun c15235 => ?_)
            · have c15235_ : x15215.toInt ≥ 13 := en_i_ge_t c15235
              refine At.enter rfl ?_
              refine q_iinc e15226 (x14748.toInt + 1) rfl (by omega) (fun v15236 hv15236 => ?_)
              refine r_goto ?_
              have bv15237 := q_bnd x15213
              exact ih14754 (12 - v15236.toInt) _ _ ⟨x15213, v15236, by first | rfl | omega, hI15217, hF15218, (w_p1 (by decide) (Or.inr rfl) e15222), (w_p1 (by decide) (Or.inr rfl) e15223), (w_p1 (by decide) (Or.inr rfl) e15224), (w_p1 (by decide) (Or.inr rfl) e15225), (w_e1 _ _ _), by omega, (by rw [show v15236.toInt = x14748.toInt + 1 from by omega]; exact q15231.elim (fun l => l.2) (fun r => ACI.no (by omega) rfl (fun f => by have z := r.2.2.mpr f; (first | (exact RCI.neg (by omega) z) | (exact absurd r.1 (by omega)))) r.2.1)), by omega, by omega⟩ ⟨by omega, by omega⟩
            · have c15235_ : x15215.toInt < 13 := en_i_ge_f c15235
              refine At.enter rfl ?_
              refine r_iload e15227 ?_
              refine r_iconst (-1) rfl ?_
              refine r_ics 59 rfl (fun c15238 => ?_) (fun c15238 => ?_)
              · have c15238_ : x15214.toInt = (-1) := en_i_eq_t c15238
                refine At.enter rfl ?_
                refine q_iinc e15226 (x14748.toInt + 1) rfl (by omega) (fun v15239 hv15239 => ?_)
                refine r_goto ?_
                have bv15240 := q_bnd x15213
                exact ih14754 (12 - v15239.toInt) _ _ ⟨x15213, v15239, by first | rfl | omega, hI15217, hF15218, (w_p1 (by decide) (Or.inr rfl) e15222), (w_p1 (by decide) (Or.inr rfl) e15223), (w_p1 (by decide) (Or.inr rfl) e15224), (w_p1 (by decide) (Or.inr rfl) e15225), (w_e1 _ _ _), by omega, (by rw [show v15239.toInt = x14748.toInt + 1 from by omega]; exact q15231.elim (fun l => l.2) (fun r => ACI.no (by omega) rfl (fun f => by have z := r.2.2.mpr f; (first | (exact RCI.neg (by omega) z) | (exact absurd r.1 (by omega)))) r.2.1)), by omega, by omega⟩ ⟨by omega, by omega⟩
              · have c15238_ : x15214.toInt ≠ (-1) := en_i_eq_f c15238
                refine At.enter rfl ?_
                refine r_iload_n e15224 ?_
                refine r_iload e15227 ?_
                refine r_iconst (-1) rfl ?_
                refine r_ics 66 rfl (fun c15241 => ?_) (fun c15241 => ?_)
                · have c15241_ : x15214.toInt ≠ (-1) := en_i_ne_t c15241
                  refine At.enter rfl ?_
                  refine r_iload e15227 ?_
                  refine Ar.fall 72 rfl ?_
                  refine At.enter rfl ?_
                  refine r_callS 75 rfl [.int a2, .int x15214] [] (Nat.le_of_ble_eq_true rfl) rfl (zT_X11_is_hb _ hI15217 a2 x15214) ?_
                  rintro _ _ ⟨g15242, rfl, hI15243, hF15244, v15245, rfl, hr15246⟩
                  refine At.sti ?_
                  have hF15247 := Fr.tr hF15218 hF15244 rfl rfl
                  refine At.enter rfl ?_
                  refine r_ifs 78 rfl (fun c15248 => ?_) (fun c15248 => ?_)
                  · have c15248_ : v15245.toInt ≠ 0 := en_k_ne_t c15248
                    refine At.enter rfl ?_
                    refine q_iinc e15226 (x14748.toInt + 1) rfl (by omega) (fun v15249 hv15249 => ?_)
                    refine r_goto ?_
                    have bv15250 := q_bnd x15213
                    exact ih14754 (12 - v15249.toInt) _ _ ⟨x15213, v15249, by first | rfl | omega, hI15243, hF15247, (w_p1 (by decide) (Or.inr rfl) e15222), (w_p1 (by decide) (Or.inr rfl) e15223), (w_p1 (by decide) (Or.inr rfl) e15224), (w_p1 (by decide) (Or.inr rfl) e15225), (w_e1 _ _ _), by omega, (by rw [show v15249.toInt = x14748.toInt + 1 from by omega]; exact q15231.elim (fun l => l.2) (fun r => ACI.no (by omega) rfl (fun f => by have z := r.2.2.mpr f; (first | (exact RCI.neg (by omega) z) | (exact absurd r.1 (by omega)) | (exact RCI.hb (BL.yes hr15246.2 (by omega)) z))) r.2.1)), by omega, by omega⟩ ⟨by omega, by omega⟩
                  · have c15248_ : v15245.toInt = 0 := en_k_ne_f c15248
                    refine At.enter rfl ?_
                    refine r_iload_n e15225 ?_
                    refine r_iload e15227 ?_
                    refine r_iload_n e15223 ?_
                    refine r_ics 85 rfl (fun c15251 => ?_) (fun c15251 => ?_)
                    · have c15251_ : x15214.toInt ≠ a1.toInt := en_i_ne_t c15251
                      refine At.enter rfl ?_
                      refine r_iconst 0 rfl ?_
                      refine Ar.fall 93 rfl ?_
                      refine At.enter rfl ?_
                      refine q_iorO (fun v15252 hv15252 => ?_)
                      refine r_istore_n _ rfl ?_
                      refine r_iload (w_p1 (by decide) (Or.inr rfl) e15227) ?_
                      refine r_iload_n (w_p1 (by decide) (Or.inr rfl) e15223) ?_
                      refine r_ics 101 rfl (fun c15253 => ?_) (fun c15253 => ?_)
                      · have c15253_ : x15214.toInt ≠ a1.toInt := en_i_ne_t c15253
                        refine At.enter rfl ?_
                        refine r_aload_n (w_p1 (by decide) (Or.inr rfl) e15222) ?_
                        refine r_iload (w_p1 (by decide) (Or.inr rfl) e15227) ?_
                        refine r_iconst 0 rfl ?_
                        refine r_callV 112 rfl [.ref 231, .int x15214, .int 0] [] (Nat.le_of_ble_eq_true rfl) rfl (T_X11_nextOf0_231 _ hI15243 x15214 (by omega)) ?_
                        rintro _ _ ⟨g15254, rfl, hI15255, hF15256, v15257, rfl, hr15258⟩
                        refine At.sti ?_
                        have hF15259 := Fr.tr hF15247 hF15256 rfl rfl
                        have zv15260 : (0 : Int32).toInt = 0 := rfl
                        rw [eA_c (((hF15244.2.1 233 (by decide)).trans (hF15218.2.1 233 (by decide))))] at hr15258
                        rw [NMo.c (((hF15244.2.1 233 (by decide)).trans (hF15218.2.1 233 (by decide))))] at hr15258
                        refine At.enter rfl ?_
                        refine r_istore _ rfl ?_
                        refine q_iinc (w_p1 (by decide) (Or.inr rfl) (w_p1 (by decide) (Or.inr rfl) e15228)) (x15215.toInt + 1) rfl (by omega) (fun v15261 hv15261 => ?_)
                        refine r_goto ?_
                        have bv15262 := q_bnd v15252
                        exact ih15221 (13 - v15261.toInt) _ _ ⟨v15252, v15257, v15261, by first | rfl | omega, hI15255, hF15259, (w_p1 (by decide) (Or.inr rfl) (w_p1 (by decide) (Or.inr rfl) (w_p1 (by decide) (Or.inr rfl) e15222))), (w_p1 (by decide) (Or.inr rfl) (w_p1 (by decide) (Or.inr rfl) (w_p1 (by decide) (Or.inr rfl) e15223))), (w_p1 (by decide) (Or.inr rfl) (w_p1 (by decide) (Or.inr rfl) (w_p1 (by decide) (Or.inr rfl) e15224))), (w_p1 (by decide) (Or.inr rfl) (w_p1 (by decide) (Or.inr rfl) (w_e1 _ _ _))), (w_p1 (by decide) (Or.inr rfl) (w_p1 (by decide) (Or.inr rfl) (w_p1 (by decide) (Or.inr rfl) e15226))), (w_p1 (by decide) (Or.inr rfl) (w_e1 _ _ _)), (w_e1 _ _ _), by omega, by omega, (by obtain ⟨r1, r2, r3⟩ := q15231.resolve_left (fun l => absurd l.1 (by omega)); first | (exact Or.inl ⟨by first | rfl | omega, ACI.yes (i := x14748) (by omega) rfl (r3.mp ((RCI.want (by omega) (by omega) (show x15214.toInt = a1.toInt from by omega)).mpr (BL.no hr15246.2 (by omega)))) rfl hv15252 (by assumption) r2⟩) | (have st := RCI.step (N := NMq g0) (hb := hbI a2) (w := a1.toInt) (m := 12 - x15215.toInt) (m' := 12 - v15261.toInt) (t := x15214.toInt) (by omega) (by omega) (BL.no hr15246.2 (by omega)) (by omega) (by omega); rw [← show v15257.toInt = NMq g0 x15214.toInt from (by have z := NMq.ne (g := g0) (s := x15214.toInt) (by omega); omega)] at st; exact (Decidable.em (v15257.toInt = -1)).elim (fun e => Or.inl ⟨e, (q_or0 hv15252 (by first | rfl | omega)).trans (ACI.no (by omega) rfl (fun f => by have z := st.mp (r3.mpr f); rw [e] at z; exact RCI.none (by omega) z) r2)⟩) (fun e => Or.inr ⟨e, (q_or0 hv15252 (by first | rfl | omega)).trans r2, st.symm.trans r3⟩))), by omega⟩ ⟨by omega, by omega⟩
                      · have c15253_ : x15214.toInt = a1.toInt := en_i_ne_f c15253
                        refine At.enter rfl ?_
                        refine r_iconst (-1) rfl ?_
                        refine r_goto ?_
                        refine At.enter rfl ?_
                        refine r_istore _ rfl ?_
                        refine q_iinc (w_p1 (by decide) (Or.inr rfl) (w_p1 (by decide) (Or.inr rfl) e15228)) (x15215.toInt + 1) rfl (by omega) (fun v15263 hv15263 => ?_)
                        refine r_goto ?_
                        have bv15264 := q_bnd v15252
                        exact ih15221 (13 - v15263.toInt) _ _ ⟨v15252, (-1), v15263, by first | rfl | omega, hI15243, hF15247, (w_p1 (by decide) (Or.inr rfl) (w_p1 (by decide) (Or.inr rfl) (w_p1 (by decide) (Or.inr rfl) e15222))), (w_p1 (by decide) (Or.inr rfl) (w_p1 (by decide) (Or.inr rfl) (w_p1 (by decide) (Or.inr rfl) e15223))), (w_p1 (by decide) (Or.inr rfl) (w_p1 (by decide) (Or.inr rfl) (w_p1 (by decide) (Or.inr rfl) e15224))), (w_p1 (by decide) (Or.inr rfl) (w_p1 (by decide) (Or.inr rfl) (w_e1 _ _ _))), (w_p1 (by decide) (Or.inr rfl) (w_p1 (by decide) (Or.inr rfl) (w_p1 (by decide) (Or.inr rfl) e15226))), (w_p1 (by decide) (Or.inr rfl) (w_e1 _ _ _)), (w_e1 _ _ _), by decide, by omega, (by obtain ⟨r1, r2, r3⟩ := q15231.resolve_left (fun l => absurd l.1 (by omega)); first | (exact Or.inl ⟨by first | rfl | omega, ACI.yes (i := x14748) (by omega) rfl (r3.mp ((RCI.want (by omega) (by omega) (show x15214.toInt = a1.toInt from by omega)).mpr (BL.no hr15246.2 (by omega)))) rfl hv15252 (by assumption) r2⟩) | (have st := RCI.step (N := NMq g0) (hb := hbI a2) (w := a1.toInt) (m := 12 - x15215.toInt) (m' := 12 - v15263.toInt) (t := x15214.toInt) (by omega) (by omega) (BL.no hr15246.2 (by omega)) (by omega) (by omega); rw [← show (-1) = NMq g0 x15214.toInt from (by have z := NMq.ne (g := g0) (s := x15214.toInt) (by omega); omega)] at st; exact (Decidable.em ((-1) = -1)).elim (fun e => Or.inl ⟨e, (q_or0 hv15252 (by first | rfl | omega)).trans (ACI.no (by omega) rfl (fun f => by have z := st.mp (r3.mpr f); rw [e] at z; exact RCI.none (by omega) z) r2)⟩) (fun e => Or.inr ⟨e, (q_or0 hv15252 (by first | rfl | omega)).trans r2, st.symm.trans r3⟩))), by omega⟩ ⟨by omega, by omega⟩
                    · have c15251_ : x15214.toInt = a1.toInt := en_i_ne_f c15251
                      refine At.enter rfl ?_
                      refine r_iconst 1 rfl ?_
                      refine r_iload e15226 ?_
                      refine q_ishlO (fun v15265 hv15265 => ?_)
                      refine r_goto ?_
                      refine At.enter rfl ?_
                      refine q_iorO (fun v15266 hv15266 => ?_)
                      refine r_istore_n _ rfl ?_
                      refine r_iload (w_p1 (by decide) (Or.inr rfl) e15227) ?_
                      refine r_iload_n (w_p1 (by decide) (Or.inr rfl) e15223) ?_
                      refine r_ics 101 rfl (fun c15267 => ?_) (fun c15267 => ?_)
                      · have c15267_ : x15214.toInt ≠ a1.toInt := en_i_ne_t c15267
                        refine At.enter rfl ?_
                        refine r_aload_n (w_p1 (by decide) (Or.inr rfl) e15222) ?_
                        refine r_iload (w_p1 (by decide) (Or.inr rfl) e15227) ?_
                        refine r_iconst 0 rfl ?_
                        refine r_callV 112 rfl [.ref 231, .int x15214, .int 0] [] (Nat.le_of_ble_eq_true rfl) rfl (T_X11_nextOf0_231 _ hI15243 x15214 (by omega)) ?_
                        rintro _ _ ⟨g15268, rfl, hI15269, hF15270, v15271, rfl, hr15272⟩
                        refine At.sti ?_
                        have hF15273 := Fr.tr hF15247 hF15270 rfl rfl
                        have zv15274 : (0 : Int32).toInt = 0 := rfl
                        rw [eA_c (((hF15244.2.1 233 (by decide)).trans (hF15218.2.1 233 (by decide))))] at hr15272
                        rw [NMo.c (((hF15244.2.1 233 (by decide)).trans (hF15218.2.1 233 (by decide))))] at hr15272
                        refine At.enter rfl ?_
                        refine r_istore _ rfl ?_
                        refine q_iinc (w_p1 (by decide) (Or.inr rfl) (w_p1 (by decide) (Or.inr rfl) e15228)) (x15215.toInt + 1) rfl (by omega) (fun v15275 hv15275 => ?_)
                        refine r_goto ?_
                        have bv15276 := q_bnd v15266
                        exact ih15221 (13 - v15275.toInt) _ _ ⟨v15266, v15271, v15275, by first | rfl | omega, hI15269, hF15273, (w_p1 (by decide) (Or.inr rfl) (w_p1 (by decide) (Or.inr rfl) (w_p1 (by decide) (Or.inr rfl) e15222))), (w_p1 (by decide) (Or.inr rfl) (w_p1 (by decide) (Or.inr rfl) (w_p1 (by decide) (Or.inr rfl) e15223))), (w_p1 (by decide) (Or.inr rfl) (w_p1 (by decide) (Or.inr rfl) (w_p1 (by decide) (Or.inr rfl) e15224))), (w_p1 (by decide) (Or.inr rfl) (w_p1 (by decide) (Or.inr rfl) (w_e1 _ _ _))), (w_p1 (by decide) (Or.inr rfl) (w_p1 (by decide) (Or.inr rfl) (w_p1 (by decide) (Or.inr rfl) e15226))), (w_p1 (by decide) (Or.inr rfl) (w_e1 _ _ _)), (w_e1 _ _ _), by omega, by omega, (by obtain ⟨r1, r2, r3⟩ := q15231.resolve_left (fun l => absurd l.1 (by omega)); first | (exact Or.inl ⟨by first | rfl | omega, ACI.yes (i := x14748) (by omega) rfl (r3.mp ((RCI.want (by omega) (by omega) (show x15214.toInt = a1.toInt from by omega)).mpr (BL.no hr15246.2 (by omega)))) rfl hv15266 (by assumption) r2⟩) | (have st := RCI.step (N := NMq g0) (hb := hbI a2) (w := a1.toInt) (m := 12 - x15215.toInt) (m' := 12 - v15275.toInt) (t := x15214.toInt) (by omega) (by omega) (BL.no hr15246.2 (by omega)) (by omega) (by omega); rw [← show v15271.toInt = NMq g0 x15214.toInt from (by have z := NMq.ne (g := g0) (s := x15214.toInt) (by omega); omega)] at st; exact (Decidable.em (v15271.toInt = -1)).elim (fun e => Or.inl ⟨e, (q_or0 hv15266 (by first | rfl | omega)).trans (ACI.no (by omega) rfl (fun f => by have z := st.mp (r3.mpr f); rw [e] at z; exact RCI.none (by omega) z) r2)⟩) (fun e => Or.inr ⟨e, (q_or0 hv15266 (by first | rfl | omega)).trans r2, st.symm.trans r3⟩))), by omega⟩ ⟨by omega, by omega⟩
                      · have c15267_ : x15214.toInt = a1.toInt := en_i_ne_f c15267
                        refine At.enter rfl ?_
                        refine r_iconst (-1) rfl ?_
                        refine r_goto ?_
                        refine At.enter rfl ?_
                        refine r_istore _ rfl ?_
                        refine q_iinc (w_p1 (by decide) (Or.inr rfl) (w_p1 (by decide) (Or.inr rfl) e15228)) (x15215.toInt + 1) rfl (by omega) (fun v15277 hv15277 => ?_)
                        refine r_goto ?_
                        have bv15278 := q_bnd v15266
                        exact ih15221 (13 - v15277.toInt) _ _ ⟨v15266, (-1), v15277, by first | rfl | omega, hI15243, hF15247, (w_p1 (by decide) (Or.inr rfl) (w_p1 (by decide) (Or.inr rfl) (w_p1 (by decide) (Or.inr rfl) e15222))), (w_p1 (by decide) (Or.inr rfl) (w_p1 (by decide) (Or.inr rfl) (w_p1 (by decide) (Or.inr rfl) e15223))), (w_p1 (by decide) (Or.inr rfl) (w_p1 (by decide) (Or.inr rfl) (w_p1 (by decide) (Or.inr rfl) e15224))), (w_p1 (by decide) (Or.inr rfl) (w_p1 (by decide) (Or.inr rfl) (w_e1 _ _ _))), (w_p1 (by decide) (Or.inr rfl) (w_p1 (by decide) (Or.inr rfl) (w_p1 (by decide) (Or.inr rfl) e15226))), (w_p1 (by decide) (Or.inr rfl) (w_e1 _ _ _)), (w_e1 _ _ _), by decide, by omega, (by obtain ⟨r1, r2, r3⟩ := q15231.resolve_left (fun l => absurd l.1 (by omega)); first | (exact Or.inl ⟨by first | rfl | omega, ACI.yes (i := x14748) (by omega) rfl (r3.mp ((RCI.want (by omega) (by omega) (show x15214.toInt = a1.toInt from by omega)).mpr (BL.no hr15246.2 (by omega)))) rfl hv15266 (by assumption) r2⟩) | (have st := RCI.step (N := NMq g0) (hb := hbI a2) (w := a1.toInt) (m := 12 - x15215.toInt) (m' := 12 - v15277.toInt) (t := x15214.toInt) (by omega) (by omega) (BL.no hr15246.2 (by omega)) (by omega) (by omega); rw [← show (-1) = NMq g0 x15214.toInt from (by have z := NMq.ne (g := g0) (s := x15214.toInt) (by omega); omega)] at st; exact (Decidable.em ((-1) = -1)).elim (fun e => Or.inl ⟨e, (q_or0 hv15266 (by first | rfl | omega)).trans (ACI.no (by omega) rfl (fun f => by have z := st.mp (r3.mpr f); rw [e] at z; exact RCI.none (by omega) z) r2)⟩) (fun e => Or.inr ⟨e, (q_or0 hv15266 (by first | rfl | omega)).trans r2, st.symm.trans r3⟩))), by omega⟩ ⟨by omega, by omega⟩
                · have c15241_ : x15214.toInt = (-1) := en_i_ne_f c15241
                  exfalso; omega

def zF_X11_pieces_231 : List (Nat × Nat) := [(231, 0)]
def zA_X11_pieces_231 : List Nat := [249]
set_option maxRecDepth 100000 in
set_option maxHeartbeats 4000000 in
theorem zT_X11_pieces_231 (d : Nat) {N : Nat} {g0 : List en_E} (hI0 : HI g0) (a1 : Int32) : Ev (d + 5) 253 [.ref 231, .int a1] (g0, N) (fun w h' => ∃ g', h' = (g', N) ∧ HI g' ∧ Fr zF_X11_pieces_231 zA_X11_pieces_231 g0 g' ∧ ∃ r : Int32, w = some (.int r) ∧ True ∧ ((¬ (0 ≤ a1.toInt ∧ a1.toInt < (eA g0 233 1).toInt) → r.toInt = -1) ∧ ((0 ≤ a1.toInt ∧ a1.toInt < (eA g0 233 1).toInt) → (eA g0 233 (46 + (6 * a1.toInt + 2))).toInt ≠ -1 → PCE (NMq g0) (SM g0) 12 (eA g0 233 (46 + (6 * a1.toInt + 1))).toInt (eA g0 233 (46 + (6 * a1.toInt + 2))).toInt (eA g0 233 (46 + (6 * a1.toInt + 0))).toInt r))) := by
  have hF0 : Fr zF_X11_pieces_231 zA_X11_pieces_231 g0 g0 := Fr.rf
  refine Ev.mk rfl rfl ⟨Nat.le_of_ble_eq_true rfl, Or.inr (q_rc hI0.1 kx_231 rfl)⟩ ?_
  show At _ none _ _ (0, [(0, .ref 231), (1, .int a1)], [], (_, _)) _
  refine At.enter rfl ?_
  refine r_aload_n rfl ?_
  refine r_iconst 0 rfl ?_
  refine q_putI (Sh.int hI0.1 kx_231 rfl) rfl ?_
  have hI681 := HI.wI0 hI0 kx_231 rfl (p := 231) (b := 0) (v := 0) rfl
  have hF682 := Fr.wI (p := 231) (b := 0) (v := 0) hF0 rfl
  refine r_aload_n rfl ?_
  refine r_iload_n rfl ?_
  refine q_inlV 10 rfl [.ref 231, .int a1] [] (Nat.le_of_ble_eq_true rfl) rfl ?_
  refine Ev.mk rfl rfl ⟨Nat.le_of_ble_eq_true rfl, Or.inr (q_rc hI681.1 kx_231 rfl)⟩ ?_
  show At _ none _ _ (0, [(0, .ref 231), (1, .int a1)], [], (_, _)) _
  refine At.enter rfl ?_
  refine r_iload_n rfl ?_
  refine q_i2l (fun v683 hv683 => ?_)
  refine r_lconst 0 rfl ?_
  refine r_aload_n rfl ?_
  refine q_getR (Sh.ref hI681.1 kx_231 rfl) ?_
  refine r_iconst 1 rfl ?_
  obtain ⟨v684, hv684⟩ : ∃ v, eA g0 233 1 = v := ⟨_, rfl⟩
  have tv684 := congrArg Int32.toInt hv684
  have wv684 := HI.t1 hI0
  rw [hv684] at wv684
  refine q_iald (Sh.arr hI681.1 ka_233) 1 rfl (by decide) v684 ((eA_c (gA_sI)).trans hv684) ?_
  refine q_i2l (fun v685 hv685 => ?_)
  refine r_lconst 1 rfl ?_
  refine q_lsub (v685.toInt - 1) rfl (by omega) (fun v686 hv686 => ?_)
  refine q_inlS 15 rfl [.long v683, .long 0, .long v686] [] (Nat.le_of_ble_eq_true rfl) rfl ?_
  refine Ev.mk rfl rfl ⟨Nat.le_of_ble_eq_true rfl, Or.inl rfl⟩ ?_
  show At _ none _ _ (0, [(0, .long v683), (2, .long 0), (4, .long v686)], [], (_, _)) _
  refine At.enter rfl ?_
  refine r_lload_n rfl ?_
  refine r_lload_n rfl ?_
  refine r_lcmp _ rfl ?_
  refine r_ifs 6 rfl (fun c687 => ?_) (fun c687 => ?_)
  · have c687_ : v683.toInt < 0 := en_j_lt_t c687
    refine At.enter rfl ?_
    refine r_iconst 0 rfl ?_
    refine Ar.fall 18 rfl ?_
    refine At.enter rfl ?_
    refine q_iretz (by decide) ?_
    refine At.enter rfl ?_
    refine q_iretz (by decide) ?_
    refine At.enter rfl ?_
    refine r_iff 13 rfl (by decide) ?_
    refine At.enter rfl ?_
    refine r_iconst (-1) rfl ?_
    refine r_ireti ?_
    have zv688 : ((-1) : Int32).toInt = (-1) := rfl
    have x689 := HI.eqA hI0 (p := 233) (j := 1) (hv684)
    exact ⟨_, rfl, hI681, hF682, _, rfl, trivial, ⟨fun _ => by omega, fun h => absurd h (by omega)⟩⟩
  · have c687_ : v683.toInt ≥ 0 := en_j_lt_f c687
    refine At.enter rfl ?_
    refine r_lload_n rfl ?_
    refine r_lload rfl ?_
    refine r_lcmp _ rfl ?_
    refine r_ifs 13 rfl (fun c690 => ?_) (fun c690 => ?_)
    · have c690_ : v683.toInt > v686.toInt := en_j_gt_t c690
      refine At.enter rfl ?_
      refine r_iconst 0 rfl ?_
      refine Ar.fall 18 rfl ?_
      refine At.enter rfl ?_
      refine q_iretz (by decide) ?_
      refine At.enter rfl ?_
      refine q_iretz (by decide) ?_
      refine At.enter rfl ?_
      refine r_iff 13 rfl (by decide) ?_
      refine At.enter rfl ?_
      refine r_iconst (-1) rfl ?_
      refine r_ireti ?_
      have zv691 : ((-1) : Int32).toInt = (-1) := rfl
      have x692 := HI.eqA hI0 (p := 233) (j := 1) (hv684)
      exact ⟨_, rfl, hI681, hF682, _, rfl, trivial, ⟨fun _ => by omega, fun h => absurd h (by omega)⟩⟩
    · have c690_ : v683.toInt ≤ v686.toInt := en_j_gt_f c690
      refine At.enter rfl ?_
      refine r_iconst 1 rfl ?_
      refine r_goto ?_
      refine At.enter rfl ?_
      refine q_iretz (by decide) ?_
      refine At.enter rfl ?_
      refine q_iretz (by decide) ?_
      refine At.enter rfl ?_
      refine r_ift (by decide) ?_
      refine At.enter rfl ?_
      refine r_aload_n rfl ?_
      refine r_iload_n rfl ?_
      refine r_callV 20 rfl [.ref 231, .int a1] [] (Nat.le_of_ble_eq_true rfl) rfl (zT_X11_findWay_231 _ hI681 a1 (by omega) (by rw [eA_c ((gA_sI)), hv684]; omega)) ?_
      rintro _ _ ⟨g693, rfl, hI694, hF695, v696, rfl, hr697⟩
      refine At.sti ?_
      have hF698 := Fr.tr hF682 hF695 rfl rfl
      obtain ⟨w699, w700, w701, w702⟩ := hr697
      have w703 := And.intro w699 w700
      have fw704 : ∀ j : Int, 0 ≤ j → j ≤ v696.toInt → (eA g693 249 j).toInt < (eA g0 233 0).toInt := fun j a b => by have z := w703.2 j a b; rw [eA_c ((gA_sI))] at z; exact z
      have w705 := WAYF.cg ((gA_sI)) w701
      have w706 := itI.cg ((gA_sI)) w702
      refine At.enter rfl ?_
      refine r_istore_n ([(2, .int v696), (0, .ref 231), (1, .int a1)]) rfl ?_
      refine r_iload_n rfl ?_
      refine r_iconst 1 rfl ?_
      refine r_ics 26 rfl (fun c707 => ?_) (fun c707 => ?_)
      · have c707_ : v696.toInt ≥ 1 := en_i_ge_t c707
        refine At.enter rfl ?_
        refine r_bipush 9 rfl ?_
        refine r_istore_n ([(3, .int 9), (2, .int v696), (0, .ref 231), (1, .int a1)]) rfl ?_
        refine r_iconst 0 rfl ?_
        refine r_istore ([(4, .int 0), (3, .int 9), (2, .int v696), (0, .ref 231), (1, .int a1)]) rfl ?_
        refine Ar.fall 34 rfl ?_
        have z_999 : (9 : Int32).toInt = 9 := rfl
        have z_1000 : (0 : Int32).toInt = 0 := rfl
        refine w_loopI (fun n_ l_ g_ => ∃ x979 : Int32, ∃ x980 : Int32, n_ = 12 - x980.toInt ∧ HI g_ ∧ Fr zF_X11_pieces_231 zA_X11_pieces_231 g0 g_ ∧ en_get 0 l_ = some (.ref 231) ∧ en_get 1 l_ = some (.int a1) ∧ en_get 2 l_ = some (.int v696) ∧ en_get 3 l_ = some (.int x979) ∧ en_get 4 l_ = some (.int x980) ∧ (1 ≤ x979.toInt ∧ x979.toInt ≤ 9) ∧ (0 ≤ x980.toInt ∧ x980.toInt ≤ 12) ∧ (∀ j : Int, 0 ≤ j → j ≤ v696.toInt → (eA g_ 249 j).toInt < (eA g0 233 0).toInt) ∧ (∀ j : Int, 0 ≤ j → j ≤ v696.toInt → (eA g_ 249 j).toInt = itI (NMq g0) j (eA g0 233 (46 + (6 * a1.toInt + 1))).toInt) ∧ (x979.toInt = LSI (NMq g0) (SM g0) x980.toInt (eA g0 233 (46 + (6 * a1.toInt + 1))).toInt) ∧ (0 ≤ x980.toInt) ∧ (x980.toInt ≤ v696.toInt)) ?_ (12 - 0) ⟨9, 0, by first | rfl | omega, hI694, hF698, rfl, rfl, rfl, rfl, rfl, by decide, by decide, (fun j a b => by rw [eA_c (rfl)]; exact fw704 j a b), (fun j a b => (eA_ti (rfl)).trans (w706 j a b)), (LSI.z _ _ _ (by first | decide | omega)), by omega, by omega⟩
        rintro n985 l984 g981 ⟨x979, x980, hm1001, hI982, hF983, e987, e988, e989, e990, e991, r992, r993, q994, q995, q996, q997, q998⟩ ih986
        refine At.enter rfl ?_
        refine r_iload e991 ?_
        refine r_iload_n e989 ?_
        have bv1003 := q_bnd x980
        have bv1004 := q_bnd v696
        refine r_ics 40 rfl (fun c1002 => ?_) (fun c1002 => ?_)
        · have c1002_ : x980.toInt ≥ v696.toInt := en_i_ge_t c1002
          refine At.enter rfl ?_
          refine r_iload_n e989 ?_
          refine r_aload_n e987 ?_
          refine r_iload_n e988 ?_
          refine r_iconst 0 rfl ?_
          refine q_inlV 86 rfl [.ref 231, .int a1, .int 0] [.int v696] (Nat.le_of_ble_eq_true rfl) rfl ?_
          refine Ev.mk rfl rfl ⟨Nat.le_of_ble_eq_true rfl, Or.inr (q_rc hI982.1 kx_231 rfl)⟩ ?_
          show At _ none _ _ (0, [(0, .ref 231), (1, .int a1), (2, .int 0)], [], (_, _)) _
          refine At.enter rfl ?_
          refine r_aload_n rfl ?_
          refine q_getR (Sh.ref hI982.1 kx_231 rfl) ?_
          refine r_bipush 46 rfl ?_
          refine r_bipush 6 rfl ?_
          refine r_iload_n rfl ?_
          refine q_imul (6 * a1.toInt) rfl (by omega) (fun v1005 hv1005 => ?_)
          refine q_iadd (46 + v1005.toInt) rfl (by omega) (fun v1006 hv1006 => ?_)
          refine r_iload_n rfl ?_
          refine q_iadd (v1006.toInt + 0) rfl (by omega) (fun v1007 hv1007 => ?_)
          obtain ⟨v1008, hv1008⟩ : ∃ v, eA g0 233 (6 * a1.toInt + 46) = v := ⟨_, rfl⟩
          have wv1008 := HI.l0 hI0 (j := (6 * a1.toInt + 46)) (a1.toInt) (by omega) (by omega)
          rw [hv1008] at wv1008
          refine q_iald (Sh.arr hI982.1 ka_233) (6 * a1.toInt + 46) (by omega) (by omega) v1008 ((eA_c (hF983.2.1 233 (by decide))).trans hv1008) ?_
          refine q_ireti ?_
          refine At.enter rfl ?_
          refine r_iload_n e990 ?_
          refine q_iaddO (fun v1009 ov1009 => ?_)
          refine r_iconst 1 rfl ?_
          refine q_isubO (fun v1010 ov1010 => ?_)
          refine r_iload_n e990 ?_
          refine q_idivO (by omega) (fun v1011 ov1011 => ?_)
          refine q_iaddO (fun v1012 ov1012 => ?_)
          refine r_iconst 1 rfl ?_
          refine q_isubO (fun v1013 ov1013 => ?_)
          refine r_ireti ?_
          have x1014 := HI.eqA hI0 (p := 233) (j := 1) (hv684)
          exact ⟨_, rfl, hI982, hF983, _, rfl, trivial, ⟨fun h => absurd h (by omega), fun h hw => PCE.mk v696 x979 v1008 (w705 hw) (by rw [show v696.toInt = x980.toInt from by omega]; exact q996) (by omega) (by omega) ((congrArg Int32.toInt hv1008).symm.trans (eA_ix (by omega))) (by rw [ov1013, ov1012, ov1011, ov1010, ov1009])⟩⟩
        · have c1002_ : x980.toInt < v696.toInt := en_i_ge_f c1002
          refine At.enter rfl ?_
          refine r_aload_n e987 ?_
          refine r_aload_n e987 ?_
          refine q_getR (Sh.ref hI982.1 kx_231 rfl) ?_
          refine r_iload e991 ?_
          obtain ⟨v1015, hv1015⟩ : ∃ v, eA g981 249 x980.toInt = v := ⟨_, rfl⟩
          have rv1015 := RgA.at hI982.2.2.1 (Sh.arr hI982.1 ka_249).2 (p := 249) rfl (j := x980.toInt) (by omega)
          rw [hv1015] at rv1015
          dsimp only at rv1015
          have yv1015 := q994 x980.toInt (by omega) (by omega)
          rw [hv1015] at yv1015
          have zv1015 := q995 x980.toInt (by omega) (by omega)
          rw [hv1015] at zv1015
          refine q_iald (Sh.arr hI982.1 ka_249) x980.toInt rfl (by omega) v1015 hv1015 ?_
          refine r_iconst 1 rfl ?_
          refine q_inlV 52 rfl [.ref 231, .int v1015, .int 1] [] (Nat.le_of_ble_eq_true rfl) rfl ?_
          refine Ev.mk rfl rfl ⟨Nat.le_of_ble_eq_true rfl, Or.inr (q_rc hI982.1 kx_231 rfl)⟩ ?_
          show At _ none _ _ (0, [(0, .ref 231), (1, .int v1015), (2, .int 1)], [], (_, _)) _
          refine At.enter rfl ?_
          refine r_aload_n rfl ?_
          refine q_getR (Sh.ref hI982.1 kx_231 rfl) ?_
          refine r_bipush 10 rfl ?_
          refine r_iconst 3 rfl ?_
          refine r_iload_n rfl ?_
          refine q_imul (3 * v1015.toInt) rfl (by omega) (fun v1016 hv1016 => ?_)
          refine q_iadd (10 + v1016.toInt) rfl (by omega) (fun v1017 hv1017 => ?_)
          refine r_iload_n rfl ?_
          refine q_iadd (v1017.toInt + 1) rfl (by omega) (fun v1018 hv1018 => ?_)
          obtain ⟨v1019, hv1019⟩ : ∃ v, eA g0 233 (3 * v1015.toInt + 11) = v := ⟨_, rfl⟩
          have wv1019 := HI.s1 hI0 (j := (3 * v1015.toInt + 11)) (v1015.toInt) (by omega) (by omega)
          rw [hv1019] at wv1019
          refine q_iald (Sh.arr hI982.1 ka_233) (3 * v1015.toInt + 11) (by omega) (by omega) v1019 ((eA_c (hF983.2.1 233 (by decide))).trans hv1019) ?_
          refine q_ireti ?_
          refine At.enter rfl ?_
          refine r_iload_n e990 ?_
          have bv1021 := q_bnd v1019
          have bv1022 := q_bnd x979
          refine r_ics 56 rfl (fun c1020 => ?_) (fun c1020 => ?_)
          · have c1020_ : v1019.toInt ≥ x979.toInt := en_i_ge_t c1020
            refine At.enter rfl ?_
            refine r_iload_n e990 ?_
            refine Ar.fall 72 rfl ?_
            refine At.enter rfl ?_
            refine r_istore_n _ rfl ?_
            refine q_iinc (w_p1 (by decide) (Or.inr rfl) e991) (x980.toInt + 1) rfl (by omega) (fun v1023 hv1023 => ?_)
            refine r_goto ?_
            exact ih986 (12 - v1023.toInt) _ _ ⟨x979, v1023, by first | rfl | omega, hI982, hF983, (w_p1 (by decide) (Or.inr rfl) (w_p1 (by decide) (Or.inr rfl) e987)), (w_p1 (by decide) (Or.inr rfl) (w_p1 (by decide) (Or.inr rfl) e988)), (w_p1 (by decide) (Or.inr rfl) (w_p1 (by decide) (Or.inr rfl) e989)), (w_p1 (by decide) (Or.inr rfl) (w_e1 _ _ _)), (w_e1 _ _ _), by omega, by omega, (fun j a b => by rw [eA_c (rfl)]; exact q994 j a b), (fun j a b => (eA_ti (rfl)).trans (q995 j a b)), (LSI.step (x := v1019.toInt) (by omega) (show v1023.toInt = x980.toInt + 1 from by omega) q996 (by rw [← zv1015]; show (eA g0 233 (10 + 3 * v1015.toInt + 1)).toInt = _; exact (eA_ix (by omega)).trans (congrArg Int32.toInt hv1019)) ⟨by omega, by omega, by omega⟩), by omega, by omega⟩ ⟨by omega, by omega⟩
          · have c1020_ : v1019.toInt < x979.toInt := en_i_ge_f c1020
            refine At.enter rfl ?_
            refine r_aload_n e987 ?_
            refine r_aload_n e987 ?_
            refine q_getR (Sh.ref hI982.1 kx_231 rfl) ?_
            refine r_iload e991 ?_
            refine q_iald (Sh.arr hI982.1 ka_249) x980.toInt rfl (by omega) v1015 hv1015 ?_
            refine r_iconst 1 rfl ?_
            refine q_inlV 68 rfl [.ref 231, .int v1015, .int 1] [] (Nat.le_of_ble_eq_true rfl) rfl ?_
            refine Ev.mk rfl rfl ⟨Nat.le_of_ble_eq_true rfl, Or.inr (q_rc hI982.1 kx_231 rfl)⟩ ?_
            show At _ none _ _ (0, [(0, .ref 231), (1, .int v1015), (2, .int 1)], [], (_, _)) _
            refine At.enter rfl ?_
            refine r_aload_n rfl ?_
            refine q_getR (Sh.ref hI982.1 kx_231 rfl) ?_
            refine r_bipush 10 rfl ?_
            refine r_iconst 3 rfl ?_
            refine r_iload_n rfl ?_
            refine q_imul (3 * v1015.toInt) rfl (by omega) (fun v1024 hv1024 => ?_)
            refine q_iadd (10 + v1024.toInt) rfl (by omega) (fun v1025 hv1025 => ?_)
            refine r_iload_n rfl ?_
            refine q_iadd (v1025.toInt + 1) rfl (by omega) (fun v1026 hv1026 => ?_)
            refine q_iald (Sh.arr hI982.1 ka_233) (3 * v1015.toInt + 11) (by omega) (by omega) v1019 ((eA_c (hF983.2.1 233 (by decide))).trans hv1019) ?_
            refine q_ireti ?_
            refine At.enter rfl ?_
            refine r_goto ?_
            refine At.enter rfl ?_
            refine r_istore_n _ rfl ?_
            refine q_iinc (w_p1 (by decide) (Or.inr rfl) e991) (x980.toInt + 1) rfl (by omega) (fun v1027 hv1027 => ?_)
            refine r_goto ?_
            exact ih986 (12 - v1027.toInt) _ _ ⟨v1019, v1027, by first | rfl | omega, hI982, hF983, (w_p1 (by decide) (Or.inr rfl) (w_p1 (by decide) (Or.inr rfl) e987)), (w_p1 (by decide) (Or.inr rfl) (w_p1 (by decide) (Or.inr rfl) e988)), (w_p1 (by decide) (Or.inr rfl) (w_p1 (by decide) (Or.inr rfl) e989)), (w_p1 (by decide) (Or.inr rfl) (w_e1 _ _ _)), (w_e1 _ _ _), by omega, by omega, (fun j a b => by rw [eA_c (rfl)]; exact q994 j a b), (fun j a b => (eA_ti (rfl)).trans (q995 j a b)), (LSI.step (x := v1019.toInt) (by omega) (show v1027.toInt = x980.toInt + 1 from by omega) q996 (by rw [← zv1015]; show (eA g0 233 (10 + 3 * v1015.toInt + 1)).toInt = _; exact (eA_ix (by omega)).trans (congrArg Int32.toInt hv1019)) ⟨by omega, by omega, by omega⟩), by omega, by omega⟩ ⟨by omega, by omega⟩
      · have c707_ : v696.toInt < 1 := en_i_ge_f c707
        refine At.enter rfl ?_
        refine r_iload_n rfl ?_
        refine r_ireti ?_
        have x1028 := HI.eqA hI0 (p := 233) (j := 1) (hv684)
        exact ⟨_, rfl, hI694, hF698, _, rfl, trivial, ⟨fun h => absurd h (by omega), fun h hw => PCE.few v696 (w705 hw) (by omega) (by omega)⟩⟩

def zF_X11_addLoad_231 : List (Nat × Nat) := []
def zA_X11_addLoad_231 : List Nat := [233]
set_option maxRecDepth 100000 in
set_option maxHeartbeats 4000000 in
theorem zT_X11_addLoad_231 (d : Nat) {N : Nat} {g0 : List en_E} (hI0 : HI g0) (a1 : Int32) (h_a1 : 1 ≤ a1.toInt ∧ a1.toInt ≤ 9) (a2 : Int32) (h_a2 : 0 ≤ a2.toInt ∧ a2.toInt ≤ 11) (a3 : Int32) (h_a3 : 0 ≤ a3.toInt ∧ a3.toInt ≤ 11) (a4 : Int32) (h_a4 : 0 ≤ a4.toInt ∧ a4.toInt ≤ 99) (a5 : Int32) (h_a5 : 0 ≤ a5.toInt ∧ a5.toInt ≤ 9) (a6 : Int32) (h_a6 : 0 ≤ a6.toInt ∧ a6.toInt ≤ 9999) (h1 : (eA g0 233 1).toInt < 8) (h2 : a2.toInt < (eA g0 233 0).toInt) (h3 : a3.toInt < (eA g0 233 0).toInt) : Ev (d + 1) 177 [.ref 231, .int a1, .int a2, .int a3, .int a4, .int a5, .int a6] (g0, N) (fun w h' => ∃ g', h' = (g', N) ∧ HI g' ∧ Fr zF_X11_addLoad_231 zA_X11_addLoad_231 g0 g' ∧ w = none ∧ ((∀ i : Int, 0 ≤ i → i < 46 → i ≠ 1 → eA g' 233 i = eA g0 233 i) ∧ (eA g' 233 1).toInt = (eA g0 233 1).toInt + 1 ∧ (∀ i : Int, 94 ≤ i → i < 110 → (eA g' 233 (i)).toInt = (eA g0 233 (i)).toInt) ∧ (∀ i : Int, 46 ≤ i → i < 94 → (eA g' 233 (i)).toInt = if i = 46 + 6 * (eA g0 233 1).toInt + 0 then a1.toInt else if i = 46 + 6 * (eA g0 233 1).toInt + 1 then a2.toInt else if i = 46 + 6 * (eA g0 233 1).toInt + 2 then a3.toInt else if i = 46 + 6 * (eA g0 233 1).toInt + 3 then a4.toInt else if i = 46 + 6 * (eA g0 233 1).toInt + 4 then a5.toInt else if i = 46 + 6 * (eA g0 233 1).toInt + 5 then a6.toInt else (eA g0 233 (i)).toInt))) := by
  have hF0 : Fr zF_X11_addLoad_231 zA_X11_addLoad_231 g0 g0 := Fr.rf
  refine Ev.mk rfl rfl ⟨Nat.le_of_ble_eq_true rfl, Or.inr (q_rc hI0.1 kx_231 rfl)⟩ ?_
  show At _ none _ _ (0, [(0, .ref 231), (1, .int a1), (2, .int a2), (3, .int a3), (4, .int a4), (5, .int a5), (6, .int a6)], [], (_, _)) _
  refine At.enter rfl ?_
  refine r_bipush 46 rfl ?_
  refine r_bipush 6 rfl ?_
  refine r_aload_n rfl ?_
  refine q_getR (Sh.ref hI0.1 kx_231 rfl) ?_
  refine r_iconst 1 rfl ?_
  obtain ⟨v59, hv59⟩ : ∃ v, eA g0 233 1 = v := ⟨_, rfl⟩
  have tv59 := congrArg Int32.toInt hv59
  have wv59 := HI.t1 hI0
  rw [hv59] at wv59
  have uv59 := h1; rw [hv59] at uv59
  refine q_iald (Sh.arr hI0.1 ka_233) 1 rfl (by decide) v59 hv59 ?_
  refine q_imul (6 * v59.toInt) rfl (by omega) (fun v60 hv60 => ?_)
  refine q_iadd (46 + v60.toInt) rfl (by omega) (fun v61 hv61 => ?_)
  refine r_istore ([(7, .int v61), (0, .ref 231), (1, .int a1), (2, .int a2), (3, .int a3), (4, .int a4), (5, .int a5), (6, .int a6)]) rfl ?_
  refine r_aload_n rfl ?_
  refine q_getR (Sh.ref hI0.1 kx_231 rfl) ?_
  refine r_iload rfl ?_
  refine r_iload_n rfl ?_
  refine q_iast (Sh.arr hI0.1 ka_233) ((6 * v59.toInt + 46)) (by omega) (by omega) ?_
  have hI62 := HI.wl hI0 (j := (6 * v59.toInt + 46)) (v := a1) (v59.toInt) 0 (by omega) (by decide) (by omega) (by omega)
  have hF63 := Fr.wA (p := 233) (j := (6 * v59.toInt + 46)) (v := a1) hF0 rfl
  refine r_aload_n rfl ?_
  refine q_getR (Sh.ref hI62.1 kx_231 rfl) ?_
  refine r_iload rfl ?_
  refine r_iconst 1 rfl ?_
  refine q_iadd (v61.toInt + 1) rfl (by omega) (fun v64 hv64 => ?_)
  refine r_iload_n rfl ?_
  refine q_iast (Sh.arr hI62.1 ka_233) ((6 * v59.toInt + 47)) (by omega) (by omega) ?_
  obtain ⟨v67, hv67⟩ : ∃ v, eA g0 233 0 = v := ⟨_, rfl⟩
  have tv67 := congrArg Int32.toInt hv67
  have wv67 := HI.t0 hI0
  rw [hv67] at wv67
  have uv67 := h2; rw [hv67] at uv67
  have wv67_ := h3; rw [hv67] at wv67_
  have tv67 := congrArg Int32.toInt hv67
  have x68 := HI.eqA hI62 (p := 233) (j := 0) (((eA_sA_ne hI0.1 ka_233 (by first | decide | omega) (by first | decide | omega) (by first | decide | omega)).trans hv67))
  have hI65 := HI.wl hI62 (j := (6 * v59.toInt + 47)) (v := a2) (v59.toInt) 1 (by omega) (by decide) (by omega) (by omega)
  have hF66 := Fr.wA (p := 233) (j := (6 * v59.toInt + 47)) (v := a2) hF63 rfl
  refine r_aload_n rfl ?_
  refine q_getR (Sh.ref hI65.1 kx_231 rfl) ?_
  refine r_iload rfl ?_
  refine r_iconst 2 rfl ?_
  refine q_iadd (v61.toInt + 2) rfl (by omega) (fun v69 hv69 => ?_)
  refine r_iload_n rfl ?_
  refine q_iast (Sh.arr hI65.1 ka_233) ((6 * v59.toInt + 48)) (by omega) (by omega) ?_
  have x72 := HI.eqA hI65 (p := 233) (j := 0) ((((eA_sA_ne hI62.1 ka_233 (by first | decide | omega) (by first | decide | omega) (by first | decide | omega)).trans (eA_sA_ne hI0.1 ka_233 (by first | decide | omega) (by first | decide | omega) (by first | decide | omega))).trans hv67))
  have hI70 := HI.wl hI65 (j := (6 * v59.toInt + 48)) (v := a3) (v59.toInt) 2 (by omega) (by decide) (by omega) (by omega)
  have hF71 := Fr.wA (p := 233) (j := (6 * v59.toInt + 48)) (v := a3) hF66 rfl
  refine r_aload_n rfl ?_
  refine q_getR (Sh.ref hI70.1 kx_231 rfl) ?_
  refine r_iload rfl ?_
  refine r_iconst 3 rfl ?_
  refine q_iadd (v61.toInt + 3) rfl (by omega) (fun v73 hv73 => ?_)
  refine r_iload rfl ?_
  refine q_iast (Sh.arr hI70.1 ka_233) ((6 * v59.toInt + 49)) (by omega) (by omega) ?_
  have hI74 := HI.wl hI70 (j := (6 * v59.toInt + 49)) (v := a4) (v59.toInt) 3 (by omega) (by decide) (by omega) (by omega)
  have hF75 := Fr.wA (p := 233) (j := (6 * v59.toInt + 49)) (v := a4) hF71 rfl
  refine r_aload_n rfl ?_
  refine q_getR (Sh.ref hI74.1 kx_231 rfl) ?_
  refine r_iload rfl ?_
  refine r_iconst 4 rfl ?_
  refine q_iadd (v61.toInt + 4) rfl (by omega) (fun v76 hv76 => ?_)
  refine r_iload rfl ?_
  refine q_iast (Sh.arr hI74.1 ka_233) ((6 * v59.toInt + 50)) (by omega) (by omega) ?_
  have hI77 := HI.wl hI74 (j := (6 * v59.toInt + 50)) (v := a5) (v59.toInt) 4 (by omega) (by decide) (by omega) (by omega)
  have hF78 := Fr.wA (p := 233) (j := (6 * v59.toInt + 50)) (v := a5) hF75 rfl
  refine r_aload_n rfl ?_
  refine q_getR (Sh.ref hI77.1 kx_231 rfl) ?_
  refine r_iload rfl ?_
  refine r_iconst 5 rfl ?_
  refine q_iadd (v61.toInt + 5) rfl (by omega) (fun v79 hv79 => ?_)
  refine r_iload rfl ?_
  refine q_iast (Sh.arr hI77.1 ka_233) ((6 * v59.toInt + 51)) (by omega) (by omega) ?_
  have hI80 := HI.wl hI77 (j := (6 * v59.toInt + 51)) (v := a6) (v59.toInt) 5 (by omega) (by decide) (by omega) (by omega)
  have hF81 := Fr.wA (p := 233) (j := (6 * v59.toInt + 51)) (v := a6) hF78 rfl
  refine r_aload_n rfl ?_
  refine q_getR (Sh.ref hI80.1 kx_231 rfl) ?_
  refine r_iconst 1 rfl ?_
  refine r_dup2 ⟨rfl, rfl⟩ ?_
  refine q_iald (Sh.arr hI80.1 ka_233) 1 rfl (by decide) v59 (((eA_sA_ne hI77.1 ka_233 (by first | decide | omega) (by first | decide | omega) (by first | decide | omega)).trans ((eA_sA_ne hI74.1 ka_233 (by first | decide | omega) (by first | decide | omega) (by first | decide | omega)).trans ((eA_sA_ne hI70.1 ka_233 (by first | decide | omega) (by first | decide | omega) (by first | decide | omega)).trans ((eA_sA_ne hI65.1 ka_233 (by first | decide | omega) (by first | decide | omega) (by first | decide | omega)).trans ((eA_sA_ne hI62.1 ka_233 (by first | decide | omega) (by first | decide | omega) (by first | decide | omega)).trans (eA_sA_ne hI0.1 ka_233 (by first | decide | omega) (by first | decide | omega) (by first | decide | omega))))))).trans hv59) ?_
  refine r_iconst 1 rfl ?_
  refine q_iadd (v59.toInt + 1) rfl (by omega) (fun v82 hv82 => ?_)
  refine q_iast (Sh.arr hI80.1 ka_233) (1) rfl (by decide) ?_
  have x85 := HI.eqA hI80 (p := 233) (j := 0) ((((eA_sA_ne hI77.1 ka_233 (by first | decide | omega) (by first | decide | omega) (by first | decide | omega)).trans ((eA_sA_ne hI74.1 ka_233 (by first | decide | omega) (by first | decide | omega) (by first | decide | omega)).trans ((eA_sA_ne hI70.1 ka_233 (by first | decide | omega) (by first | decide | omega) (by first | decide | omega)).trans ((eA_sA_ne hI65.1 ka_233 (by first | decide | omega) (by first | decide | omega) (by first | decide | omega)).trans ((eA_sA_ne hI62.1 ka_233 (by first | decide | omega) (by first | decide | omega) (by first | decide | omega)).trans (eA_sA_ne hI0.1 ka_233 (by first | decide | omega) (by first | decide | omega) (by first | decide | omega))))))).trans hv67))
  have x86 := HI.eqA hI80 (p := 233) (j := 1) ((((eA_sA_ne hI77.1 ka_233 (by first | decide | omega) (by first | decide | omega) (by first | decide | omega)).trans ((eA_sA_ne hI74.1 ka_233 (by first | decide | omega) (by first | decide | omega) (by first | decide | omega)).trans ((eA_sA_ne hI70.1 ka_233 (by first | decide | omega) (by first | decide | omega) (by first | decide | omega)).trans ((eA_sA_ne hI65.1 ka_233 (by first | decide | omega) (by first | decide | omega) (by first | decide | omega)).trans ((eA_sA_ne hI62.1 ka_233 (by first | decide | omega) (by first | decide | omega) (by first | decide | omega)).trans (eA_sA_ne hI0.1 ka_233 (by first | decide | omega) (by first | decide | omega) (by first | decide | omega))))))).trans hv59))
  have yv87 := HI.lt hI80
  have hI83 := HI.wt hI80 (j := 1) (v := v82) (by omega) (by omega)
  have hF84 := Fr.wA (p := 233) (j := 1) (v := v82) hF81 rfl
  refine r_vret ?_
  have x88 := HI.eqA hI83 (p := 233) (j := 1) ((eA_sA_eq hI80.1 ka_233 (by first | rfl | omega) (by first | decide | omega) (by first | decide | omega)))
  have x89 := HI.eqA hI0 (p := 233) (j := 1) (hv59)
  have x90 := HI.eqA hI0 (p := 233) (j := 0) (hv67)
  exact ⟨_, rfl, hI83, hF84, rfl, ⟨(fun i i0 i1 i2 => ((eA_sA_ne (i := i) hI80.1 ka_233 (by omega) (by first | decide | omega) (by omega)).trans ((eA_sA_ne (i := i) hI77.1 ka_233 (by omega) (by first | decide | omega) (by omega)).trans ((eA_sA_ne (i := i) hI74.1 ka_233 (by omega) (by first | decide | omega) (by omega)).trans ((eA_sA_ne (i := i) hI70.1 ka_233 (by omega) (by first | decide | omega) (by omega)).trans ((eA_sA_ne (i := i) hI65.1 ka_233 (by omega) (by first | decide | omega) (by omega)).trans ((eA_sA_ne (i := i) hI62.1 ka_233 (by omega) (by first | decide | omega) (by omega)).trans (eA_sA_ne (i := i) hI0.1 ka_233 (by omega) (by first | decide | omega) (by omega))))))))), by omega, (by intro i i0 i1; exact (Decidable.em (i = 1)).elim (fun k280_ => by refine (eA_eqT hI80.1 ka_233 k280_ (by first | decide | omega) (by first | decide | omega)).trans ?_; (first | (rfl) | (omega))) (fun k280_ => by refine (eA_neT hI80.1 ka_233 k280_ (by first | decide | omega) (by omega)).trans ?_; exact (Decidable.em (i = (6 * v59.toInt + 51))).elim (fun k281_ => by refine (eA_eqT hI77.1 ka_233 k281_ (by first | decide | omega) (by first | decide | omega)).trans ?_; (first | (rfl) | (omega))) (fun k281_ => by refine (eA_neT hI77.1 ka_233 k281_ (by first | decide | omega) (by omega)).trans ?_; exact (Decidable.em (i = (6 * v59.toInt + 50))).elim (fun k282_ => by refine (eA_eqT hI74.1 ka_233 k282_ (by first | decide | omega) (by first | decide | omega)).trans ?_; (first | (rfl) | (omega))) (fun k282_ => by refine (eA_neT hI74.1 ka_233 k282_ (by first | decide | omega) (by omega)).trans ?_; exact (Decidable.em (i = (6 * v59.toInt + 49))).elim (fun k283_ => by refine (eA_eqT hI70.1 ka_233 k283_ (by first | decide | omega) (by first | decide | omega)).trans ?_; (first | (rfl) | (omega))) (fun k283_ => by refine (eA_neT hI70.1 ka_233 k283_ (by first | decide | omega) (by omega)).trans ?_; exact (Decidable.em (i = (6 * v59.toInt + 48))).elim (fun k284_ => by refine (eA_eqT hI65.1 ka_233 k284_ (by first | decide | omega) (by first | decide | omega)).trans ?_; (first | (rfl) | (omega))) (fun k284_ => by refine (eA_neT hI65.1 ka_233 k284_ (by first | decide | omega) (by omega)).trans ?_; exact (Decidable.em (i = (6 * v59.toInt + 47))).elim (fun k285_ => by refine (eA_eqT hI62.1 ka_233 k285_ (by first | decide | omega) (by first | decide | omega)).trans ?_; (first | (rfl) | (omega))) (fun k285_ => by refine (eA_neT hI62.1 ka_233 k285_ (by first | decide | omega) (by omega)).trans ?_; exact (Decidable.em (i = (6 * v59.toInt + 46))).elim (fun k286_ => by refine (eA_eqT hI0.1 ka_233 k286_ (by first | decide | omega) (by first | decide | omega)).trans ?_; (first | (rfl) | (omega))) (fun k286_ => by refine (eA_neT hI0.1 ka_233 k286_ (by first | decide | omega) (by omega)).trans ?_; (first | rfl | exact eA_ix (by omega) | omega))))))))), (by intro i i0 i1; exact (Decidable.em (i = 46 + 6 * (eA g0 233 1).toInt + 0)).elim (fun k287_ => by refine Eq.trans ?_ (if_pos k287_).symm; exact (Decidable.em (i = 1)).elim (fun k288_ => by refine (eA_eqT hI80.1 ka_233 k288_ (by first | decide | omega) (by first | decide | omega)).trans ?_; (first | (rfl) | (omega))) (fun k288_ => by refine (eA_neT hI80.1 ka_233 k288_ (by first | decide | omega) (by omega)).trans ?_; exact (Decidable.em (i = (6 * v59.toInt + 51))).elim (fun k289_ => by refine (eA_eqT hI77.1 ka_233 k289_ (by first | decide | omega) (by first | decide | omega)).trans ?_; (first | (rfl) | (omega))) (fun k289_ => by refine (eA_neT hI77.1 ka_233 k289_ (by first | decide | omega) (by omega)).trans ?_; exact (Decidable.em (i = (6 * v59.toInt + 50))).elim (fun k290_ => by refine (eA_eqT hI74.1 ka_233 k290_ (by first | decide | omega) (by first | decide | omega)).trans ?_; (first | (rfl) | (omega))) (fun k290_ => by refine (eA_neT hI74.1 ka_233 k290_ (by first | decide | omega) (by omega)).trans ?_; exact (Decidable.em (i = (6 * v59.toInt + 49))).elim (fun k291_ => by refine (eA_eqT hI70.1 ka_233 k291_ (by first | decide | omega) (by first | decide | omega)).trans ?_; (first | (rfl) | (omega))) (fun k291_ => by refine (eA_neT hI70.1 ka_233 k291_ (by first | decide | omega) (by omega)).trans ?_; exact (Decidable.em (i = (6 * v59.toInt + 48))).elim (fun k292_ => by refine (eA_eqT hI65.1 ka_233 k292_ (by first | decide | omega) (by first | decide | omega)).trans ?_; (first | (rfl) | (omega))) (fun k292_ => by refine (eA_neT hI65.1 ka_233 k292_ (by first | decide | omega) (by omega)).trans ?_; exact (Decidable.em (i = (6 * v59.toInt + 47))).elim (fun k293_ => by refine (eA_eqT hI62.1 ka_233 k293_ (by first | decide | omega) (by first | decide | omega)).trans ?_; (first | (rfl) | (omega))) (fun k293_ => by refine (eA_neT hI62.1 ka_233 k293_ (by first | decide | omega) (by omega)).trans ?_; exact (Decidable.em (i = (6 * v59.toInt + 46))).elim (fun k294_ => by refine (eA_eqT hI0.1 ka_233 k294_ (by first | decide | omega) (by first | decide | omega)).trans ?_; (first | (rfl) | (omega))) (fun k294_ => by refine (eA_neT hI0.1 ka_233 k294_ (by first | decide | omega) (by omega)).trans ?_; (first | rfl | exact eA_ix (by omega) | omega))))))))) (fun k287_ => by refine Eq.trans ?_ (if_neg k287_).symm; exact (Decidable.em (i = 46 + 6 * (eA g0 233 1).toInt + 1)).elim (fun k295_ => by refine Eq.trans ?_ (if_pos k295_).symm; exact (Decidable.em (i = 1)).elim (fun k296_ => by refine (eA_eqT hI80.1 ka_233 k296_ (by first | decide | omega) (by first | decide | omega)).trans ?_; (first | (rfl) | (omega))) (fun k296_ => by refine (eA_neT hI80.1 ka_233 k296_ (by first | decide | omega) (by omega)).trans ?_; exact (Decidable.em (i = (6 * v59.toInt + 51))).elim (fun k297_ => by refine (eA_eqT hI77.1 ka_233 k297_ (by first | decide | omega) (by first | decide | omega)).trans ?_; (first | (rfl) | (omega))) (fun k297_ => by refine (eA_neT hI77.1 ka_233 k297_ (by first | decide | omega) (by omega)).trans ?_; exact (Decidable.em (i = (6 * v59.toInt + 50))).elim (fun k298_ => by refine (eA_eqT hI74.1 ka_233 k298_ (by first | decide | omega) (by first | decide | omega)).trans ?_; (first | (rfl) | (omega))) (fun k298_ => by refine (eA_neT hI74.1 ka_233 k298_ (by first | decide | omega) (by omega)).trans ?_; exact (Decidable.em (i = (6 * v59.toInt + 49))).elim (fun k299_ => by refine (eA_eqT hI70.1 ka_233 k299_ (by first | decide | omega) (by first | decide | omega)).trans ?_; (first | (rfl) | (omega))) (fun k299_ => by refine (eA_neT hI70.1 ka_233 k299_ (by first | decide | omega) (by omega)).trans ?_; exact (Decidable.em (i = (6 * v59.toInt + 48))).elim (fun k300_ => by refine (eA_eqT hI65.1 ka_233 k300_ (by first | decide | omega) (by first | decide | omega)).trans ?_; (first | (rfl) | (omega))) (fun k300_ => by refine (eA_neT hI65.1 ka_233 k300_ (by first | decide | omega) (by omega)).trans ?_; exact (Decidable.em (i = (6 * v59.toInt + 47))).elim (fun k301_ => by refine (eA_eqT hI62.1 ka_233 k301_ (by first | decide | omega) (by first | decide | omega)).trans ?_; (first | (rfl) | (omega))) (fun k301_ => by refine (eA_neT hI62.1 ka_233 k301_ (by first | decide | omega) (by omega)).trans ?_; exact (Decidable.em (i = (6 * v59.toInt + 46))).elim (fun k302_ => by refine (eA_eqT hI0.1 ka_233 k302_ (by first | decide | omega) (by first | decide | omega)).trans ?_; (first | (rfl) | (omega))) (fun k302_ => by refine (eA_neT hI0.1 ka_233 k302_ (by first | decide | omega) (by omega)).trans ?_; (first | rfl | exact eA_ix (by omega) | omega))))))))) (fun k295_ => by refine Eq.trans ?_ (if_neg k295_).symm; exact (Decidable.em (i = 46 + 6 * (eA g0 233 1).toInt + 2)).elim (fun k303_ => by refine Eq.trans ?_ (if_pos k303_).symm; exact (Decidable.em (i = 1)).elim (fun k304_ => by refine (eA_eqT hI80.1 ka_233 k304_ (by first | decide | omega) (by first | decide | omega)).trans ?_; (first | (rfl) | (omega))) (fun k304_ => by refine (eA_neT hI80.1 ka_233 k304_ (by first | decide | omega) (by omega)).trans ?_; exact (Decidable.em (i = (6 * v59.toInt + 51))).elim (fun k305_ => by refine (eA_eqT hI77.1 ka_233 k305_ (by first | decide | omega) (by first | decide | omega)).trans ?_; (first | (rfl) | (omega))) (fun k305_ => by refine (eA_neT hI77.1 ka_233 k305_ (by first | decide | omega) (by omega)).trans ?_; exact (Decidable.em (i = (6 * v59.toInt + 50))).elim (fun k306_ => by refine (eA_eqT hI74.1 ka_233 k306_ (by first | decide | omega) (by first | decide | omega)).trans ?_; (first | (rfl) | (omega))) (fun k306_ => by refine (eA_neT hI74.1 ka_233 k306_ (by first | decide | omega) (by omega)).trans ?_; exact (Decidable.em (i = (6 * v59.toInt + 49))).elim (fun k307_ => by refine (eA_eqT hI70.1 ka_233 k307_ (by first | decide | omega) (by first | decide | omega)).trans ?_; (first | (rfl) | (omega))) (fun k307_ => by refine (eA_neT hI70.1 ka_233 k307_ (by first | decide | omega) (by omega)).trans ?_; exact (Decidable.em (i = (6 * v59.toInt + 48))).elim (fun k308_ => by refine (eA_eqT hI65.1 ka_233 k308_ (by first | decide | omega) (by first | decide | omega)).trans ?_; (first | (rfl) | (omega))) (fun k308_ => by refine (eA_neT hI65.1 ka_233 k308_ (by first | decide | omega) (by omega)).trans ?_; exact (Decidable.em (i = (6 * v59.toInt + 47))).elim (fun k309_ => by refine (eA_eqT hI62.1 ka_233 k309_ (by first | decide | omega) (by first | decide | omega)).trans ?_; (first | (rfl) | (omega))) (fun k309_ => by refine (eA_neT hI62.1 ka_233 k309_ (by first | decide | omega) (by omega)).trans ?_; exact (Decidable.em (i = (6 * v59.toInt + 46))).elim (fun k310_ => by refine (eA_eqT hI0.1 ka_233 k310_ (by first | decide | omega) (by first | decide | omega)).trans ?_; (first | (rfl) | (omega))) (fun k310_ => by refine (eA_neT hI0.1 ka_233 k310_ (by first | decide | omega) (by omega)).trans ?_; (first | rfl | exact eA_ix (by omega) | omega))))))))) (fun k303_ => by refine Eq.trans ?_ (if_neg k303_).symm; exact (Decidable.em (i = 46 + 6 * (eA g0 233 1).toInt + 3)).elim (fun k311_ => by refine Eq.trans ?_ (if_pos k311_).symm; exact (Decidable.em (i = 1)).elim (fun k312_ => by refine (eA_eqT hI80.1 ka_233 k312_ (by first | decide | omega) (by first | decide | omega)).trans ?_; (first | (rfl) | (omega))) (fun k312_ => by refine (eA_neT hI80.1 ka_233 k312_ (by first | decide | omega) (by omega)).trans ?_; exact (Decidable.em (i = (6 * v59.toInt + 51))).elim (fun k313_ => by refine (eA_eqT hI77.1 ka_233 k313_ (by first | decide | omega) (by first | decide | omega)).trans ?_; (first | (rfl) | (omega))) (fun k313_ => by refine (eA_neT hI77.1 ka_233 k313_ (by first | decide | omega) (by omega)).trans ?_; exact (Decidable.em (i = (6 * v59.toInt + 50))).elim (fun k314_ => by refine (eA_eqT hI74.1 ka_233 k314_ (by first | decide | omega) (by first | decide | omega)).trans ?_; (first | (rfl) | (omega))) (fun k314_ => by refine (eA_neT hI74.1 ka_233 k314_ (by first | decide | omega) (by omega)).trans ?_; exact (Decidable.em (i = (6 * v59.toInt + 49))).elim (fun k315_ => by refine (eA_eqT hI70.1 ka_233 k315_ (by first | decide | omega) (by first | decide | omega)).trans ?_; (first | (rfl) | (omega))) (fun k315_ => by refine (eA_neT hI70.1 ka_233 k315_ (by first | decide | omega) (by omega)).trans ?_; exact (Decidable.em (i = (6 * v59.toInt + 48))).elim (fun k316_ => by refine (eA_eqT hI65.1 ka_233 k316_ (by first | decide | omega) (by first | decide | omega)).trans ?_; (first | (rfl) | (omega))) (fun k316_ => by refine (eA_neT hI65.1 ka_233 k316_ (by first | decide | omega) (by omega)).trans ?_; exact (Decidable.em (i = (6 * v59.toInt + 47))).elim (fun k317_ => by refine (eA_eqT hI62.1 ka_233 k317_ (by first | decide | omega) (by first | decide | omega)).trans ?_; (first | (rfl) | (omega))) (fun k317_ => by refine (eA_neT hI62.1 ka_233 k317_ (by first | decide | omega) (by omega)).trans ?_; exact (Decidable.em (i = (6 * v59.toInt + 46))).elim (fun k318_ => by refine (eA_eqT hI0.1 ka_233 k318_ (by first | decide | omega) (by first | decide | omega)).trans ?_; (first | (rfl) | (omega))) (fun k318_ => by refine (eA_neT hI0.1 ka_233 k318_ (by first | decide | omega) (by omega)).trans ?_; (first | rfl | exact eA_ix (by omega) | omega))))))))) (fun k311_ => by refine Eq.trans ?_ (if_neg k311_).symm; exact (Decidable.em (i = 46 + 6 * (eA g0 233 1).toInt + 4)).elim (fun k319_ => by refine Eq.trans ?_ (if_pos k319_).symm; exact (Decidable.em (i = 1)).elim (fun k320_ => by refine (eA_eqT hI80.1 ka_233 k320_ (by first | decide | omega) (by first | decide | omega)).trans ?_; (first | (rfl) | (omega))) (fun k320_ => by refine (eA_neT hI80.1 ka_233 k320_ (by first | decide | omega) (by omega)).trans ?_; exact (Decidable.em (i = (6 * v59.toInt + 51))).elim (fun k321_ => by refine (eA_eqT hI77.1 ka_233 k321_ (by first | decide | omega) (by first | decide | omega)).trans ?_; (first | (rfl) | (omega))) (fun k321_ => by refine (eA_neT hI77.1 ka_233 k321_ (by first | decide | omega) (by omega)).trans ?_; exact (Decidable.em (i = (6 * v59.toInt + 50))).elim (fun k322_ => by refine (eA_eqT hI74.1 ka_233 k322_ (by first | decide | omega) (by first | decide | omega)).trans ?_; (first | (rfl) | (omega))) (fun k322_ => by refine (eA_neT hI74.1 ka_233 k322_ (by first | decide | omega) (by omega)).trans ?_; exact (Decidable.em (i = (6 * v59.toInt + 49))).elim (fun k323_ => by refine (eA_eqT hI70.1 ka_233 k323_ (by first | decide | omega) (by first | decide | omega)).trans ?_; (first | (rfl) | (omega))) (fun k323_ => by refine (eA_neT hI70.1 ka_233 k323_ (by first | decide | omega) (by omega)).trans ?_; exact (Decidable.em (i = (6 * v59.toInt + 48))).elim (fun k324_ => by refine (eA_eqT hI65.1 ka_233 k324_ (by first | decide | omega) (by first | decide | omega)).trans ?_; (first | (rfl) | (omega))) (fun k324_ => by refine (eA_neT hI65.1 ka_233 k324_ (by first | decide | omega) (by omega)).trans ?_; exact (Decidable.em (i = (6 * v59.toInt + 47))).elim (fun k325_ => by refine (eA_eqT hI62.1 ka_233 k325_ (by first | decide | omega) (by first | decide | omega)).trans ?_; (first | (rfl) | (omega))) (fun k325_ => by refine (eA_neT hI62.1 ka_233 k325_ (by first | decide | omega) (by omega)).trans ?_; exact (Decidable.em (i = (6 * v59.toInt + 46))).elim (fun k326_ => by refine (eA_eqT hI0.1 ka_233 k326_ (by first | decide | omega) (by first | decide | omega)).trans ?_; (first | (rfl) | (omega))) (fun k326_ => by refine (eA_neT hI0.1 ka_233 k326_ (by first | decide | omega) (by omega)).trans ?_; (first | rfl | exact eA_ix (by omega) | omega))))))))) (fun k319_ => by refine Eq.trans ?_ (if_neg k319_).symm; exact (Decidable.em (i = 46 + 6 * (eA g0 233 1).toInt + 5)).elim (fun k327_ => by refine Eq.trans ?_ (if_pos k327_).symm; exact (Decidable.em (i = 1)).elim (fun k328_ => by refine (eA_eqT hI80.1 ka_233 k328_ (by first | decide | omega) (by first | decide | omega)).trans ?_; (first | (rfl) | (omega))) (fun k328_ => by refine (eA_neT hI80.1 ka_233 k328_ (by first | decide | omega) (by omega)).trans ?_; exact (Decidable.em (i = (6 * v59.toInt + 51))).elim (fun k329_ => by refine (eA_eqT hI77.1 ka_233 k329_ (by first | decide | omega) (by first | decide | omega)).trans ?_; (first | (rfl) | (omega))) (fun k329_ => by refine (eA_neT hI77.1 ka_233 k329_ (by first | decide | omega) (by omega)).trans ?_; exact (Decidable.em (i = (6 * v59.toInt + 50))).elim (fun k330_ => by refine (eA_eqT hI74.1 ka_233 k330_ (by first | decide | omega) (by first | decide | omega)).trans ?_; (first | (rfl) | (omega))) (fun k330_ => by refine (eA_neT hI74.1 ka_233 k330_ (by first | decide | omega) (by omega)).trans ?_; exact (Decidable.em (i = (6 * v59.toInt + 49))).elim (fun k331_ => by refine (eA_eqT hI70.1 ka_233 k331_ (by first | decide | omega) (by first | decide | omega)).trans ?_; (first | (rfl) | (omega))) (fun k331_ => by refine (eA_neT hI70.1 ka_233 k331_ (by first | decide | omega) (by omega)).trans ?_; exact (Decidable.em (i = (6 * v59.toInt + 48))).elim (fun k332_ => by refine (eA_eqT hI65.1 ka_233 k332_ (by first | decide | omega) (by first | decide | omega)).trans ?_; (first | (rfl) | (omega))) (fun k332_ => by refine (eA_neT hI65.1 ka_233 k332_ (by first | decide | omega) (by omega)).trans ?_; exact (Decidable.em (i = (6 * v59.toInt + 47))).elim (fun k333_ => by refine (eA_eqT hI62.1 ka_233 k333_ (by first | decide | omega) (by first | decide | omega)).trans ?_; (first | (rfl) | (omega))) (fun k333_ => by refine (eA_neT hI62.1 ka_233 k333_ (by first | decide | omega) (by omega)).trans ?_; exact (Decidable.em (i = (6 * v59.toInt + 46))).elim (fun k334_ => by refine (eA_eqT hI0.1 ka_233 k334_ (by first | decide | omega) (by first | decide | omega)).trans ?_; (first | (rfl) | (omega))) (fun k334_ => by refine (eA_neT hI0.1 ka_233 k334_ (by first | decide | omega) (by omega)).trans ?_; (first | rfl | exact eA_ix (by omega) | omega))))))))) (fun k327_ => by refine Eq.trans ?_ (if_neg k327_).symm; exact (Decidable.em (i = 1)).elim (fun k335_ => by refine (eA_eqT hI80.1 ka_233 k335_ (by first | decide | omega) (by first | decide | omega)).trans ?_; (first | (rfl) | (omega))) (fun k335_ => by refine (eA_neT hI80.1 ka_233 k335_ (by first | decide | omega) (by omega)).trans ?_; exact (Decidable.em (i = (6 * v59.toInt + 51))).elim (fun k336_ => by refine (eA_eqT hI77.1 ka_233 k336_ (by first | decide | omega) (by first | decide | omega)).trans ?_; (first | (rfl) | (omega))) (fun k336_ => by refine (eA_neT hI77.1 ka_233 k336_ (by first | decide | omega) (by omega)).trans ?_; exact (Decidable.em (i = (6 * v59.toInt + 50))).elim (fun k337_ => by refine (eA_eqT hI74.1 ka_233 k337_ (by first | decide | omega) (by first | decide | omega)).trans ?_; (first | (rfl) | (omega))) (fun k337_ => by refine (eA_neT hI74.1 ka_233 k337_ (by first | decide | omega) (by omega)).trans ?_; exact (Decidable.em (i = (6 * v59.toInt + 49))).elim (fun k338_ => by refine (eA_eqT hI70.1 ka_233 k338_ (by first | decide | omega) (by first | decide | omega)).trans ?_; (first | (rfl) | (omega))) (fun k338_ => by refine (eA_neT hI70.1 ka_233 k338_ (by first | decide | omega) (by omega)).trans ?_; exact (Decidable.em (i = (6 * v59.toInt + 48))).elim (fun k339_ => by refine (eA_eqT hI65.1 ka_233 k339_ (by first | decide | omega) (by first | decide | omega)).trans ?_; (first | (rfl) | (omega))) (fun k339_ => by refine (eA_neT hI65.1 ka_233 k339_ (by first | decide | omega) (by omega)).trans ?_; exact (Decidable.em (i = (6 * v59.toInt + 47))).elim (fun k340_ => by refine (eA_eqT hI62.1 ka_233 k340_ (by first | decide | omega) (by first | decide | omega)).trans ?_; (first | (rfl) | (omega))) (fun k340_ => by refine (eA_neT hI62.1 ka_233 k340_ (by first | decide | omega) (by omega)).trans ?_; exact (Decidable.em (i = (6 * v59.toInt + 46))).elim (fun k341_ => by refine (eA_eqT hI0.1 ka_233 k341_ (by first | decide | omega) (by first | decide | omega)).trans ?_; (first | (rfl) | (omega))) (fun k341_ => by refine (eA_neT hI0.1 ka_233 k341_ (by first | decide | omega) (by omega)).trans ?_; (first | rfl | exact eA_ix (by omega) | omega)))))))))))))))⟩⟩

def zF_X11_load_231 : List (Nat × Nat) := [(231, 0), (231, 1)]
def zA_X11_load_231 : List Nat := [232, 233]
set_option maxRecDepth 100000 in
set_option maxHeartbeats 4000000 in
theorem zT_X11_load_231 (d : Nat) {N : Nat} {g0 : List en_E} (hI0 : HI g0) (a1 : Int32) (a2 : Int32) (a3 : Int32) (a4 : Int32) (a5 : Int32) (a6 : Int32) : Ev (d + 3) 178 [.ref 231, .int a1, .int a2, .int a3, .int a4, .int a5, .int a6] (g0, N) (fun w h' => ∃ g', h' = (g', N) ∧ HI g' ∧ Fr zF_X11_load_231 zA_X11_load_231 g0 g' ∧ ∃ r : Int32, w = some (.int r) ∧ ((-5) ≤ r.toInt ∧ r.toInt ≤ 7) ∧ (((¬ (1 ≤ a1.toInt ∧ a1.toInt ≤ 9 ∧ 0 ≤ a4.toInt ∧ a4.toInt ≤ 99 ∧ 0 ≤ a5.toInt ∧ a5.toInt ≤ 9 ∧ 0 ≤ a6.toInt ∧ a6.toInt ≤ 9999) → r.toInt = -1 ∧ (eA g' 233 1).toInt = (eA g0 233 1).toInt) ∧ ((1 ≤ a1.toInt ∧ a1.toInt ≤ 9 ∧ 0 ≤ a4.toInt ∧ a4.toInt ≤ 99 ∧ 0 ≤ a5.toInt ∧ a5.toInt ≤ 9 ∧ 0 ≤ a6.toInt ∧ a6.toInt ≤ 9999) ∧ ¬ (0 ≤ a2.toInt ∧ a2.toInt < (eA g0 233 0).toInt ∧ 0 ≤ a3.toInt ∧ a3.toInt < (eA g0 233 0).toInt) → r.toInt = -2 ∧ (eA g' 233 1).toInt = (eA g0 233 1).toInt) ∧ ((1 ≤ a1.toInt ∧ a1.toInt ≤ 9 ∧ 0 ≤ a4.toInt ∧ a4.toInt ≤ 99 ∧ 0 ≤ a5.toInt ∧ a5.toInt ≤ 9 ∧ 0 ≤ a6.toInt ∧ a6.toInt ≤ 9999) ∧ (0 ≤ a2.toInt ∧ a2.toInt < (eA g0 233 0).toInt ∧ 0 ≤ a3.toInt ∧ a3.toInt < (eA g0 233 0).toInt) ∧ 8 ≤ (eA g0 233 1).toInt → r.toInt = -5 ∧ (eA g' 233 1).toInt = (eA g0 233 1).toInt) ∧ ((1 ≤ a1.toInt ∧ a1.toInt ≤ 9 ∧ 0 ≤ a4.toInt ∧ a4.toInt ≤ 99 ∧ 0 ≤ a5.toInt ∧ a5.toInt ≤ 9 ∧ 0 ≤ a6.toInt ∧ a6.toInt ≤ 9999) ∧ (0 ≤ a2.toInt ∧ a2.toInt < (eA g0 233 0).toInt ∧ 0 ≤ a3.toInt ∧ a3.toInt < (eA g0 233 0).toInt) ∧ (eA g0 233 1).toInt < 8 → r.toInt = (eA g0 233 1).toInt ∧ (eA g' 233 1).toInt = (eA g0 233 1).toInt + 1) ∧ (eA g' 233 0).toInt = (eA g0 233 0).toInt ∧ (eA g' 233 4).toInt = (eA g0 233 4).toInt ∧ (eA g' 233 5).toInt = (eA g0 233 5).toInt ∧ (eA g' 233 6).toInt = (eA g0 233 6).toInt) ∧ (∀ i : Int, 10 ≤ i → i < 46 → (eA g' 233 (i)).toInt = (eA g0 233 (i)).toInt) ∧ (∀ i : Int, 94 ≤ i → i < 110 → (eA g' 233 (i)).toInt = (eA g0 233 (i)).toInt) ∧ (∀ i : Int, 46 ≤ i → i < 94 → (eA g' 233 (i)).toInt = if ((1 ≤ a1.toInt ∧ a1.toInt ≤ 9 ∧ 0 ≤ a4.toInt ∧ a4.toInt ≤ 99 ∧ 0 ≤ a5.toInt ∧ a5.toInt ≤ 9 ∧ 0 ≤ a6.toInt ∧ a6.toInt ≤ 9999) ∧ (0 ≤ a2.toInt ∧ a2.toInt < (eA g0 233 0).toInt ∧ 0 ≤ a3.toInt ∧ a3.toInt < (eA g0 233 0).toInt) ∧ (eA g0 233 1).toInt < 8) ∧ i = 46 + 6 * (eA g0 233 1).toInt + 0 then a1.toInt else if ((1 ≤ a1.toInt ∧ a1.toInt ≤ 9 ∧ 0 ≤ a4.toInt ∧ a4.toInt ≤ 99 ∧ 0 ≤ a5.toInt ∧ a5.toInt ≤ 9 ∧ 0 ≤ a6.toInt ∧ a6.toInt ≤ 9999) ∧ (0 ≤ a2.toInt ∧ a2.toInt < (eA g0 233 0).toInt ∧ 0 ≤ a3.toInt ∧ a3.toInt < (eA g0 233 0).toInt) ∧ (eA g0 233 1).toInt < 8) ∧ i = 46 + 6 * (eA g0 233 1).toInt + 1 then a2.toInt else if ((1 ≤ a1.toInt ∧ a1.toInt ≤ 9 ∧ 0 ≤ a4.toInt ∧ a4.toInt ≤ 99 ∧ 0 ≤ a5.toInt ∧ a5.toInt ≤ 9 ∧ 0 ≤ a6.toInt ∧ a6.toInt ≤ 9999) ∧ (0 ≤ a2.toInt ∧ a2.toInt < (eA g0 233 0).toInt ∧ 0 ≤ a3.toInt ∧ a3.toInt < (eA g0 233 0).toInt) ∧ (eA g0 233 1).toInt < 8) ∧ i = 46 + 6 * (eA g0 233 1).toInt + 2 then a3.toInt else if ((1 ≤ a1.toInt ∧ a1.toInt ≤ 9 ∧ 0 ≤ a4.toInt ∧ a4.toInt ≤ 99 ∧ 0 ≤ a5.toInt ∧ a5.toInt ≤ 9 ∧ 0 ≤ a6.toInt ∧ a6.toInt ≤ 9999) ∧ (0 ≤ a2.toInt ∧ a2.toInt < (eA g0 233 0).toInt ∧ 0 ≤ a3.toInt ∧ a3.toInt < (eA g0 233 0).toInt) ∧ (eA g0 233 1).toInt < 8) ∧ i = 46 + 6 * (eA g0 233 1).toInt + 3 then a4.toInt else if ((1 ≤ a1.toInt ∧ a1.toInt ≤ 9 ∧ 0 ≤ a4.toInt ∧ a4.toInt ≤ 99 ∧ 0 ≤ a5.toInt ∧ a5.toInt ≤ 9 ∧ 0 ≤ a6.toInt ∧ a6.toInt ≤ 9999) ∧ (0 ≤ a2.toInt ∧ a2.toInt < (eA g0 233 0).toInt ∧ 0 ≤ a3.toInt ∧ a3.toInt < (eA g0 233 0).toInt) ∧ (eA g0 233 1).toInt < 8) ∧ i = 46 + 6 * (eA g0 233 1).toInt + 4 then a5.toInt else if ((1 ≤ a1.toInt ∧ a1.toInt ≤ 9 ∧ 0 ≤ a4.toInt ∧ a4.toInt ≤ 99 ∧ 0 ≤ a5.toInt ∧ a5.toInt ≤ 9 ∧ 0 ≤ a6.toInt ∧ a6.toInt ≤ 9999) ∧ (0 ≤ a2.toInt ∧ a2.toInt < (eA g0 233 0).toInt ∧ 0 ≤ a3.toInt ∧ a3.toInt < (eA g0 233 0).toInt) ∧ (eA g0 233 1).toInt < 8) ∧ i = 46 + 6 * (eA g0 233 1).toInt + 5 then a6.toInt else (eA g0 233 (i)).toInt))) := by
  have hF0 : Fr zF_X11_load_231 zA_X11_load_231 g0 g0 := Fr.rf
  refine Ev.mk rfl rfl ⟨Nat.le_of_ble_eq_true rfl, Or.inr (q_rc hI0.1 kx_231 rfl)⟩ ?_
  show At _ none _ _ (0, [(0, .ref 231), (1, .int a1), (2, .int a2), (3, .int a3), (4, .int a4), (5, .int a5), (6, .int a6)], [], (_, _)) _
  refine At.enter rfl ?_
  refine r_aload_n rfl ?_
  refine r_iconst 0 rfl ?_
  refine q_putI (Sh.int hI0.1 kx_231 rfl) rfl ?_
  have hI281 := HI.wI0 hI0 kx_231 rfl (p := 231) (b := 0) (v := 0) rfl
  have hF282 := Fr.wI (p := 231) (b := 0) (v := 0) hF0 rfl
  refine r_iload_n rfl ?_
  refine r_iload rfl ?_
  refine r_iload rfl ?_
  refine r_iload rfl ?_
  refine q_inlS 15 rfl [.int a1, .int a4, .int a5, .int a6] [] (Nat.le_of_ble_eq_true rfl) rfl ?_
  refine Ev.mk rfl rfl ⟨Nat.le_of_ble_eq_true rfl, Or.inl rfl⟩ ?_
  show At _ none _ _ (0, [(0, .int a1), (1, .int a4), (2, .int a5), (3, .int a6)], [], (_, _)) _
  refine At.enter rfl ?_
  refine r_iload_n rfl ?_
  refine q_i2l (fun v283 hv283 => ?_)
  refine r_lconst 1 rfl ?_
  refine r_ldc2 9 rfl ?_
  refine q_inlS 9 rfl [.long v283, .long 1, .long 9] [] (Nat.le_of_ble_eq_true rfl) rfl ?_
  refine Ev.mk rfl rfl ⟨Nat.le_of_ble_eq_true rfl, Or.inl rfl⟩ ?_
  show At _ none _ _ (0, [(0, .long v283), (2, .long 1), (4, .long 9)], [], (_, _)) _
  refine At.enter rfl ?_
  refine r_lload_n rfl ?_
  refine r_lload_n rfl ?_
  refine r_lcmp _ rfl ?_
  refine r_ifs 6 rfl (fun c284 => ?_) (fun c284 => ?_)
  · have c284_ : v283.toInt < 1 := en_j_lt_t c284
    refine At.enter rfl ?_
    refine r_iconst 0 rfl ?_
    refine Ar.fall 18 rfl ?_
    refine At.enter rfl ?_
    refine q_iretz (by decide) ?_
    refine At.enter rfl ?_
    refine r_ift (by decide) ?_
    refine At.enter rfl ?_
    refine r_iconst 0 rfl ?_
    refine Ar.fall 53 rfl ?_
    refine At.enter rfl ?_
    refine q_iretz (by decide) ?_
    refine At.enter rfl ?_
    refine r_iff 18 rfl (by decide) ?_
    refine At.enter rfl ?_
    refine r_aload_n rfl ?_
    refine r_iconst (-1) rfl ?_
    refine r_callV 23 rfl [.ref 231, .int (-1)] [] (Nat.le_of_ble_eq_true rfl) rfl (T_X11_tell_231 _ hI281 (-1) (by decide)) ?_
    rintro _ _ ⟨g285, rfl, hI286, hF287, v288, rfl, hr289⟩
    refine At.sti ?_
    have hF290 := Fr.tr hF282 hF287 rfl rfl
    have zv291 : ((-1) : Int32).toInt = (-1) := rfl
    refine At.enter rfl ?_
    refine r_ireti ?_
    obtain ⟨v292, hv292⟩ : ∃ v, eA g0 233 1 = v := ⟨_, rfl⟩
    have tv292 := congrArg Int32.toInt hv292
    have wv292 := HI.t1 hI0
    rw [hv292] at wv292
    have tv292 := congrArg Int32.toInt hv292
    have x293 := HI.eqA hI286 (p := 233) (j := 1) ((((eA_c (hF287.2.1 233 (by decide))).trans (eA_c gA_sI)).trans hv292))
    obtain ⟨v294, hv294⟩ : ∃ v, eA g0 233 0 = v := ⟨_, rfl⟩
    have tv294 := congrArg Int32.toInt hv294
    have wv294 := HI.t0 hI0
    rw [hv294] at wv294
    have tv294 := congrArg Int32.toInt hv294
    have x295 := HI.eqA hI286 (p := 233) (j := 0) ((((eA_c (hF287.2.1 233 (by decide))).trans (eA_c gA_sI)).trans hv294))
    obtain ⟨v296, hv296⟩ : ∃ v, eA g0 233 4 = v := ⟨_, rfl⟩
    have wv296 := HI.t4 hI0
    rw [hv296] at wv296
    have tv296 := congrArg Int32.toInt hv296
    have x297 := HI.eqA hI286 (p := 233) (j := 4) ((((eA_c (hF287.2.1 233 (by decide))).trans (eA_c gA_sI)).trans hv296))
    obtain ⟨v298, hv298⟩ : ∃ v, eA g0 233 5 = v := ⟨_, rfl⟩
    have wv298 := HI.t5 hI0
    rw [hv298] at wv298
    have tv298 := congrArg Int32.toInt hv298
    have x299 := HI.eqA hI286 (p := 233) (j := 5) ((((eA_c (hF287.2.1 233 (by decide))).trans (eA_c gA_sI)).trans hv298))
    obtain ⟨v300, hv300⟩ : ∃ v, eA g0 233 6 = v := ⟨_, rfl⟩
    have wv300 := HI.t6 hI0
    rw [hv300] at wv300
    have tv300 := congrArg Int32.toInt hv300
    have x301 := HI.eqA hI286 (p := 233) (j := 6) ((((eA_c (hF287.2.1 233 (by decide))).trans (eA_c gA_sI)).trans hv300))
    have x302 := HI.eqA hI0 (p := 233) (j := 1) (hv292)
    have x303 := HI.eqA hI0 (p := 233) (j := 0) (hv294)
    have x304 := HI.eqA hI0 (p := 233) (j := 0) (hv294)
    have x305 := HI.eqA hI0 (p := 233) (j := 4) (hv296)
    have x306 := HI.eqA hI0 (p := 233) (j := 5) (hv298)
    have x307 := HI.eqA hI0 (p := 233) (j := 6) (hv300)
    exact ⟨_, rfl, hI286, hF290, _, rfl, by omega, ⟨⟨by omega, by omega, by omega, by omega, by omega, by omega, by omega, by omega⟩, (by intro i i0 i1; refine (eA_ti (((hF287.2.1 233 (by decide)).trans (gA_sI)))).trans ?_; (first | rfl | exact eA_ix (by omega) | omega)), (by intro i i0 i1; refine (eA_ti (((hF287.2.1 233 (by decide)).trans (gA_sI)))).trans ?_; (first | rfl | exact eA_ix (by omega) | omega)), (by intro i i0 i1; refine Eq.trans ?_ (if_neg (show ¬ (((1 ≤ a1.toInt ∧ a1.toInt ≤ 9 ∧ 0 ≤ a4.toInt ∧ a4.toInt ≤ 99 ∧ 0 ≤ a5.toInt ∧ a5.toInt ≤ 9 ∧ 0 ≤ a6.toInt ∧ a6.toInt ≤ 9999) ∧ (0 ≤ a2.toInt ∧ a2.toInt < (eA g0 233 0).toInt ∧ 0 ≤ a3.toInt ∧ a3.toInt < (eA g0 233 0).toInt) ∧ (eA g0 233 1).toInt < 8) ∧ i = 46 + 6 * (eA g0 233 1).toInt + 0) from by omega)).symm; refine Eq.trans ?_ (if_neg (show ¬ (((1 ≤ a1.toInt ∧ a1.toInt ≤ 9 ∧ 0 ≤ a4.toInt ∧ a4.toInt ≤ 99 ∧ 0 ≤ a5.toInt ∧ a5.toInt ≤ 9 ∧ 0 ≤ a6.toInt ∧ a6.toInt ≤ 9999) ∧ (0 ≤ a2.toInt ∧ a2.toInt < (eA g0 233 0).toInt ∧ 0 ≤ a3.toInt ∧ a3.toInt < (eA g0 233 0).toInt) ∧ (eA g0 233 1).toInt < 8) ∧ i = 46 + 6 * (eA g0 233 1).toInt + 1) from by omega)).symm; refine Eq.trans ?_ (if_neg (show ¬ (((1 ≤ a1.toInt ∧ a1.toInt ≤ 9 ∧ 0 ≤ a4.toInt ∧ a4.toInt ≤ 99 ∧ 0 ≤ a5.toInt ∧ a5.toInt ≤ 9 ∧ 0 ≤ a6.toInt ∧ a6.toInt ≤ 9999) ∧ (0 ≤ a2.toInt ∧ a2.toInt < (eA g0 233 0).toInt ∧ 0 ≤ a3.toInt ∧ a3.toInt < (eA g0 233 0).toInt) ∧ (eA g0 233 1).toInt < 8) ∧ i = 46 + 6 * (eA g0 233 1).toInt + 2) from by omega)).symm; refine Eq.trans ?_ (if_neg (show ¬ (((1 ≤ a1.toInt ∧ a1.toInt ≤ 9 ∧ 0 ≤ a4.toInt ∧ a4.toInt ≤ 99 ∧ 0 ≤ a5.toInt ∧ a5.toInt ≤ 9 ∧ 0 ≤ a6.toInt ∧ a6.toInt ≤ 9999) ∧ (0 ≤ a2.toInt ∧ a2.toInt < (eA g0 233 0).toInt ∧ 0 ≤ a3.toInt ∧ a3.toInt < (eA g0 233 0).toInt) ∧ (eA g0 233 1).toInt < 8) ∧ i = 46 + 6 * (eA g0 233 1).toInt + 3) from by omega)).symm; refine Eq.trans ?_ (if_neg (show ¬ (((1 ≤ a1.toInt ∧ a1.toInt ≤ 9 ∧ 0 ≤ a4.toInt ∧ a4.toInt ≤ 99 ∧ 0 ≤ a5.toInt ∧ a5.toInt ≤ 9 ∧ 0 ≤ a6.toInt ∧ a6.toInt ≤ 9999) ∧ (0 ≤ a2.toInt ∧ a2.toInt < (eA g0 233 0).toInt ∧ 0 ≤ a3.toInt ∧ a3.toInt < (eA g0 233 0).toInt) ∧ (eA g0 233 1).toInt < 8) ∧ i = 46 + 6 * (eA g0 233 1).toInt + 4) from by omega)).symm; refine Eq.trans ?_ (if_neg (show ¬ (((1 ≤ a1.toInt ∧ a1.toInt ≤ 9 ∧ 0 ≤ a4.toInt ∧ a4.toInt ≤ 99 ∧ 0 ≤ a5.toInt ∧ a5.toInt ≤ 9 ∧ 0 ≤ a6.toInt ∧ a6.toInt ≤ 9999) ∧ (0 ≤ a2.toInt ∧ a2.toInt < (eA g0 233 0).toInt ∧ 0 ≤ a3.toInt ∧ a3.toInt < (eA g0 233 0).toInt) ∧ (eA g0 233 1).toInt < 8) ∧ i = 46 + 6 * (eA g0 233 1).toInt + 5) from by omega)).symm; refine (eA_ti (((hF287.2.1 233 (by decide)).trans (gA_sI)))).trans ?_; (first | rfl | exact eA_ix (by omega) | omega))⟩⟩
  · have c284_ : v283.toInt ≥ 1 := en_j_lt_f c284
    refine At.enter rfl ?_
    refine r_lload_n rfl ?_
    refine r_lload rfl ?_
    refine r_lcmp _ rfl ?_
    refine r_ifs 13 rfl (fun c308 => ?_) (fun c308 => ?_)
    · have c308_ : v283.toInt > 9 := en_j_gt_t c308
      refine At.enter rfl ?_
      refine r_iconst 0 rfl ?_
      refine Ar.fall 18 rfl ?_
      refine At.enter rfl ?_
      refine q_iretz (by decide) ?_
      refine At.enter rfl ?_
      refine r_ift (by decide) ?_
      refine At.enter rfl ?_
      refine r_iconst 0 rfl ?_
      refine Ar.fall 53 rfl ?_
      refine At.enter rfl ?_
      refine q_iretz (by decide) ?_
      refine At.enter rfl ?_
      refine r_iff 18 rfl (by decide) ?_
      refine At.enter rfl ?_
      refine r_aload_n rfl ?_
      refine r_iconst (-1) rfl ?_
      refine r_callV 23 rfl [.ref 231, .int (-1)] [] (Nat.le_of_ble_eq_true rfl) rfl (T_X11_tell_231 _ hI281 (-1) (by decide)) ?_
      rintro _ _ ⟨g309, rfl, hI310, hF311, v312, rfl, hr313⟩
      refine At.sti ?_
      have hF314 := Fr.tr hF282 hF311 rfl rfl
      have zv315 : ((-1) : Int32).toInt = (-1) := rfl
      refine At.enter rfl ?_
      refine r_ireti ?_
      obtain ⟨v316, hv316⟩ : ∃ v, eA g0 233 1 = v := ⟨_, rfl⟩
      have tv316 := congrArg Int32.toInt hv316
      have wv316 := HI.t1 hI0
      rw [hv316] at wv316
      have tv316 := congrArg Int32.toInt hv316
      have x317 := HI.eqA hI310 (p := 233) (j := 1) ((((eA_c (hF311.2.1 233 (by decide))).trans (eA_c gA_sI)).trans hv316))
      obtain ⟨v318, hv318⟩ : ∃ v, eA g0 233 0 = v := ⟨_, rfl⟩
      have tv318 := congrArg Int32.toInt hv318
      have wv318 := HI.t0 hI0
      rw [hv318] at wv318
      have tv318 := congrArg Int32.toInt hv318
      have x319 := HI.eqA hI310 (p := 233) (j := 0) ((((eA_c (hF311.2.1 233 (by decide))).trans (eA_c gA_sI)).trans hv318))
      obtain ⟨v320, hv320⟩ : ∃ v, eA g0 233 4 = v := ⟨_, rfl⟩
      have wv320 := HI.t4 hI0
      rw [hv320] at wv320
      have tv320 := congrArg Int32.toInt hv320
      have x321 := HI.eqA hI310 (p := 233) (j := 4) ((((eA_c (hF311.2.1 233 (by decide))).trans (eA_c gA_sI)).trans hv320))
      obtain ⟨v322, hv322⟩ : ∃ v, eA g0 233 5 = v := ⟨_, rfl⟩
      have wv322 := HI.t5 hI0
      rw [hv322] at wv322
      have tv322 := congrArg Int32.toInt hv322
      have x323 := HI.eqA hI310 (p := 233) (j := 5) ((((eA_c (hF311.2.1 233 (by decide))).trans (eA_c gA_sI)).trans hv322))
      obtain ⟨v324, hv324⟩ : ∃ v, eA g0 233 6 = v := ⟨_, rfl⟩
      have wv324 := HI.t6 hI0
      rw [hv324] at wv324
      have tv324 := congrArg Int32.toInt hv324
      have x325 := HI.eqA hI310 (p := 233) (j := 6) ((((eA_c (hF311.2.1 233 (by decide))).trans (eA_c gA_sI)).trans hv324))
      have x326 := HI.eqA hI0 (p := 233) (j := 1) (hv316)
      have x327 := HI.eqA hI0 (p := 233) (j := 0) (hv318)
      have x328 := HI.eqA hI0 (p := 233) (j := 0) (hv318)
      have x329 := HI.eqA hI0 (p := 233) (j := 4) (hv320)
      have x330 := HI.eqA hI0 (p := 233) (j := 5) (hv322)
      have x331 := HI.eqA hI0 (p := 233) (j := 6) (hv324)
      exact ⟨_, rfl, hI310, hF314, _, rfl, by omega, ⟨⟨by omega, by omega, by omega, by omega, by omega, by omega, by omega, by omega⟩, (by intro i i0 i1; refine (eA_ti (((hF311.2.1 233 (by decide)).trans (gA_sI)))).trans ?_; (first | rfl | exact eA_ix (by omega) | omega)), (by intro i i0 i1; refine (eA_ti (((hF311.2.1 233 (by decide)).trans (gA_sI)))).trans ?_; (first | rfl | exact eA_ix (by omega) | omega)), (by intro i i0 i1; refine Eq.trans ?_ (if_neg (show ¬ (((1 ≤ a1.toInt ∧ a1.toInt ≤ 9 ∧ 0 ≤ a4.toInt ∧ a4.toInt ≤ 99 ∧ 0 ≤ a5.toInt ∧ a5.toInt ≤ 9 ∧ 0 ≤ a6.toInt ∧ a6.toInt ≤ 9999) ∧ (0 ≤ a2.toInt ∧ a2.toInt < (eA g0 233 0).toInt ∧ 0 ≤ a3.toInt ∧ a3.toInt < (eA g0 233 0).toInt) ∧ (eA g0 233 1).toInt < 8) ∧ i = 46 + 6 * (eA g0 233 1).toInt + 0) from by omega)).symm; refine Eq.trans ?_ (if_neg (show ¬ (((1 ≤ a1.toInt ∧ a1.toInt ≤ 9 ∧ 0 ≤ a4.toInt ∧ a4.toInt ≤ 99 ∧ 0 ≤ a5.toInt ∧ a5.toInt ≤ 9 ∧ 0 ≤ a6.toInt ∧ a6.toInt ≤ 9999) ∧ (0 ≤ a2.toInt ∧ a2.toInt < (eA g0 233 0).toInt ∧ 0 ≤ a3.toInt ∧ a3.toInt < (eA g0 233 0).toInt) ∧ (eA g0 233 1).toInt < 8) ∧ i = 46 + 6 * (eA g0 233 1).toInt + 1) from by omega)).symm; refine Eq.trans ?_ (if_neg (show ¬ (((1 ≤ a1.toInt ∧ a1.toInt ≤ 9 ∧ 0 ≤ a4.toInt ∧ a4.toInt ≤ 99 ∧ 0 ≤ a5.toInt ∧ a5.toInt ≤ 9 ∧ 0 ≤ a6.toInt ∧ a6.toInt ≤ 9999) ∧ (0 ≤ a2.toInt ∧ a2.toInt < (eA g0 233 0).toInt ∧ 0 ≤ a3.toInt ∧ a3.toInt < (eA g0 233 0).toInt) ∧ (eA g0 233 1).toInt < 8) ∧ i = 46 + 6 * (eA g0 233 1).toInt + 2) from by omega)).symm; refine Eq.trans ?_ (if_neg (show ¬ (((1 ≤ a1.toInt ∧ a1.toInt ≤ 9 ∧ 0 ≤ a4.toInt ∧ a4.toInt ≤ 99 ∧ 0 ≤ a5.toInt ∧ a5.toInt ≤ 9 ∧ 0 ≤ a6.toInt ∧ a6.toInt ≤ 9999) ∧ (0 ≤ a2.toInt ∧ a2.toInt < (eA g0 233 0).toInt ∧ 0 ≤ a3.toInt ∧ a3.toInt < (eA g0 233 0).toInt) ∧ (eA g0 233 1).toInt < 8) ∧ i = 46 + 6 * (eA g0 233 1).toInt + 3) from by omega)).symm; refine Eq.trans ?_ (if_neg (show ¬ (((1 ≤ a1.toInt ∧ a1.toInt ≤ 9 ∧ 0 ≤ a4.toInt ∧ a4.toInt ≤ 99 ∧ 0 ≤ a5.toInt ∧ a5.toInt ≤ 9 ∧ 0 ≤ a6.toInt ∧ a6.toInt ≤ 9999) ∧ (0 ≤ a2.toInt ∧ a2.toInt < (eA g0 233 0).toInt ∧ 0 ≤ a3.toInt ∧ a3.toInt < (eA g0 233 0).toInt) ∧ (eA g0 233 1).toInt < 8) ∧ i = 46 + 6 * (eA g0 233 1).toInt + 4) from by omega)).symm; refine Eq.trans ?_ (if_neg (show ¬ (((1 ≤ a1.toInt ∧ a1.toInt ≤ 9 ∧ 0 ≤ a4.toInt ∧ a4.toInt ≤ 99 ∧ 0 ≤ a5.toInt ∧ a5.toInt ≤ 9 ∧ 0 ≤ a6.toInt ∧ a6.toInt ≤ 9999) ∧ (0 ≤ a2.toInt ∧ a2.toInt < (eA g0 233 0).toInt ∧ 0 ≤ a3.toInt ∧ a3.toInt < (eA g0 233 0).toInt) ∧ (eA g0 233 1).toInt < 8) ∧ i = 46 + 6 * (eA g0 233 1).toInt + 5) from by omega)).symm; refine (eA_ti (((hF311.2.1 233 (by decide)).trans (gA_sI)))).trans ?_; (first | rfl | exact eA_ix (by omega) | omega))⟩⟩
    · have c308_ : v283.toInt ≤ 9 := en_j_gt_f c308
      refine At.enter rfl ?_
      refine r_iconst 1 rfl ?_
      refine r_goto ?_
      refine At.enter rfl ?_
      refine q_iretz (by decide) ?_
      refine At.enter rfl ?_
      refine r_iff 12 rfl (by decide) ?_
      refine At.enter rfl ?_
      refine r_iload_n rfl ?_
      refine q_i2l (fun v332 hv332 => ?_)
      refine r_lconst 0 rfl ?_
      refine r_ldc2 99 rfl ?_
      refine q_inlS 21 rfl [.long v332, .long 0, .long 99] [] (Nat.le_of_ble_eq_true rfl) rfl ?_
      refine Ev.mk rfl rfl ⟨Nat.le_of_ble_eq_true rfl, Or.inl rfl⟩ ?_
      show At _ none _ _ (0, [(0, .long v332), (2, .long 0), (4, .long 99)], [], (_, _)) _
      refine At.enter rfl ?_
      refine r_lload_n rfl ?_
      refine r_lload_n rfl ?_
      refine r_lcmp _ rfl ?_
      refine r_ifs 6 rfl (fun c333 => ?_) (fun c333 => ?_)
      · have c333_ : v332.toInt < 0 := en_j_lt_t c333
        refine At.enter rfl ?_
        refine r_iconst 0 rfl ?_
        refine Ar.fall 18 rfl ?_
        refine At.enter rfl ?_
        refine q_iretz (by decide) ?_
        refine At.enter rfl ?_
        refine r_ift (by decide) ?_
        refine At.enter rfl ?_
        refine r_iconst 0 rfl ?_
        refine Ar.fall 53 rfl ?_
        refine At.enter rfl ?_
        refine q_iretz (by decide) ?_
        refine At.enter rfl ?_
        refine r_iff 18 rfl (by decide) ?_
        refine At.enter rfl ?_
        refine r_aload_n rfl ?_
        refine r_iconst (-1) rfl ?_
        refine r_callV 23 rfl [.ref 231, .int (-1)] [] (Nat.le_of_ble_eq_true rfl) rfl (T_X11_tell_231 _ hI281 (-1) (by decide)) ?_
        rintro _ _ ⟨g334, rfl, hI335, hF336, v337, rfl, hr338⟩
        refine At.sti ?_
        have hF339 := Fr.tr hF282 hF336 rfl rfl
        have zv340 : ((-1) : Int32).toInt = (-1) := rfl
        refine At.enter rfl ?_
        refine r_ireti ?_
        obtain ⟨v341, hv341⟩ : ∃ v, eA g0 233 1 = v := ⟨_, rfl⟩
        have tv341 := congrArg Int32.toInt hv341
        have wv341 := HI.t1 hI0
        rw [hv341] at wv341
        have tv341 := congrArg Int32.toInt hv341
        have x342 := HI.eqA hI335 (p := 233) (j := 1) ((((eA_c (hF336.2.1 233 (by decide))).trans (eA_c gA_sI)).trans hv341))
        obtain ⟨v343, hv343⟩ : ∃ v, eA g0 233 0 = v := ⟨_, rfl⟩
        have tv343 := congrArg Int32.toInt hv343
        have wv343 := HI.t0 hI0
        rw [hv343] at wv343
        have tv343 := congrArg Int32.toInt hv343
        have x344 := HI.eqA hI335 (p := 233) (j := 0) ((((eA_c (hF336.2.1 233 (by decide))).trans (eA_c gA_sI)).trans hv343))
        obtain ⟨v345, hv345⟩ : ∃ v, eA g0 233 4 = v := ⟨_, rfl⟩
        have wv345 := HI.t4 hI0
        rw [hv345] at wv345
        have tv345 := congrArg Int32.toInt hv345
        have x346 := HI.eqA hI335 (p := 233) (j := 4) ((((eA_c (hF336.2.1 233 (by decide))).trans (eA_c gA_sI)).trans hv345))
        obtain ⟨v347, hv347⟩ : ∃ v, eA g0 233 5 = v := ⟨_, rfl⟩
        have wv347 := HI.t5 hI0
        rw [hv347] at wv347
        have tv347 := congrArg Int32.toInt hv347
        have x348 := HI.eqA hI335 (p := 233) (j := 5) ((((eA_c (hF336.2.1 233 (by decide))).trans (eA_c gA_sI)).trans hv347))
        obtain ⟨v349, hv349⟩ : ∃ v, eA g0 233 6 = v := ⟨_, rfl⟩
        have wv349 := HI.t6 hI0
        rw [hv349] at wv349
        have tv349 := congrArg Int32.toInt hv349
        have x350 := HI.eqA hI335 (p := 233) (j := 6) ((((eA_c (hF336.2.1 233 (by decide))).trans (eA_c gA_sI)).trans hv349))
        have x351 := HI.eqA hI0 (p := 233) (j := 1) (hv341)
        have x352 := HI.eqA hI0 (p := 233) (j := 0) (hv343)
        have x353 := HI.eqA hI0 (p := 233) (j := 0) (hv343)
        have x354 := HI.eqA hI0 (p := 233) (j := 4) (hv345)
        have x355 := HI.eqA hI0 (p := 233) (j := 5) (hv347)
        have x356 := HI.eqA hI0 (p := 233) (j := 6) (hv349)
        exact ⟨_, rfl, hI335, hF339, _, rfl, by omega, ⟨⟨by omega, by omega, by omega, by omega, by omega, by omega, by omega, by omega⟩, (by intro i i0 i1; refine (eA_ti (((hF336.2.1 233 (by decide)).trans (gA_sI)))).trans ?_; (first | rfl | exact eA_ix (by omega) | omega)), (by intro i i0 i1; refine (eA_ti (((hF336.2.1 233 (by decide)).trans (gA_sI)))).trans ?_; (first | rfl | exact eA_ix (by omega) | omega)), (by intro i i0 i1; refine Eq.trans ?_ (if_neg (show ¬ (((1 ≤ a1.toInt ∧ a1.toInt ≤ 9 ∧ 0 ≤ a4.toInt ∧ a4.toInt ≤ 99 ∧ 0 ≤ a5.toInt ∧ a5.toInt ≤ 9 ∧ 0 ≤ a6.toInt ∧ a6.toInt ≤ 9999) ∧ (0 ≤ a2.toInt ∧ a2.toInt < (eA g0 233 0).toInt ∧ 0 ≤ a3.toInt ∧ a3.toInt < (eA g0 233 0).toInt) ∧ (eA g0 233 1).toInt < 8) ∧ i = 46 + 6 * (eA g0 233 1).toInt + 0) from by omega)).symm; refine Eq.trans ?_ (if_neg (show ¬ (((1 ≤ a1.toInt ∧ a1.toInt ≤ 9 ∧ 0 ≤ a4.toInt ∧ a4.toInt ≤ 99 ∧ 0 ≤ a5.toInt ∧ a5.toInt ≤ 9 ∧ 0 ≤ a6.toInt ∧ a6.toInt ≤ 9999) ∧ (0 ≤ a2.toInt ∧ a2.toInt < (eA g0 233 0).toInt ∧ 0 ≤ a3.toInt ∧ a3.toInt < (eA g0 233 0).toInt) ∧ (eA g0 233 1).toInt < 8) ∧ i = 46 + 6 * (eA g0 233 1).toInt + 1) from by omega)).symm; refine Eq.trans ?_ (if_neg (show ¬ (((1 ≤ a1.toInt ∧ a1.toInt ≤ 9 ∧ 0 ≤ a4.toInt ∧ a4.toInt ≤ 99 ∧ 0 ≤ a5.toInt ∧ a5.toInt ≤ 9 ∧ 0 ≤ a6.toInt ∧ a6.toInt ≤ 9999) ∧ (0 ≤ a2.toInt ∧ a2.toInt < (eA g0 233 0).toInt ∧ 0 ≤ a3.toInt ∧ a3.toInt < (eA g0 233 0).toInt) ∧ (eA g0 233 1).toInt < 8) ∧ i = 46 + 6 * (eA g0 233 1).toInt + 2) from by omega)).symm; refine Eq.trans ?_ (if_neg (show ¬ (((1 ≤ a1.toInt ∧ a1.toInt ≤ 9 ∧ 0 ≤ a4.toInt ∧ a4.toInt ≤ 99 ∧ 0 ≤ a5.toInt ∧ a5.toInt ≤ 9 ∧ 0 ≤ a6.toInt ∧ a6.toInt ≤ 9999) ∧ (0 ≤ a2.toInt ∧ a2.toInt < (eA g0 233 0).toInt ∧ 0 ≤ a3.toInt ∧ a3.toInt < (eA g0 233 0).toInt) ∧ (eA g0 233 1).toInt < 8) ∧ i = 46 + 6 * (eA g0 233 1).toInt + 3) from by omega)).symm; refine Eq.trans ?_ (if_neg (show ¬ (((1 ≤ a1.toInt ∧ a1.toInt ≤ 9 ∧ 0 ≤ a4.toInt ∧ a4.toInt ≤ 99 ∧ 0 ≤ a5.toInt ∧ a5.toInt ≤ 9 ∧ 0 ≤ a6.toInt ∧ a6.toInt ≤ 9999) ∧ (0 ≤ a2.toInt ∧ a2.toInt < (eA g0 233 0).toInt ∧ 0 ≤ a3.toInt ∧ a3.toInt < (eA g0 233 0).toInt) ∧ (eA g0 233 1).toInt < 8) ∧ i = 46 + 6 * (eA g0 233 1).toInt + 4) from by omega)).symm; refine Eq.trans ?_ (if_neg (show ¬ (((1 ≤ a1.toInt ∧ a1.toInt ≤ 9 ∧ 0 ≤ a4.toInt ∧ a4.toInt ≤ 99 ∧ 0 ≤ a5.toInt ∧ a5.toInt ≤ 9 ∧ 0 ≤ a6.toInt ∧ a6.toInt ≤ 9999) ∧ (0 ≤ a2.toInt ∧ a2.toInt < (eA g0 233 0).toInt ∧ 0 ≤ a3.toInt ∧ a3.toInt < (eA g0 233 0).toInt) ∧ (eA g0 233 1).toInt < 8) ∧ i = 46 + 6 * (eA g0 233 1).toInt + 5) from by omega)).symm; refine (eA_ti (((hF336.2.1 233 (by decide)).trans (gA_sI)))).trans ?_; (first | rfl | exact eA_ix (by omega) | omega))⟩⟩
      · have c333_ : v332.toInt ≥ 0 := en_j_lt_f c333
        refine At.enter rfl ?_
        refine r_lload_n rfl ?_
        refine r_lload rfl ?_
        refine r_lcmp _ rfl ?_
        refine r_ifs 13 rfl (fun c357 => ?_) (fun c357 => ?_)
        · have c357_ : v332.toInt > 99 := en_j_gt_t c357
          refine At.enter rfl ?_
          refine r_iconst 0 rfl ?_
          refine Ar.fall 18 rfl ?_
          refine At.enter rfl ?_
          refine q_iretz (by decide) ?_
          refine At.enter rfl ?_
          refine r_ift (by decide) ?_
          refine At.enter rfl ?_
          refine r_iconst 0 rfl ?_
          refine Ar.fall 53 rfl ?_
          refine At.enter rfl ?_
          refine q_iretz (by decide) ?_
          refine At.enter rfl ?_
          refine r_iff 18 rfl (by decide) ?_
          refine At.enter rfl ?_
          refine r_aload_n rfl ?_
          refine r_iconst (-1) rfl ?_
          refine r_callV 23 rfl [.ref 231, .int (-1)] [] (Nat.le_of_ble_eq_true rfl) rfl (T_X11_tell_231 _ hI281 (-1) (by decide)) ?_
          rintro _ _ ⟨g358, rfl, hI359, hF360, v361, rfl, hr362⟩
          refine At.sti ?_
          have hF363 := Fr.tr hF282 hF360 rfl rfl
          have zv364 : ((-1) : Int32).toInt = (-1) := rfl
          refine At.enter rfl ?_
          refine r_ireti ?_
          obtain ⟨v365, hv365⟩ : ∃ v, eA g0 233 1 = v := ⟨_, rfl⟩
          have tv365 := congrArg Int32.toInt hv365
          have wv365 := HI.t1 hI0
          rw [hv365] at wv365
          have tv365 := congrArg Int32.toInt hv365
          have x366 := HI.eqA hI359 (p := 233) (j := 1) ((((eA_c (hF360.2.1 233 (by decide))).trans (eA_c gA_sI)).trans hv365))
          obtain ⟨v367, hv367⟩ : ∃ v, eA g0 233 0 = v := ⟨_, rfl⟩
          have tv367 := congrArg Int32.toInt hv367
          have wv367 := HI.t0 hI0
          rw [hv367] at wv367
          have tv367 := congrArg Int32.toInt hv367
          have x368 := HI.eqA hI359 (p := 233) (j := 0) ((((eA_c (hF360.2.1 233 (by decide))).trans (eA_c gA_sI)).trans hv367))
          obtain ⟨v369, hv369⟩ : ∃ v, eA g0 233 4 = v := ⟨_, rfl⟩
          have wv369 := HI.t4 hI0
          rw [hv369] at wv369
          have tv369 := congrArg Int32.toInt hv369
          have x370 := HI.eqA hI359 (p := 233) (j := 4) ((((eA_c (hF360.2.1 233 (by decide))).trans (eA_c gA_sI)).trans hv369))
          obtain ⟨v371, hv371⟩ : ∃ v, eA g0 233 5 = v := ⟨_, rfl⟩
          have wv371 := HI.t5 hI0
          rw [hv371] at wv371
          have tv371 := congrArg Int32.toInt hv371
          have x372 := HI.eqA hI359 (p := 233) (j := 5) ((((eA_c (hF360.2.1 233 (by decide))).trans (eA_c gA_sI)).trans hv371))
          obtain ⟨v373, hv373⟩ : ∃ v, eA g0 233 6 = v := ⟨_, rfl⟩
          have wv373 := HI.t6 hI0
          rw [hv373] at wv373
          have tv373 := congrArg Int32.toInt hv373
          have x374 := HI.eqA hI359 (p := 233) (j := 6) ((((eA_c (hF360.2.1 233 (by decide))).trans (eA_c gA_sI)).trans hv373))
          have x375 := HI.eqA hI0 (p := 233) (j := 1) (hv365)
          have x376 := HI.eqA hI0 (p := 233) (j := 0) (hv367)
          have x377 := HI.eqA hI0 (p := 233) (j := 0) (hv367)
          have x378 := HI.eqA hI0 (p := 233) (j := 4) (hv369)
          have x379 := HI.eqA hI0 (p := 233) (j := 5) (hv371)
          have x380 := HI.eqA hI0 (p := 233) (j := 6) (hv373)
          exact ⟨_, rfl, hI359, hF363, _, rfl, by omega, ⟨⟨by omega, by omega, by omega, by omega, by omega, by omega, by omega, by omega⟩, (by intro i i0 i1; refine (eA_ti (((hF360.2.1 233 (by decide)).trans (gA_sI)))).trans ?_; (first | rfl | exact eA_ix (by omega) | omega)), (by intro i i0 i1; refine (eA_ti (((hF360.2.1 233 (by decide)).trans (gA_sI)))).trans ?_; (first | rfl | exact eA_ix (by omega) | omega)), (by intro i i0 i1; refine Eq.trans ?_ (if_neg (show ¬ (((1 ≤ a1.toInt ∧ a1.toInt ≤ 9 ∧ 0 ≤ a4.toInt ∧ a4.toInt ≤ 99 ∧ 0 ≤ a5.toInt ∧ a5.toInt ≤ 9 ∧ 0 ≤ a6.toInt ∧ a6.toInt ≤ 9999) ∧ (0 ≤ a2.toInt ∧ a2.toInt < (eA g0 233 0).toInt ∧ 0 ≤ a3.toInt ∧ a3.toInt < (eA g0 233 0).toInt) ∧ (eA g0 233 1).toInt < 8) ∧ i = 46 + 6 * (eA g0 233 1).toInt + 0) from by omega)).symm; refine Eq.trans ?_ (if_neg (show ¬ (((1 ≤ a1.toInt ∧ a1.toInt ≤ 9 ∧ 0 ≤ a4.toInt ∧ a4.toInt ≤ 99 ∧ 0 ≤ a5.toInt ∧ a5.toInt ≤ 9 ∧ 0 ≤ a6.toInt ∧ a6.toInt ≤ 9999) ∧ (0 ≤ a2.toInt ∧ a2.toInt < (eA g0 233 0).toInt ∧ 0 ≤ a3.toInt ∧ a3.toInt < (eA g0 233 0).toInt) ∧ (eA g0 233 1).toInt < 8) ∧ i = 46 + 6 * (eA g0 233 1).toInt + 1) from by omega)).symm; refine Eq.trans ?_ (if_neg (show ¬ (((1 ≤ a1.toInt ∧ a1.toInt ≤ 9 ∧ 0 ≤ a4.toInt ∧ a4.toInt ≤ 99 ∧ 0 ≤ a5.toInt ∧ a5.toInt ≤ 9 ∧ 0 ≤ a6.toInt ∧ a6.toInt ≤ 9999) ∧ (0 ≤ a2.toInt ∧ a2.toInt < (eA g0 233 0).toInt ∧ 0 ≤ a3.toInt ∧ a3.toInt < (eA g0 233 0).toInt) ∧ (eA g0 233 1).toInt < 8) ∧ i = 46 + 6 * (eA g0 233 1).toInt + 2) from by omega)).symm; refine Eq.trans ?_ (if_neg (show ¬ (((1 ≤ a1.toInt ∧ a1.toInt ≤ 9 ∧ 0 ≤ a4.toInt ∧ a4.toInt ≤ 99 ∧ 0 ≤ a5.toInt ∧ a5.toInt ≤ 9 ∧ 0 ≤ a6.toInt ∧ a6.toInt ≤ 9999) ∧ (0 ≤ a2.toInt ∧ a2.toInt < (eA g0 233 0).toInt ∧ 0 ≤ a3.toInt ∧ a3.toInt < (eA g0 233 0).toInt) ∧ (eA g0 233 1).toInt < 8) ∧ i = 46 + 6 * (eA g0 233 1).toInt + 3) from by omega)).symm; refine Eq.trans ?_ (if_neg (show ¬ (((1 ≤ a1.toInt ∧ a1.toInt ≤ 9 ∧ 0 ≤ a4.toInt ∧ a4.toInt ≤ 99 ∧ 0 ≤ a5.toInt ∧ a5.toInt ≤ 9 ∧ 0 ≤ a6.toInt ∧ a6.toInt ≤ 9999) ∧ (0 ≤ a2.toInt ∧ a2.toInt < (eA g0 233 0).toInt ∧ 0 ≤ a3.toInt ∧ a3.toInt < (eA g0 233 0).toInt) ∧ (eA g0 233 1).toInt < 8) ∧ i = 46 + 6 * (eA g0 233 1).toInt + 4) from by omega)).symm; refine Eq.trans ?_ (if_neg (show ¬ (((1 ≤ a1.toInt ∧ a1.toInt ≤ 9 ∧ 0 ≤ a4.toInt ∧ a4.toInt ≤ 99 ∧ 0 ≤ a5.toInt ∧ a5.toInt ≤ 9 ∧ 0 ≤ a6.toInt ∧ a6.toInt ≤ 9999) ∧ (0 ≤ a2.toInt ∧ a2.toInt < (eA g0 233 0).toInt ∧ 0 ≤ a3.toInt ∧ a3.toInt < (eA g0 233 0).toInt) ∧ (eA g0 233 1).toInt < 8) ∧ i = 46 + 6 * (eA g0 233 1).toInt + 5) from by omega)).symm; refine (eA_ti (((hF360.2.1 233 (by decide)).trans (gA_sI)))).trans ?_; (first | rfl | exact eA_ix (by omega) | omega))⟩⟩
        · have c357_ : v332.toInt ≤ 99 := en_j_gt_f c357
          refine At.enter rfl ?_
          refine r_iconst 1 rfl ?_
          refine r_goto ?_
          refine At.enter rfl ?_
          refine q_iretz (by decide) ?_
          refine At.enter rfl ?_
          refine r_iff 24 rfl (by decide) ?_
          refine At.enter rfl ?_
          refine r_iload_n rfl ?_
          refine q_i2l (fun v381 hv381 => ?_)
          refine r_lconst 0 rfl ?_
          refine r_ldc2 9 rfl ?_
          refine q_inlS 33 rfl [.long v381, .long 0, .long 9] [] (Nat.le_of_ble_eq_true rfl) rfl ?_
          refine Ev.mk rfl rfl ⟨Nat.le_of_ble_eq_true rfl, Or.inl rfl⟩ ?_
          show At _ none _ _ (0, [(0, .long v381), (2, .long 0), (4, .long 9)], [], (_, _)) _
          refine At.enter rfl ?_
          refine r_lload_n rfl ?_
          refine r_lload_n rfl ?_
          refine r_lcmp _ rfl ?_
          refine r_ifs 6 rfl (fun c382 => ?_) (fun c382 => ?_)
          · have c382_ : v381.toInt < 0 := en_j_lt_t c382
            refine At.enter rfl ?_
            refine r_iconst 0 rfl ?_
            refine Ar.fall 18 rfl ?_
            refine At.enter rfl ?_
            refine q_iretz (by decide) ?_
            refine At.enter rfl ?_
            refine r_ift (by decide) ?_
            refine At.enter rfl ?_
            refine r_iconst 0 rfl ?_
            refine Ar.fall 53 rfl ?_
            refine At.enter rfl ?_
            refine q_iretz (by decide) ?_
            refine At.enter rfl ?_
            refine r_iff 18 rfl (by decide) ?_
            refine At.enter rfl ?_
            refine r_aload_n rfl ?_
            refine r_iconst (-1) rfl ?_
            refine r_callV 23 rfl [.ref 231, .int (-1)] [] (Nat.le_of_ble_eq_true rfl) rfl (T_X11_tell_231 _ hI281 (-1) (by decide)) ?_
            rintro _ _ ⟨g383, rfl, hI384, hF385, v386, rfl, hr387⟩
            refine At.sti ?_
            have hF388 := Fr.tr hF282 hF385 rfl rfl
            have zv389 : ((-1) : Int32).toInt = (-1) := rfl
            refine At.enter rfl ?_
            refine r_ireti ?_
            obtain ⟨v390, hv390⟩ : ∃ v, eA g0 233 1 = v := ⟨_, rfl⟩
            have tv390 := congrArg Int32.toInt hv390
            have wv390 := HI.t1 hI0
            rw [hv390] at wv390
            have tv390 := congrArg Int32.toInt hv390
            have x391 := HI.eqA hI384 (p := 233) (j := 1) ((((eA_c (hF385.2.1 233 (by decide))).trans (eA_c gA_sI)).trans hv390))
            obtain ⟨v392, hv392⟩ : ∃ v, eA g0 233 0 = v := ⟨_, rfl⟩
            have tv392 := congrArg Int32.toInt hv392
            have wv392 := HI.t0 hI0
            rw [hv392] at wv392
            have tv392 := congrArg Int32.toInt hv392
            have x393 := HI.eqA hI384 (p := 233) (j := 0) ((((eA_c (hF385.2.1 233 (by decide))).trans (eA_c gA_sI)).trans hv392))
            obtain ⟨v394, hv394⟩ : ∃ v, eA g0 233 4 = v := ⟨_, rfl⟩
            have wv394 := HI.t4 hI0
            rw [hv394] at wv394
            have tv394 := congrArg Int32.toInt hv394
            have x395 := HI.eqA hI384 (p := 233) (j := 4) ((((eA_c (hF385.2.1 233 (by decide))).trans (eA_c gA_sI)).trans hv394))
            obtain ⟨v396, hv396⟩ : ∃ v, eA g0 233 5 = v := ⟨_, rfl⟩
            have wv396 := HI.t5 hI0
            rw [hv396] at wv396
            have tv396 := congrArg Int32.toInt hv396
            have x397 := HI.eqA hI384 (p := 233) (j := 5) ((((eA_c (hF385.2.1 233 (by decide))).trans (eA_c gA_sI)).trans hv396))
            obtain ⟨v398, hv398⟩ : ∃ v, eA g0 233 6 = v := ⟨_, rfl⟩
            have wv398 := HI.t6 hI0
            rw [hv398] at wv398
            have tv398 := congrArg Int32.toInt hv398
            have x399 := HI.eqA hI384 (p := 233) (j := 6) ((((eA_c (hF385.2.1 233 (by decide))).trans (eA_c gA_sI)).trans hv398))
            have x400 := HI.eqA hI0 (p := 233) (j := 1) (hv390)
            have x401 := HI.eqA hI0 (p := 233) (j := 0) (hv392)
            have x402 := HI.eqA hI0 (p := 233) (j := 0) (hv392)
            have x403 := HI.eqA hI0 (p := 233) (j := 4) (hv394)
            have x404 := HI.eqA hI0 (p := 233) (j := 5) (hv396)
            have x405 := HI.eqA hI0 (p := 233) (j := 6) (hv398)
            exact ⟨_, rfl, hI384, hF388, _, rfl, by omega, ⟨⟨by omega, by omega, by omega, by omega, by omega, by omega, by omega, by omega⟩, (by intro i i0 i1; refine (eA_ti (((hF385.2.1 233 (by decide)).trans (gA_sI)))).trans ?_; (first | rfl | exact eA_ix (by omega) | omega)), (by intro i i0 i1; refine (eA_ti (((hF385.2.1 233 (by decide)).trans (gA_sI)))).trans ?_; (first | rfl | exact eA_ix (by omega) | omega)), (by intro i i0 i1; refine Eq.trans ?_ (if_neg (show ¬ (((1 ≤ a1.toInt ∧ a1.toInt ≤ 9 ∧ 0 ≤ a4.toInt ∧ a4.toInt ≤ 99 ∧ 0 ≤ a5.toInt ∧ a5.toInt ≤ 9 ∧ 0 ≤ a6.toInt ∧ a6.toInt ≤ 9999) ∧ (0 ≤ a2.toInt ∧ a2.toInt < (eA g0 233 0).toInt ∧ 0 ≤ a3.toInt ∧ a3.toInt < (eA g0 233 0).toInt) ∧ (eA g0 233 1).toInt < 8) ∧ i = 46 + 6 * (eA g0 233 1).toInt + 0) from by omega)).symm; refine Eq.trans ?_ (if_neg (show ¬ (((1 ≤ a1.toInt ∧ a1.toInt ≤ 9 ∧ 0 ≤ a4.toInt ∧ a4.toInt ≤ 99 ∧ 0 ≤ a5.toInt ∧ a5.toInt ≤ 9 ∧ 0 ≤ a6.toInt ∧ a6.toInt ≤ 9999) ∧ (0 ≤ a2.toInt ∧ a2.toInt < (eA g0 233 0).toInt ∧ 0 ≤ a3.toInt ∧ a3.toInt < (eA g0 233 0).toInt) ∧ (eA g0 233 1).toInt < 8) ∧ i = 46 + 6 * (eA g0 233 1).toInt + 1) from by omega)).symm; refine Eq.trans ?_ (if_neg (show ¬ (((1 ≤ a1.toInt ∧ a1.toInt ≤ 9 ∧ 0 ≤ a4.toInt ∧ a4.toInt ≤ 99 ∧ 0 ≤ a5.toInt ∧ a5.toInt ≤ 9 ∧ 0 ≤ a6.toInt ∧ a6.toInt ≤ 9999) ∧ (0 ≤ a2.toInt ∧ a2.toInt < (eA g0 233 0).toInt ∧ 0 ≤ a3.toInt ∧ a3.toInt < (eA g0 233 0).toInt) ∧ (eA g0 233 1).toInt < 8) ∧ i = 46 + 6 * (eA g0 233 1).toInt + 2) from by omega)).symm; refine Eq.trans ?_ (if_neg (show ¬ (((1 ≤ a1.toInt ∧ a1.toInt ≤ 9 ∧ 0 ≤ a4.toInt ∧ a4.toInt ≤ 99 ∧ 0 ≤ a5.toInt ∧ a5.toInt ≤ 9 ∧ 0 ≤ a6.toInt ∧ a6.toInt ≤ 9999) ∧ (0 ≤ a2.toInt ∧ a2.toInt < (eA g0 233 0).toInt ∧ 0 ≤ a3.toInt ∧ a3.toInt < (eA g0 233 0).toInt) ∧ (eA g0 233 1).toInt < 8) ∧ i = 46 + 6 * (eA g0 233 1).toInt + 3) from by omega)).symm; refine Eq.trans ?_ (if_neg (show ¬ (((1 ≤ a1.toInt ∧ a1.toInt ≤ 9 ∧ 0 ≤ a4.toInt ∧ a4.toInt ≤ 99 ∧ 0 ≤ a5.toInt ∧ a5.toInt ≤ 9 ∧ 0 ≤ a6.toInt ∧ a6.toInt ≤ 9999) ∧ (0 ≤ a2.toInt ∧ a2.toInt < (eA g0 233 0).toInt ∧ 0 ≤ a3.toInt ∧ a3.toInt < (eA g0 233 0).toInt) ∧ (eA g0 233 1).toInt < 8) ∧ i = 46 + 6 * (eA g0 233 1).toInt + 4) from by omega)).symm; refine Eq.trans ?_ (if_neg (show ¬ (((1 ≤ a1.toInt ∧ a1.toInt ≤ 9 ∧ 0 ≤ a4.toInt ∧ a4.toInt ≤ 99 ∧ 0 ≤ a5.toInt ∧ a5.toInt ≤ 9 ∧ 0 ≤ a6.toInt ∧ a6.toInt ≤ 9999) ∧ (0 ≤ a2.toInt ∧ a2.toInt < (eA g0 233 0).toInt ∧ 0 ≤ a3.toInt ∧ a3.toInt < (eA g0 233 0).toInt) ∧ (eA g0 233 1).toInt < 8) ∧ i = 46 + 6 * (eA g0 233 1).toInt + 5) from by omega)).symm; refine (eA_ti (((hF385.2.1 233 (by decide)).trans (gA_sI)))).trans ?_; (first | rfl | exact eA_ix (by omega) | omega))⟩⟩
          · have c382_ : v381.toInt ≥ 0 := en_j_lt_f c382
            refine At.enter rfl ?_
            refine r_lload_n rfl ?_
            refine r_lload rfl ?_
            refine r_lcmp _ rfl ?_
            refine r_ifs 13 rfl (fun c406 => ?_) (fun c406 => ?_)
            · have c406_ : v381.toInt > 9 := en_j_gt_t c406
              refine At.enter rfl ?_
              refine r_iconst 0 rfl ?_
              refine Ar.fall 18 rfl ?_
              refine At.enter rfl ?_
              refine q_iretz (by decide) ?_
              refine At.enter rfl ?_
              refine r_ift (by decide) ?_
              refine At.enter rfl ?_
              refine r_iconst 0 rfl ?_
              refine Ar.fall 53 rfl ?_
              refine At.enter rfl ?_
              refine q_iretz (by decide) ?_
              refine At.enter rfl ?_
              refine r_iff 18 rfl (by decide) ?_
              refine At.enter rfl ?_
              refine r_aload_n rfl ?_
              refine r_iconst (-1) rfl ?_
              refine r_callV 23 rfl [.ref 231, .int (-1)] [] (Nat.le_of_ble_eq_true rfl) rfl (T_X11_tell_231 _ hI281 (-1) (by decide)) ?_
              rintro _ _ ⟨g407, rfl, hI408, hF409, v410, rfl, hr411⟩
              refine At.sti ?_
              have hF412 := Fr.tr hF282 hF409 rfl rfl
              have zv413 : ((-1) : Int32).toInt = (-1) := rfl
              refine At.enter rfl ?_
              refine r_ireti ?_
              obtain ⟨v414, hv414⟩ : ∃ v, eA g0 233 1 = v := ⟨_, rfl⟩
              have tv414 := congrArg Int32.toInt hv414
              have wv414 := HI.t1 hI0
              rw [hv414] at wv414
              have tv414 := congrArg Int32.toInt hv414
              have x415 := HI.eqA hI408 (p := 233) (j := 1) ((((eA_c (hF409.2.1 233 (by decide))).trans (eA_c gA_sI)).trans hv414))
              obtain ⟨v416, hv416⟩ : ∃ v, eA g0 233 0 = v := ⟨_, rfl⟩
              have tv416 := congrArg Int32.toInt hv416
              have wv416 := HI.t0 hI0
              rw [hv416] at wv416
              have tv416 := congrArg Int32.toInt hv416
              have x417 := HI.eqA hI408 (p := 233) (j := 0) ((((eA_c (hF409.2.1 233 (by decide))).trans (eA_c gA_sI)).trans hv416))
              obtain ⟨v418, hv418⟩ : ∃ v, eA g0 233 4 = v := ⟨_, rfl⟩
              have wv418 := HI.t4 hI0
              rw [hv418] at wv418
              have tv418 := congrArg Int32.toInt hv418
              have x419 := HI.eqA hI408 (p := 233) (j := 4) ((((eA_c (hF409.2.1 233 (by decide))).trans (eA_c gA_sI)).trans hv418))
              obtain ⟨v420, hv420⟩ : ∃ v, eA g0 233 5 = v := ⟨_, rfl⟩
              have wv420 := HI.t5 hI0
              rw [hv420] at wv420
              have tv420 := congrArg Int32.toInt hv420
              have x421 := HI.eqA hI408 (p := 233) (j := 5) ((((eA_c (hF409.2.1 233 (by decide))).trans (eA_c gA_sI)).trans hv420))
              obtain ⟨v422, hv422⟩ : ∃ v, eA g0 233 6 = v := ⟨_, rfl⟩
              have wv422 := HI.t6 hI0
              rw [hv422] at wv422
              have tv422 := congrArg Int32.toInt hv422
              have x423 := HI.eqA hI408 (p := 233) (j := 6) ((((eA_c (hF409.2.1 233 (by decide))).trans (eA_c gA_sI)).trans hv422))
              have x424 := HI.eqA hI0 (p := 233) (j := 1) (hv414)
              have x425 := HI.eqA hI0 (p := 233) (j := 0) (hv416)
              have x426 := HI.eqA hI0 (p := 233) (j := 0) (hv416)
              have x427 := HI.eqA hI0 (p := 233) (j := 4) (hv418)
              have x428 := HI.eqA hI0 (p := 233) (j := 5) (hv420)
              have x429 := HI.eqA hI0 (p := 233) (j := 6) (hv422)
              exact ⟨_, rfl, hI408, hF412, _, rfl, by omega, ⟨⟨by omega, by omega, by omega, by omega, by omega, by omega, by omega, by omega⟩, (by intro i i0 i1; refine (eA_ti (((hF409.2.1 233 (by decide)).trans (gA_sI)))).trans ?_; (first | rfl | exact eA_ix (by omega) | omega)), (by intro i i0 i1; refine (eA_ti (((hF409.2.1 233 (by decide)).trans (gA_sI)))).trans ?_; (first | rfl | exact eA_ix (by omega) | omega)), (by intro i i0 i1; refine Eq.trans ?_ (if_neg (show ¬ (((1 ≤ a1.toInt ∧ a1.toInt ≤ 9 ∧ 0 ≤ a4.toInt ∧ a4.toInt ≤ 99 ∧ 0 ≤ a5.toInt ∧ a5.toInt ≤ 9 ∧ 0 ≤ a6.toInt ∧ a6.toInt ≤ 9999) ∧ (0 ≤ a2.toInt ∧ a2.toInt < (eA g0 233 0).toInt ∧ 0 ≤ a3.toInt ∧ a3.toInt < (eA g0 233 0).toInt) ∧ (eA g0 233 1).toInt < 8) ∧ i = 46 + 6 * (eA g0 233 1).toInt + 0) from by omega)).symm; refine Eq.trans ?_ (if_neg (show ¬ (((1 ≤ a1.toInt ∧ a1.toInt ≤ 9 ∧ 0 ≤ a4.toInt ∧ a4.toInt ≤ 99 ∧ 0 ≤ a5.toInt ∧ a5.toInt ≤ 9 ∧ 0 ≤ a6.toInt ∧ a6.toInt ≤ 9999) ∧ (0 ≤ a2.toInt ∧ a2.toInt < (eA g0 233 0).toInt ∧ 0 ≤ a3.toInt ∧ a3.toInt < (eA g0 233 0).toInt) ∧ (eA g0 233 1).toInt < 8) ∧ i = 46 + 6 * (eA g0 233 1).toInt + 1) from by omega)).symm; refine Eq.trans ?_ (if_neg (show ¬ (((1 ≤ a1.toInt ∧ a1.toInt ≤ 9 ∧ 0 ≤ a4.toInt ∧ a4.toInt ≤ 99 ∧ 0 ≤ a5.toInt ∧ a5.toInt ≤ 9 ∧ 0 ≤ a6.toInt ∧ a6.toInt ≤ 9999) ∧ (0 ≤ a2.toInt ∧ a2.toInt < (eA g0 233 0).toInt ∧ 0 ≤ a3.toInt ∧ a3.toInt < (eA g0 233 0).toInt) ∧ (eA g0 233 1).toInt < 8) ∧ i = 46 + 6 * (eA g0 233 1).toInt + 2) from by omega)).symm; refine Eq.trans ?_ (if_neg (show ¬ (((1 ≤ a1.toInt ∧ a1.toInt ≤ 9 ∧ 0 ≤ a4.toInt ∧ a4.toInt ≤ 99 ∧ 0 ≤ a5.toInt ∧ a5.toInt ≤ 9 ∧ 0 ≤ a6.toInt ∧ a6.toInt ≤ 9999) ∧ (0 ≤ a2.toInt ∧ a2.toInt < (eA g0 233 0).toInt ∧ 0 ≤ a3.toInt ∧ a3.toInt < (eA g0 233 0).toInt) ∧ (eA g0 233 1).toInt < 8) ∧ i = 46 + 6 * (eA g0 233 1).toInt + 3) from by omega)).symm; refine Eq.trans ?_ (if_neg (show ¬ (((1 ≤ a1.toInt ∧ a1.toInt ≤ 9 ∧ 0 ≤ a4.toInt ∧ a4.toInt ≤ 99 ∧ 0 ≤ a5.toInt ∧ a5.toInt ≤ 9 ∧ 0 ≤ a6.toInt ∧ a6.toInt ≤ 9999) ∧ (0 ≤ a2.toInt ∧ a2.toInt < (eA g0 233 0).toInt ∧ 0 ≤ a3.toInt ∧ a3.toInt < (eA g0 233 0).toInt) ∧ (eA g0 233 1).toInt < 8) ∧ i = 46 + 6 * (eA g0 233 1).toInt + 4) from by omega)).symm; refine Eq.trans ?_ (if_neg (show ¬ (((1 ≤ a1.toInt ∧ a1.toInt ≤ 9 ∧ 0 ≤ a4.toInt ∧ a4.toInt ≤ 99 ∧ 0 ≤ a5.toInt ∧ a5.toInt ≤ 9 ∧ 0 ≤ a6.toInt ∧ a6.toInt ≤ 9999) ∧ (0 ≤ a2.toInt ∧ a2.toInt < (eA g0 233 0).toInt ∧ 0 ≤ a3.toInt ∧ a3.toInt < (eA g0 233 0).toInt) ∧ (eA g0 233 1).toInt < 8) ∧ i = 46 + 6 * (eA g0 233 1).toInt + 5) from by omega)).symm; refine (eA_ti (((hF409.2.1 233 (by decide)).trans (gA_sI)))).trans ?_; (first | rfl | exact eA_ix (by omega) | omega))⟩⟩
            · have c406_ : v381.toInt ≤ 9 := en_j_gt_f c406
              refine At.enter rfl ?_
              refine r_iconst 1 rfl ?_
              refine r_goto ?_
              refine At.enter rfl ?_
              refine q_iretz (by decide) ?_
              refine At.enter rfl ?_
              refine r_iff 36 rfl (by decide) ?_
              refine At.enter rfl ?_
              refine r_iload_n rfl ?_
              refine q_i2l (fun v430 hv430 => ?_)
              refine r_lconst 0 rfl ?_
              refine r_ldc2 9999 rfl ?_
              refine q_inlS 45 rfl [.long v430, .long 0, .long 9999] [] (Nat.le_of_ble_eq_true rfl) rfl ?_
              refine Ev.mk rfl rfl ⟨Nat.le_of_ble_eq_true rfl, Or.inl rfl⟩ ?_
              show At _ none _ _ (0, [(0, .long v430), (2, .long 0), (4, .long 9999)], [], (_, _)) _
              refine At.enter rfl ?_
              refine r_lload_n rfl ?_
              refine r_lload_n rfl ?_
              refine r_lcmp _ rfl ?_
              refine r_ifs 6 rfl (fun c431 => ?_) (fun c431 => ?_)
              · have c431_ : v430.toInt < 0 := en_j_lt_t c431
                refine At.enter rfl ?_
                refine r_iconst 0 rfl ?_
                refine Ar.fall 18 rfl ?_
                refine At.enter rfl ?_
                refine q_iretz (by decide) ?_
                refine At.enter rfl ?_
                refine r_ift (by decide) ?_
                refine At.enter rfl ?_
                refine r_iconst 0 rfl ?_
                refine Ar.fall 53 rfl ?_
                refine At.enter rfl ?_
                refine q_iretz (by decide) ?_
                refine At.enter rfl ?_
                refine r_iff 18 rfl (by decide) ?_
                refine At.enter rfl ?_
                refine r_aload_n rfl ?_
                refine r_iconst (-1) rfl ?_
                refine r_callV 23 rfl [.ref 231, .int (-1)] [] (Nat.le_of_ble_eq_true rfl) rfl (T_X11_tell_231 _ hI281 (-1) (by decide)) ?_
                rintro _ _ ⟨g432, rfl, hI433, hF434, v435, rfl, hr436⟩
                refine At.sti ?_
                have hF437 := Fr.tr hF282 hF434 rfl rfl
                have zv438 : ((-1) : Int32).toInt = (-1) := rfl
                refine At.enter rfl ?_
                refine r_ireti ?_
                obtain ⟨v439, hv439⟩ : ∃ v, eA g0 233 1 = v := ⟨_, rfl⟩
                have tv439 := congrArg Int32.toInt hv439
                have wv439 := HI.t1 hI0
                rw [hv439] at wv439
                have tv439 := congrArg Int32.toInt hv439
                have x440 := HI.eqA hI433 (p := 233) (j := 1) ((((eA_c (hF434.2.1 233 (by decide))).trans (eA_c gA_sI)).trans hv439))
                obtain ⟨v441, hv441⟩ : ∃ v, eA g0 233 0 = v := ⟨_, rfl⟩
                have tv441 := congrArg Int32.toInt hv441
                have wv441 := HI.t0 hI0
                rw [hv441] at wv441
                have tv441 := congrArg Int32.toInt hv441
                have x442 := HI.eqA hI433 (p := 233) (j := 0) ((((eA_c (hF434.2.1 233 (by decide))).trans (eA_c gA_sI)).trans hv441))
                obtain ⟨v443, hv443⟩ : ∃ v, eA g0 233 4 = v := ⟨_, rfl⟩
                have wv443 := HI.t4 hI0
                rw [hv443] at wv443
                have tv443 := congrArg Int32.toInt hv443
                have x444 := HI.eqA hI433 (p := 233) (j := 4) ((((eA_c (hF434.2.1 233 (by decide))).trans (eA_c gA_sI)).trans hv443))
                obtain ⟨v445, hv445⟩ : ∃ v, eA g0 233 5 = v := ⟨_, rfl⟩
                have wv445 := HI.t5 hI0
                rw [hv445] at wv445
                have tv445 := congrArg Int32.toInt hv445
                have x446 := HI.eqA hI433 (p := 233) (j := 5) ((((eA_c (hF434.2.1 233 (by decide))).trans (eA_c gA_sI)).trans hv445))
                obtain ⟨v447, hv447⟩ : ∃ v, eA g0 233 6 = v := ⟨_, rfl⟩
                have wv447 := HI.t6 hI0
                rw [hv447] at wv447
                have tv447 := congrArg Int32.toInt hv447
                have x448 := HI.eqA hI433 (p := 233) (j := 6) ((((eA_c (hF434.2.1 233 (by decide))).trans (eA_c gA_sI)).trans hv447))
                have x449 := HI.eqA hI0 (p := 233) (j := 1) (hv439)
                have x450 := HI.eqA hI0 (p := 233) (j := 0) (hv441)
                have x451 := HI.eqA hI0 (p := 233) (j := 0) (hv441)
                have x452 := HI.eqA hI0 (p := 233) (j := 4) (hv443)
                have x453 := HI.eqA hI0 (p := 233) (j := 5) (hv445)
                have x454 := HI.eqA hI0 (p := 233) (j := 6) (hv447)
                exact ⟨_, rfl, hI433, hF437, _, rfl, by omega, ⟨⟨by omega, by omega, by omega, by omega, by omega, by omega, by omega, by omega⟩, (by intro i i0 i1; refine (eA_ti (((hF434.2.1 233 (by decide)).trans (gA_sI)))).trans ?_; (first | rfl | exact eA_ix (by omega) | omega)), (by intro i i0 i1; refine (eA_ti (((hF434.2.1 233 (by decide)).trans (gA_sI)))).trans ?_; (first | rfl | exact eA_ix (by omega) | omega)), (by intro i i0 i1; refine Eq.trans ?_ (if_neg (show ¬ (((1 ≤ a1.toInt ∧ a1.toInt ≤ 9 ∧ 0 ≤ a4.toInt ∧ a4.toInt ≤ 99 ∧ 0 ≤ a5.toInt ∧ a5.toInt ≤ 9 ∧ 0 ≤ a6.toInt ∧ a6.toInt ≤ 9999) ∧ (0 ≤ a2.toInt ∧ a2.toInt < (eA g0 233 0).toInt ∧ 0 ≤ a3.toInt ∧ a3.toInt < (eA g0 233 0).toInt) ∧ (eA g0 233 1).toInt < 8) ∧ i = 46 + 6 * (eA g0 233 1).toInt + 0) from by omega)).symm; refine Eq.trans ?_ (if_neg (show ¬ (((1 ≤ a1.toInt ∧ a1.toInt ≤ 9 ∧ 0 ≤ a4.toInt ∧ a4.toInt ≤ 99 ∧ 0 ≤ a5.toInt ∧ a5.toInt ≤ 9 ∧ 0 ≤ a6.toInt ∧ a6.toInt ≤ 9999) ∧ (0 ≤ a2.toInt ∧ a2.toInt < (eA g0 233 0).toInt ∧ 0 ≤ a3.toInt ∧ a3.toInt < (eA g0 233 0).toInt) ∧ (eA g0 233 1).toInt < 8) ∧ i = 46 + 6 * (eA g0 233 1).toInt + 1) from by omega)).symm; refine Eq.trans ?_ (if_neg (show ¬ (((1 ≤ a1.toInt ∧ a1.toInt ≤ 9 ∧ 0 ≤ a4.toInt ∧ a4.toInt ≤ 99 ∧ 0 ≤ a5.toInt ∧ a5.toInt ≤ 9 ∧ 0 ≤ a6.toInt ∧ a6.toInt ≤ 9999) ∧ (0 ≤ a2.toInt ∧ a2.toInt < (eA g0 233 0).toInt ∧ 0 ≤ a3.toInt ∧ a3.toInt < (eA g0 233 0).toInt) ∧ (eA g0 233 1).toInt < 8) ∧ i = 46 + 6 * (eA g0 233 1).toInt + 2) from by omega)).symm; refine Eq.trans ?_ (if_neg (show ¬ (((1 ≤ a1.toInt ∧ a1.toInt ≤ 9 ∧ 0 ≤ a4.toInt ∧ a4.toInt ≤ 99 ∧ 0 ≤ a5.toInt ∧ a5.toInt ≤ 9 ∧ 0 ≤ a6.toInt ∧ a6.toInt ≤ 9999) ∧ (0 ≤ a2.toInt ∧ a2.toInt < (eA g0 233 0).toInt ∧ 0 ≤ a3.toInt ∧ a3.toInt < (eA g0 233 0).toInt) ∧ (eA g0 233 1).toInt < 8) ∧ i = 46 + 6 * (eA g0 233 1).toInt + 3) from by omega)).symm; refine Eq.trans ?_ (if_neg (show ¬ (((1 ≤ a1.toInt ∧ a1.toInt ≤ 9 ∧ 0 ≤ a4.toInt ∧ a4.toInt ≤ 99 ∧ 0 ≤ a5.toInt ∧ a5.toInt ≤ 9 ∧ 0 ≤ a6.toInt ∧ a6.toInt ≤ 9999) ∧ (0 ≤ a2.toInt ∧ a2.toInt < (eA g0 233 0).toInt ∧ 0 ≤ a3.toInt ∧ a3.toInt < (eA g0 233 0).toInt) ∧ (eA g0 233 1).toInt < 8) ∧ i = 46 + 6 * (eA g0 233 1).toInt + 4) from by omega)).symm; refine Eq.trans ?_ (if_neg (show ¬ (((1 ≤ a1.toInt ∧ a1.toInt ≤ 9 ∧ 0 ≤ a4.toInt ∧ a4.toInt ≤ 99 ∧ 0 ≤ a5.toInt ∧ a5.toInt ≤ 9 ∧ 0 ≤ a6.toInt ∧ a6.toInt ≤ 9999) ∧ (0 ≤ a2.toInt ∧ a2.toInt < (eA g0 233 0).toInt ∧ 0 ≤ a3.toInt ∧ a3.toInt < (eA g0 233 0).toInt) ∧ (eA g0 233 1).toInt < 8) ∧ i = 46 + 6 * (eA g0 233 1).toInt + 5) from by omega)).symm; refine (eA_ti (((hF434.2.1 233 (by decide)).trans (gA_sI)))).trans ?_; (first | rfl | exact eA_ix (by omega) | omega))⟩⟩
              · have c431_ : v430.toInt ≥ 0 := en_j_lt_f c431
                refine At.enter rfl ?_
                refine r_lload_n rfl ?_
                refine r_lload rfl ?_
                refine r_lcmp _ rfl ?_
                refine r_ifs 13 rfl (fun c455 => ?_) (fun c455 => ?_)
                · have c455_ : v430.toInt > 9999 := en_j_gt_t c455
                  refine At.enter rfl ?_
                  refine r_iconst 0 rfl ?_
                  refine Ar.fall 18 rfl ?_
                  refine At.enter rfl ?_
                  refine q_iretz (by decide) ?_
                  refine At.enter rfl ?_
                  refine r_ift (by decide) ?_
                  refine At.enter rfl ?_
                  refine r_iconst 0 rfl ?_
                  refine Ar.fall 53 rfl ?_
                  refine At.enter rfl ?_
                  refine q_iretz (by decide) ?_
                  refine At.enter rfl ?_
                  refine r_iff 18 rfl (by decide) ?_
                  refine At.enter rfl ?_
                  refine r_aload_n rfl ?_
                  refine r_iconst (-1) rfl ?_
                  refine r_callV 23 rfl [.ref 231, .int (-1)] [] (Nat.le_of_ble_eq_true rfl) rfl (T_X11_tell_231 _ hI281 (-1) (by decide)) ?_
                  rintro _ _ ⟨g456, rfl, hI457, hF458, v459, rfl, hr460⟩
                  refine At.sti ?_
                  have hF461 := Fr.tr hF282 hF458 rfl rfl
                  have zv462 : ((-1) : Int32).toInt = (-1) := rfl
                  refine At.enter rfl ?_
                  refine r_ireti ?_
                  obtain ⟨v463, hv463⟩ : ∃ v, eA g0 233 1 = v := ⟨_, rfl⟩
                  have tv463 := congrArg Int32.toInt hv463
                  have wv463 := HI.t1 hI0
                  rw [hv463] at wv463
                  have tv463 := congrArg Int32.toInt hv463
                  have x464 := HI.eqA hI457 (p := 233) (j := 1) ((((eA_c (hF458.2.1 233 (by decide))).trans (eA_c gA_sI)).trans hv463))
                  obtain ⟨v465, hv465⟩ : ∃ v, eA g0 233 0 = v := ⟨_, rfl⟩
                  have tv465 := congrArg Int32.toInt hv465
                  have wv465 := HI.t0 hI0
                  rw [hv465] at wv465
                  have tv465 := congrArg Int32.toInt hv465
                  have x466 := HI.eqA hI457 (p := 233) (j := 0) ((((eA_c (hF458.2.1 233 (by decide))).trans (eA_c gA_sI)).trans hv465))
                  obtain ⟨v467, hv467⟩ : ∃ v, eA g0 233 4 = v := ⟨_, rfl⟩
                  have wv467 := HI.t4 hI0
                  rw [hv467] at wv467
                  have tv467 := congrArg Int32.toInt hv467
                  have x468 := HI.eqA hI457 (p := 233) (j := 4) ((((eA_c (hF458.2.1 233 (by decide))).trans (eA_c gA_sI)).trans hv467))
                  obtain ⟨v469, hv469⟩ : ∃ v, eA g0 233 5 = v := ⟨_, rfl⟩
                  have wv469 := HI.t5 hI0
                  rw [hv469] at wv469
                  have tv469 := congrArg Int32.toInt hv469
                  have x470 := HI.eqA hI457 (p := 233) (j := 5) ((((eA_c (hF458.2.1 233 (by decide))).trans (eA_c gA_sI)).trans hv469))
                  obtain ⟨v471, hv471⟩ : ∃ v, eA g0 233 6 = v := ⟨_, rfl⟩
                  have wv471 := HI.t6 hI0
                  rw [hv471] at wv471
                  have tv471 := congrArg Int32.toInt hv471
                  have x472 := HI.eqA hI457 (p := 233) (j := 6) ((((eA_c (hF458.2.1 233 (by decide))).trans (eA_c gA_sI)).trans hv471))
                  have x473 := HI.eqA hI0 (p := 233) (j := 1) (hv463)
                  have x474 := HI.eqA hI0 (p := 233) (j := 0) (hv465)
                  have x475 := HI.eqA hI0 (p := 233) (j := 0) (hv465)
                  have x476 := HI.eqA hI0 (p := 233) (j := 4) (hv467)
                  have x477 := HI.eqA hI0 (p := 233) (j := 5) (hv469)
                  have x478 := HI.eqA hI0 (p := 233) (j := 6) (hv471)
                  exact ⟨_, rfl, hI457, hF461, _, rfl, by omega, ⟨⟨by omega, by omega, by omega, by omega, by omega, by omega, by omega, by omega⟩, (by intro i i0 i1; refine (eA_ti (((hF458.2.1 233 (by decide)).trans (gA_sI)))).trans ?_; (first | rfl | exact eA_ix (by omega) | omega)), (by intro i i0 i1; refine (eA_ti (((hF458.2.1 233 (by decide)).trans (gA_sI)))).trans ?_; (first | rfl | exact eA_ix (by omega) | omega)), (by intro i i0 i1; refine Eq.trans ?_ (if_neg (show ¬ (((1 ≤ a1.toInt ∧ a1.toInt ≤ 9 ∧ 0 ≤ a4.toInt ∧ a4.toInt ≤ 99 ∧ 0 ≤ a5.toInt ∧ a5.toInt ≤ 9 ∧ 0 ≤ a6.toInt ∧ a6.toInt ≤ 9999) ∧ (0 ≤ a2.toInt ∧ a2.toInt < (eA g0 233 0).toInt ∧ 0 ≤ a3.toInt ∧ a3.toInt < (eA g0 233 0).toInt) ∧ (eA g0 233 1).toInt < 8) ∧ i = 46 + 6 * (eA g0 233 1).toInt + 0) from by omega)).symm; refine Eq.trans ?_ (if_neg (show ¬ (((1 ≤ a1.toInt ∧ a1.toInt ≤ 9 ∧ 0 ≤ a4.toInt ∧ a4.toInt ≤ 99 ∧ 0 ≤ a5.toInt ∧ a5.toInt ≤ 9 ∧ 0 ≤ a6.toInt ∧ a6.toInt ≤ 9999) ∧ (0 ≤ a2.toInt ∧ a2.toInt < (eA g0 233 0).toInt ∧ 0 ≤ a3.toInt ∧ a3.toInt < (eA g0 233 0).toInt) ∧ (eA g0 233 1).toInt < 8) ∧ i = 46 + 6 * (eA g0 233 1).toInt + 1) from by omega)).symm; refine Eq.trans ?_ (if_neg (show ¬ (((1 ≤ a1.toInt ∧ a1.toInt ≤ 9 ∧ 0 ≤ a4.toInt ∧ a4.toInt ≤ 99 ∧ 0 ≤ a5.toInt ∧ a5.toInt ≤ 9 ∧ 0 ≤ a6.toInt ∧ a6.toInt ≤ 9999) ∧ (0 ≤ a2.toInt ∧ a2.toInt < (eA g0 233 0).toInt ∧ 0 ≤ a3.toInt ∧ a3.toInt < (eA g0 233 0).toInt) ∧ (eA g0 233 1).toInt < 8) ∧ i = 46 + 6 * (eA g0 233 1).toInt + 2) from by omega)).symm; refine Eq.trans ?_ (if_neg (show ¬ (((1 ≤ a1.toInt ∧ a1.toInt ≤ 9 ∧ 0 ≤ a4.toInt ∧ a4.toInt ≤ 99 ∧ 0 ≤ a5.toInt ∧ a5.toInt ≤ 9 ∧ 0 ≤ a6.toInt ∧ a6.toInt ≤ 9999) ∧ (0 ≤ a2.toInt ∧ a2.toInt < (eA g0 233 0).toInt ∧ 0 ≤ a3.toInt ∧ a3.toInt < (eA g0 233 0).toInt) ∧ (eA g0 233 1).toInt < 8) ∧ i = 46 + 6 * (eA g0 233 1).toInt + 3) from by omega)).symm; refine Eq.trans ?_ (if_neg (show ¬ (((1 ≤ a1.toInt ∧ a1.toInt ≤ 9 ∧ 0 ≤ a4.toInt ∧ a4.toInt ≤ 99 ∧ 0 ≤ a5.toInt ∧ a5.toInt ≤ 9 ∧ 0 ≤ a6.toInt ∧ a6.toInt ≤ 9999) ∧ (0 ≤ a2.toInt ∧ a2.toInt < (eA g0 233 0).toInt ∧ 0 ≤ a3.toInt ∧ a3.toInt < (eA g0 233 0).toInt) ∧ (eA g0 233 1).toInt < 8) ∧ i = 46 + 6 * (eA g0 233 1).toInt + 4) from by omega)).symm; refine Eq.trans ?_ (if_neg (show ¬ (((1 ≤ a1.toInt ∧ a1.toInt ≤ 9 ∧ 0 ≤ a4.toInt ∧ a4.toInt ≤ 99 ∧ 0 ≤ a5.toInt ∧ a5.toInt ≤ 9 ∧ 0 ≤ a6.toInt ∧ a6.toInt ≤ 9999) ∧ (0 ≤ a2.toInt ∧ a2.toInt < (eA g0 233 0).toInt ∧ 0 ≤ a3.toInt ∧ a3.toInt < (eA g0 233 0).toInt) ∧ (eA g0 233 1).toInt < 8) ∧ i = 46 + 6 * (eA g0 233 1).toInt + 5) from by omega)).symm; refine (eA_ti (((hF458.2.1 233 (by decide)).trans (gA_sI)))).trans ?_; (first | rfl | exact eA_ix (by omega) | omega))⟩⟩
                · have c455_ : v430.toInt ≤ 9999 := en_j_gt_f c455
                  refine At.enter rfl ?_
                  refine r_iconst 1 rfl ?_
                  refine r_goto ?_
                  refine At.enter rfl ?_
                  refine q_iretz (by decide) ?_
                  refine At.enter rfl ?_
                  refine r_iff 48 rfl (by decide) ?_
                  refine At.enter rfl ?_
                  refine r_iconst 1 rfl ?_
                  refine r_goto ?_
                  refine At.enter rfl ?_
                  refine q_iretz (by decide) ?_
                  refine At.enter rfl ?_
                  refine r_ift (by decide) ?_
                  refine At.enter rfl ?_
                  refine r_aload_n rfl ?_
                  refine r_iload_n rfl ?_
                  refine q_inlV 29 rfl [.ref 231, .int a2] [] (Nat.le_of_ble_eq_true rfl) rfl ?_
                  refine Ev.mk rfl rfl ⟨Nat.le_of_ble_eq_true rfl, Or.inr (q_rc hI281.1 kx_231 rfl)⟩ ?_
                  show At _ none _ _ (0, [(0, .ref 231), (1, .int a2)], [], (_, _)) _
                  refine At.enter rfl ?_
                  refine r_iload_n rfl ?_
                  refine q_i2l (fun v479 hv479 => ?_)
                  refine r_lconst 0 rfl ?_
                  refine r_aload_n rfl ?_
                  refine q_getR (Sh.ref hI281.1 kx_231 rfl) ?_
                  refine r_iconst 0 rfl ?_
                  obtain ⟨v480, hv480⟩ : ∃ v, eA g0 233 0 = v := ⟨_, rfl⟩
                  have tv480 := congrArg Int32.toInt hv480
                  have wv480 := HI.t0 hI0
                  rw [hv480] at wv480
                  refine q_iald (Sh.arr hI281.1 ka_233) 0 rfl (by decide) v480 ((eA_c (gA_sI)).trans hv480) ?_
                  refine q_i2l (fun v481 hv481 => ?_)
                  refine r_lconst 1 rfl ?_
                  refine q_lsub (v481.toInt - 1) rfl (by omega) (fun v482 hv482 => ?_)
                  refine q_inlS 15 rfl [.long v479, .long 0, .long v482] [] (Nat.le_of_ble_eq_true rfl) rfl ?_
                  refine Ev.mk rfl rfl ⟨Nat.le_of_ble_eq_true rfl, Or.inl rfl⟩ ?_
                  show At _ none _ _ (0, [(0, .long v479), (2, .long 0), (4, .long v482)], [], (_, _)) _
                  refine At.enter rfl ?_
                  refine r_lload_n rfl ?_
                  refine r_lload_n rfl ?_
                  refine r_lcmp _ rfl ?_
                  refine r_ifs 6 rfl (fun c483 => ?_) (fun c483 => ?_)
                  · have c483_ : v479.toInt < 0 := en_j_lt_t c483
                    refine At.enter rfl ?_
                    refine r_iconst 0 rfl ?_
                    refine Ar.fall 18 rfl ?_
                    refine At.enter rfl ?_
                    refine q_iretz (by decide) ?_
                    refine At.enter rfl ?_
                    refine q_iretz (by decide) ?_
                    refine At.enter rfl ?_
                    refine r_ift (by decide) ?_
                    refine At.enter rfl ?_
                    refine r_aload_n rfl ?_
                    refine r_bipush (-2) rfl ?_
                    refine r_callV 46 rfl [.ref 231, .int (-2)] [] (Nat.le_of_ble_eq_true rfl) rfl (T_X11_tell_231 _ hI281 (-2) (by decide)) ?_
                    rintro _ _ ⟨g484, rfl, hI485, hF486, v487, rfl, hr488⟩
                    refine At.sti ?_
                    have hF489 := Fr.tr hF282 hF486 rfl rfl
                    have zv490 : ((-2) : Int32).toInt = (-2) := rfl
                    refine At.enter rfl ?_
                    refine r_ireti ?_
                    obtain ⟨v491, hv491⟩ : ∃ v, eA g0 233 1 = v := ⟨_, rfl⟩
                    have tv491 := congrArg Int32.toInt hv491
                    have wv491 := HI.t1 hI0
                    rw [hv491] at wv491
                    have tv491 := congrArg Int32.toInt hv491
                    have x492 := HI.eqA hI485 (p := 233) (j := 1) ((((eA_c (hF486.2.1 233 (by decide))).trans (eA_c gA_sI)).trans hv491))
                    have x493 := HI.eqA hI485 (p := 233) (j := 0) ((((eA_c (hF486.2.1 233 (by decide))).trans (eA_c gA_sI)).trans hv480))
                    obtain ⟨v494, hv494⟩ : ∃ v, eA g0 233 4 = v := ⟨_, rfl⟩
                    have wv494 := HI.t4 hI0
                    rw [hv494] at wv494
                    have tv494 := congrArg Int32.toInt hv494
                    have x495 := HI.eqA hI485 (p := 233) (j := 4) ((((eA_c (hF486.2.1 233 (by decide))).trans (eA_c gA_sI)).trans hv494))
                    obtain ⟨v496, hv496⟩ : ∃ v, eA g0 233 5 = v := ⟨_, rfl⟩
                    have wv496 := HI.t5 hI0
                    rw [hv496] at wv496
                    have tv496 := congrArg Int32.toInt hv496
                    have x497 := HI.eqA hI485 (p := 233) (j := 5) ((((eA_c (hF486.2.1 233 (by decide))).trans (eA_c gA_sI)).trans hv496))
                    obtain ⟨v498, hv498⟩ : ∃ v, eA g0 233 6 = v := ⟨_, rfl⟩
                    have wv498 := HI.t6 hI0
                    rw [hv498] at wv498
                    have tv498 := congrArg Int32.toInt hv498
                    have x499 := HI.eqA hI485 (p := 233) (j := 6) ((((eA_c (hF486.2.1 233 (by decide))).trans (eA_c gA_sI)).trans hv498))
                    have x500 := HI.eqA hI0 (p := 233) (j := 1) (hv491)
                    have x501 := HI.eqA hI0 (p := 233) (j := 0) (hv480)
                    have x502 := HI.eqA hI0 (p := 233) (j := 0) (hv480)
                    have x503 := HI.eqA hI0 (p := 233) (j := 4) (hv494)
                    have x504 := HI.eqA hI0 (p := 233) (j := 5) (hv496)
                    have x505 := HI.eqA hI0 (p := 233) (j := 6) (hv498)
                    exact ⟨_, rfl, hI485, hF489, _, rfl, by omega, ⟨⟨by omega, by omega, by omega, by omega, by omega, by omega, by omega, by omega⟩, (by intro i i0 i1; refine (eA_ti (((hF486.2.1 233 (by decide)).trans (gA_sI)))).trans ?_; (first | rfl | exact eA_ix (by omega) | omega)), (by intro i i0 i1; refine (eA_ti (((hF486.2.1 233 (by decide)).trans (gA_sI)))).trans ?_; (first | rfl | exact eA_ix (by omega) | omega)), (by intro i i0 i1; refine Eq.trans ?_ (if_neg (show ¬ (((1 ≤ a1.toInt ∧ a1.toInt ≤ 9 ∧ 0 ≤ a4.toInt ∧ a4.toInt ≤ 99 ∧ 0 ≤ a5.toInt ∧ a5.toInt ≤ 9 ∧ 0 ≤ a6.toInt ∧ a6.toInt ≤ 9999) ∧ (0 ≤ a2.toInt ∧ a2.toInt < (eA g0 233 0).toInt ∧ 0 ≤ a3.toInt ∧ a3.toInt < (eA g0 233 0).toInt) ∧ (eA g0 233 1).toInt < 8) ∧ i = 46 + 6 * (eA g0 233 1).toInt + 0) from by omega)).symm; refine Eq.trans ?_ (if_neg (show ¬ (((1 ≤ a1.toInt ∧ a1.toInt ≤ 9 ∧ 0 ≤ a4.toInt ∧ a4.toInt ≤ 99 ∧ 0 ≤ a5.toInt ∧ a5.toInt ≤ 9 ∧ 0 ≤ a6.toInt ∧ a6.toInt ≤ 9999) ∧ (0 ≤ a2.toInt ∧ a2.toInt < (eA g0 233 0).toInt ∧ 0 ≤ a3.toInt ∧ a3.toInt < (eA g0 233 0).toInt) ∧ (eA g0 233 1).toInt < 8) ∧ i = 46 + 6 * (eA g0 233 1).toInt + 1) from by omega)).symm; refine Eq.trans ?_ (if_neg (show ¬ (((1 ≤ a1.toInt ∧ a1.toInt ≤ 9 ∧ 0 ≤ a4.toInt ∧ a4.toInt ≤ 99 ∧ 0 ≤ a5.toInt ∧ a5.toInt ≤ 9 ∧ 0 ≤ a6.toInt ∧ a6.toInt ≤ 9999) ∧ (0 ≤ a2.toInt ∧ a2.toInt < (eA g0 233 0).toInt ∧ 0 ≤ a3.toInt ∧ a3.toInt < (eA g0 233 0).toInt) ∧ (eA g0 233 1).toInt < 8) ∧ i = 46 + 6 * (eA g0 233 1).toInt + 2) from by omega)).symm; refine Eq.trans ?_ (if_neg (show ¬ (((1 ≤ a1.toInt ∧ a1.toInt ≤ 9 ∧ 0 ≤ a4.toInt ∧ a4.toInt ≤ 99 ∧ 0 ≤ a5.toInt ∧ a5.toInt ≤ 9 ∧ 0 ≤ a6.toInt ∧ a6.toInt ≤ 9999) ∧ (0 ≤ a2.toInt ∧ a2.toInt < (eA g0 233 0).toInt ∧ 0 ≤ a3.toInt ∧ a3.toInt < (eA g0 233 0).toInt) ∧ (eA g0 233 1).toInt < 8) ∧ i = 46 + 6 * (eA g0 233 1).toInt + 3) from by omega)).symm; refine Eq.trans ?_ (if_neg (show ¬ (((1 ≤ a1.toInt ∧ a1.toInt ≤ 9 ∧ 0 ≤ a4.toInt ∧ a4.toInt ≤ 99 ∧ 0 ≤ a5.toInt ∧ a5.toInt ≤ 9 ∧ 0 ≤ a6.toInt ∧ a6.toInt ≤ 9999) ∧ (0 ≤ a2.toInt ∧ a2.toInt < (eA g0 233 0).toInt ∧ 0 ≤ a3.toInt ∧ a3.toInt < (eA g0 233 0).toInt) ∧ (eA g0 233 1).toInt < 8) ∧ i = 46 + 6 * (eA g0 233 1).toInt + 4) from by omega)).symm; refine Eq.trans ?_ (if_neg (show ¬ (((1 ≤ a1.toInt ∧ a1.toInt ≤ 9 ∧ 0 ≤ a4.toInt ∧ a4.toInt ≤ 99 ∧ 0 ≤ a5.toInt ∧ a5.toInt ≤ 9 ∧ 0 ≤ a6.toInt ∧ a6.toInt ≤ 9999) ∧ (0 ≤ a2.toInt ∧ a2.toInt < (eA g0 233 0).toInt ∧ 0 ≤ a3.toInt ∧ a3.toInt < (eA g0 233 0).toInt) ∧ (eA g0 233 1).toInt < 8) ∧ i = 46 + 6 * (eA g0 233 1).toInt + 5) from by omega)).symm; refine (eA_ti (((hF486.2.1 233 (by decide)).trans (gA_sI)))).trans ?_; (first | rfl | exact eA_ix (by omega) | omega))⟩⟩
                  · have c483_ : v479.toInt ≥ 0 := en_j_lt_f c483
                    refine At.enter rfl ?_
                    refine r_lload_n rfl ?_
                    refine r_lload rfl ?_
                    refine r_lcmp _ rfl ?_
                    refine r_ifs 13 rfl (fun c506 => ?_) (fun c506 => ?_)
                    · have c506_ : v479.toInt > v482.toInt := en_j_gt_t c506
                      refine At.enter rfl ?_
                      refine r_iconst 0 rfl ?_
                      refine Ar.fall 18 rfl ?_
                      refine At.enter rfl ?_
                      refine q_iretz (by decide) ?_
                      refine At.enter rfl ?_
                      refine q_iretz (by decide) ?_
                      refine At.enter rfl ?_
                      refine r_ift (by decide) ?_
                      refine At.enter rfl ?_
                      refine r_aload_n rfl ?_
                      refine r_bipush (-2) rfl ?_
                      refine r_callV 46 rfl [.ref 231, .int (-2)] [] (Nat.le_of_ble_eq_true rfl) rfl (T_X11_tell_231 _ hI281 (-2) (by decide)) ?_
                      rintro _ _ ⟨g507, rfl, hI508, hF509, v510, rfl, hr511⟩
                      refine At.sti ?_
                      have hF512 := Fr.tr hF282 hF509 rfl rfl
                      have zv513 : ((-2) : Int32).toInt = (-2) := rfl
                      refine At.enter rfl ?_
                      refine r_ireti ?_
                      obtain ⟨v514, hv514⟩ : ∃ v, eA g0 233 1 = v := ⟨_, rfl⟩
                      have tv514 := congrArg Int32.toInt hv514
                      have wv514 := HI.t1 hI0
                      rw [hv514] at wv514
                      have tv514 := congrArg Int32.toInt hv514
                      have x515 := HI.eqA hI508 (p := 233) (j := 1) ((((eA_c (hF509.2.1 233 (by decide))).trans (eA_c gA_sI)).trans hv514))
                      have x516 := HI.eqA hI508 (p := 233) (j := 0) ((((eA_c (hF509.2.1 233 (by decide))).trans (eA_c gA_sI)).trans hv480))
                      obtain ⟨v517, hv517⟩ : ∃ v, eA g0 233 4 = v := ⟨_, rfl⟩
                      have wv517 := HI.t4 hI0
                      rw [hv517] at wv517
                      have tv517 := congrArg Int32.toInt hv517
                      have x518 := HI.eqA hI508 (p := 233) (j := 4) ((((eA_c (hF509.2.1 233 (by decide))).trans (eA_c gA_sI)).trans hv517))
                      obtain ⟨v519, hv519⟩ : ∃ v, eA g0 233 5 = v := ⟨_, rfl⟩
                      have wv519 := HI.t5 hI0
                      rw [hv519] at wv519
                      have tv519 := congrArg Int32.toInt hv519
                      have x520 := HI.eqA hI508 (p := 233) (j := 5) ((((eA_c (hF509.2.1 233 (by decide))).trans (eA_c gA_sI)).trans hv519))
                      obtain ⟨v521, hv521⟩ : ∃ v, eA g0 233 6 = v := ⟨_, rfl⟩
                      have wv521 := HI.t6 hI0
                      rw [hv521] at wv521
                      have tv521 := congrArg Int32.toInt hv521
                      have x522 := HI.eqA hI508 (p := 233) (j := 6) ((((eA_c (hF509.2.1 233 (by decide))).trans (eA_c gA_sI)).trans hv521))
                      have x523 := HI.eqA hI0 (p := 233) (j := 1) (hv514)
                      have x524 := HI.eqA hI0 (p := 233) (j := 0) (hv480)
                      have x525 := HI.eqA hI0 (p := 233) (j := 0) (hv480)
                      have x526 := HI.eqA hI0 (p := 233) (j := 4) (hv517)
                      have x527 := HI.eqA hI0 (p := 233) (j := 5) (hv519)
                      have x528 := HI.eqA hI0 (p := 233) (j := 6) (hv521)
                      exact ⟨_, rfl, hI508, hF512, _, rfl, by omega, ⟨⟨by omega, by omega, by omega, by omega, by omega, by omega, by omega, by omega⟩, (by intro i i0 i1; refine (eA_ti (((hF509.2.1 233 (by decide)).trans (gA_sI)))).trans ?_; (first | rfl | exact eA_ix (by omega) | omega)), (by intro i i0 i1; refine (eA_ti (((hF509.2.1 233 (by decide)).trans (gA_sI)))).trans ?_; (first | rfl | exact eA_ix (by omega) | omega)), (by intro i i0 i1; refine Eq.trans ?_ (if_neg (show ¬ (((1 ≤ a1.toInt ∧ a1.toInt ≤ 9 ∧ 0 ≤ a4.toInt ∧ a4.toInt ≤ 99 ∧ 0 ≤ a5.toInt ∧ a5.toInt ≤ 9 ∧ 0 ≤ a6.toInt ∧ a6.toInt ≤ 9999) ∧ (0 ≤ a2.toInt ∧ a2.toInt < (eA g0 233 0).toInt ∧ 0 ≤ a3.toInt ∧ a3.toInt < (eA g0 233 0).toInt) ∧ (eA g0 233 1).toInt < 8) ∧ i = 46 + 6 * (eA g0 233 1).toInt + 0) from by omega)).symm; refine Eq.trans ?_ (if_neg (show ¬ (((1 ≤ a1.toInt ∧ a1.toInt ≤ 9 ∧ 0 ≤ a4.toInt ∧ a4.toInt ≤ 99 ∧ 0 ≤ a5.toInt ∧ a5.toInt ≤ 9 ∧ 0 ≤ a6.toInt ∧ a6.toInt ≤ 9999) ∧ (0 ≤ a2.toInt ∧ a2.toInt < (eA g0 233 0).toInt ∧ 0 ≤ a3.toInt ∧ a3.toInt < (eA g0 233 0).toInt) ∧ (eA g0 233 1).toInt < 8) ∧ i = 46 + 6 * (eA g0 233 1).toInt + 1) from by omega)).symm; refine Eq.trans ?_ (if_neg (show ¬ (((1 ≤ a1.toInt ∧ a1.toInt ≤ 9 ∧ 0 ≤ a4.toInt ∧ a4.toInt ≤ 99 ∧ 0 ≤ a5.toInt ∧ a5.toInt ≤ 9 ∧ 0 ≤ a6.toInt ∧ a6.toInt ≤ 9999) ∧ (0 ≤ a2.toInt ∧ a2.toInt < (eA g0 233 0).toInt ∧ 0 ≤ a3.toInt ∧ a3.toInt < (eA g0 233 0).toInt) ∧ (eA g0 233 1).toInt < 8) ∧ i = 46 + 6 * (eA g0 233 1).toInt + 2) from by omega)).symm; refine Eq.trans ?_ (if_neg (show ¬ (((1 ≤ a1.toInt ∧ a1.toInt ≤ 9 ∧ 0 ≤ a4.toInt ∧ a4.toInt ≤ 99 ∧ 0 ≤ a5.toInt ∧ a5.toInt ≤ 9 ∧ 0 ≤ a6.toInt ∧ a6.toInt ≤ 9999) ∧ (0 ≤ a2.toInt ∧ a2.toInt < (eA g0 233 0).toInt ∧ 0 ≤ a3.toInt ∧ a3.toInt < (eA g0 233 0).toInt) ∧ (eA g0 233 1).toInt < 8) ∧ i = 46 + 6 * (eA g0 233 1).toInt + 3) from by omega)).symm; refine Eq.trans ?_ (if_neg (show ¬ (((1 ≤ a1.toInt ∧ a1.toInt ≤ 9 ∧ 0 ≤ a4.toInt ∧ a4.toInt ≤ 99 ∧ 0 ≤ a5.toInt ∧ a5.toInt ≤ 9 ∧ 0 ≤ a6.toInt ∧ a6.toInt ≤ 9999) ∧ (0 ≤ a2.toInt ∧ a2.toInt < (eA g0 233 0).toInt ∧ 0 ≤ a3.toInt ∧ a3.toInt < (eA g0 233 0).toInt) ∧ (eA g0 233 1).toInt < 8) ∧ i = 46 + 6 * (eA g0 233 1).toInt + 4) from by omega)).symm; refine Eq.trans ?_ (if_neg (show ¬ (((1 ≤ a1.toInt ∧ a1.toInt ≤ 9 ∧ 0 ≤ a4.toInt ∧ a4.toInt ≤ 99 ∧ 0 ≤ a5.toInt ∧ a5.toInt ≤ 9 ∧ 0 ≤ a6.toInt ∧ a6.toInt ≤ 9999) ∧ (0 ≤ a2.toInt ∧ a2.toInt < (eA g0 233 0).toInt ∧ 0 ≤ a3.toInt ∧ a3.toInt < (eA g0 233 0).toInt) ∧ (eA g0 233 1).toInt < 8) ∧ i = 46 + 6 * (eA g0 233 1).toInt + 5) from by omega)).symm; refine (eA_ti (((hF509.2.1 233 (by decide)).trans (gA_sI)))).trans ?_; (first | rfl | exact eA_ix (by omega) | omega))⟩⟩
                    · have c506_ : v479.toInt ≤ v482.toInt := en_j_gt_f c506
                      refine At.enter rfl ?_
                      refine r_iconst 1 rfl ?_
                      refine r_goto ?_
                      refine At.enter rfl ?_
                      refine q_iretz (by decide) ?_
                      refine At.enter rfl ?_
                      refine q_iretz (by decide) ?_
                      refine At.enter rfl ?_
                      refine r_iff 32 rfl (by decide) ?_
                      refine At.enter rfl ?_
                      refine r_aload_n rfl ?_
                      refine r_iload_n rfl ?_
                      refine q_inlV 37 rfl [.ref 231, .int a3] [] (Nat.le_of_ble_eq_true rfl) rfl ?_
                      refine Ev.mk rfl rfl ⟨Nat.le_of_ble_eq_true rfl, Or.inr (q_rc hI281.1 kx_231 rfl)⟩ ?_
                      show At _ none _ _ (0, [(0, .ref 231), (1, .int a3)], [], (_, _)) _
                      refine At.enter rfl ?_
                      refine r_iload_n rfl ?_
                      refine q_i2l (fun v529 hv529 => ?_)
                      refine r_lconst 0 rfl ?_
                      refine r_aload_n rfl ?_
                      refine q_getR (Sh.ref hI281.1 kx_231 rfl) ?_
                      refine r_iconst 0 rfl ?_
                      refine q_iald (Sh.arr hI281.1 ka_233) 0 rfl (by decide) v480 ((eA_c (gA_sI)).trans hv480) ?_
                      refine q_i2l (fun v530 hv530 => ?_)
                      refine r_lconst 1 rfl ?_
                      refine q_lsub (v530.toInt - 1) rfl (by omega) (fun v531 hv531 => ?_)
                      refine q_inlS 15 rfl [.long v529, .long 0, .long v531] [] (Nat.le_of_ble_eq_true rfl) rfl ?_
                      refine Ev.mk rfl rfl ⟨Nat.le_of_ble_eq_true rfl, Or.inl rfl⟩ ?_
                      show At _ none _ _ (0, [(0, .long v529), (2, .long 0), (4, .long v531)], [], (_, _)) _
                      refine At.enter rfl ?_
                      refine r_lload_n rfl ?_
                      refine r_lload_n rfl ?_
                      refine r_lcmp _ rfl ?_
                      refine r_ifs 6 rfl (fun c532 => ?_) (fun c532 => ?_)
                      · have c532_ : v529.toInt < 0 := en_j_lt_t c532
                        refine At.enter rfl ?_
                        refine r_iconst 0 rfl ?_
                        refine Ar.fall 18 rfl ?_
                        refine At.enter rfl ?_
                        refine q_iretz (by decide) ?_
                        refine At.enter rfl ?_
                        refine q_iretz (by decide) ?_
                        refine At.enter rfl ?_
                        refine r_iff 40 rfl (by decide) ?_
                        refine At.enter rfl ?_
                        refine r_aload_n rfl ?_
                        refine r_bipush (-2) rfl ?_
                        refine r_callV 46 rfl [.ref 231, .int (-2)] [] (Nat.le_of_ble_eq_true rfl) rfl (T_X11_tell_231 _ hI281 (-2) (by decide)) ?_
                        rintro _ _ ⟨g533, rfl, hI534, hF535, v536, rfl, hr537⟩
                        refine At.sti ?_
                        have hF538 := Fr.tr hF282 hF535 rfl rfl
                        have zv539 : ((-2) : Int32).toInt = (-2) := rfl
                        refine At.enter rfl ?_
                        refine r_ireti ?_
                        obtain ⟨v540, hv540⟩ : ∃ v, eA g0 233 1 = v := ⟨_, rfl⟩
                        have tv540 := congrArg Int32.toInt hv540
                        have wv540 := HI.t1 hI0
                        rw [hv540] at wv540
                        have tv540 := congrArg Int32.toInt hv540
                        have x541 := HI.eqA hI534 (p := 233) (j := 1) ((((eA_c (hF535.2.1 233 (by decide))).trans (eA_c gA_sI)).trans hv540))
                        have x542 := HI.eqA hI534 (p := 233) (j := 0) ((((eA_c (hF535.2.1 233 (by decide))).trans (eA_c gA_sI)).trans hv480))
                        obtain ⟨v543, hv543⟩ : ∃ v, eA g0 233 4 = v := ⟨_, rfl⟩
                        have wv543 := HI.t4 hI0
                        rw [hv543] at wv543
                        have tv543 := congrArg Int32.toInt hv543
                        have x544 := HI.eqA hI534 (p := 233) (j := 4) ((((eA_c (hF535.2.1 233 (by decide))).trans (eA_c gA_sI)).trans hv543))
                        obtain ⟨v545, hv545⟩ : ∃ v, eA g0 233 5 = v := ⟨_, rfl⟩
                        have wv545 := HI.t5 hI0
                        rw [hv545] at wv545
                        have tv545 := congrArg Int32.toInt hv545
                        have x546 := HI.eqA hI534 (p := 233) (j := 5) ((((eA_c (hF535.2.1 233 (by decide))).trans (eA_c gA_sI)).trans hv545))
                        obtain ⟨v547, hv547⟩ : ∃ v, eA g0 233 6 = v := ⟨_, rfl⟩
                        have wv547 := HI.t6 hI0
                        rw [hv547] at wv547
                        have tv547 := congrArg Int32.toInt hv547
                        have x548 := HI.eqA hI534 (p := 233) (j := 6) ((((eA_c (hF535.2.1 233 (by decide))).trans (eA_c gA_sI)).trans hv547))
                        have x549 := HI.eqA hI0 (p := 233) (j := 1) (hv540)
                        have x550 := HI.eqA hI0 (p := 233) (j := 0) (hv480)
                        have x551 := HI.eqA hI0 (p := 233) (j := 0) (hv480)
                        have x552 := HI.eqA hI0 (p := 233) (j := 4) (hv543)
                        have x553 := HI.eqA hI0 (p := 233) (j := 5) (hv545)
                        have x554 := HI.eqA hI0 (p := 233) (j := 6) (hv547)
                        exact ⟨_, rfl, hI534, hF538, _, rfl, by omega, ⟨⟨by omega, by omega, by omega, by omega, by omega, by omega, by omega, by omega⟩, (by intro i i0 i1; refine (eA_ti (((hF535.2.1 233 (by decide)).trans (gA_sI)))).trans ?_; (first | rfl | exact eA_ix (by omega) | omega)), (by intro i i0 i1; refine (eA_ti (((hF535.2.1 233 (by decide)).trans (gA_sI)))).trans ?_; (first | rfl | exact eA_ix (by omega) | omega)), (by intro i i0 i1; refine Eq.trans ?_ (if_neg (show ¬ (((1 ≤ a1.toInt ∧ a1.toInt ≤ 9 ∧ 0 ≤ a4.toInt ∧ a4.toInt ≤ 99 ∧ 0 ≤ a5.toInt ∧ a5.toInt ≤ 9 ∧ 0 ≤ a6.toInt ∧ a6.toInt ≤ 9999) ∧ (0 ≤ a2.toInt ∧ a2.toInt < (eA g0 233 0).toInt ∧ 0 ≤ a3.toInt ∧ a3.toInt < (eA g0 233 0).toInt) ∧ (eA g0 233 1).toInt < 8) ∧ i = 46 + 6 * (eA g0 233 1).toInt + 0) from by omega)).symm; refine Eq.trans ?_ (if_neg (show ¬ (((1 ≤ a1.toInt ∧ a1.toInt ≤ 9 ∧ 0 ≤ a4.toInt ∧ a4.toInt ≤ 99 ∧ 0 ≤ a5.toInt ∧ a5.toInt ≤ 9 ∧ 0 ≤ a6.toInt ∧ a6.toInt ≤ 9999) ∧ (0 ≤ a2.toInt ∧ a2.toInt < (eA g0 233 0).toInt ∧ 0 ≤ a3.toInt ∧ a3.toInt < (eA g0 233 0).toInt) ∧ (eA g0 233 1).toInt < 8) ∧ i = 46 + 6 * (eA g0 233 1).toInt + 1) from by omega)).symm; refine Eq.trans ?_ (if_neg (show ¬ (((1 ≤ a1.toInt ∧ a1.toInt ≤ 9 ∧ 0 ≤ a4.toInt ∧ a4.toInt ≤ 99 ∧ 0 ≤ a5.toInt ∧ a5.toInt ≤ 9 ∧ 0 ≤ a6.toInt ∧ a6.toInt ≤ 9999) ∧ (0 ≤ a2.toInt ∧ a2.toInt < (eA g0 233 0).toInt ∧ 0 ≤ a3.toInt ∧ a3.toInt < (eA g0 233 0).toInt) ∧ (eA g0 233 1).toInt < 8) ∧ i = 46 + 6 * (eA g0 233 1).toInt + 2) from by omega)).symm; refine Eq.trans ?_ (if_neg (show ¬ (((1 ≤ a1.toInt ∧ a1.toInt ≤ 9 ∧ 0 ≤ a4.toInt ∧ a4.toInt ≤ 99 ∧ 0 ≤ a5.toInt ∧ a5.toInt ≤ 9 ∧ 0 ≤ a6.toInt ∧ a6.toInt ≤ 9999) ∧ (0 ≤ a2.toInt ∧ a2.toInt < (eA g0 233 0).toInt ∧ 0 ≤ a3.toInt ∧ a3.toInt < (eA g0 233 0).toInt) ∧ (eA g0 233 1).toInt < 8) ∧ i = 46 + 6 * (eA g0 233 1).toInt + 3) from by omega)).symm; refine Eq.trans ?_ (if_neg (show ¬ (((1 ≤ a1.toInt ∧ a1.toInt ≤ 9 ∧ 0 ≤ a4.toInt ∧ a4.toInt ≤ 99 ∧ 0 ≤ a5.toInt ∧ a5.toInt ≤ 9 ∧ 0 ≤ a6.toInt ∧ a6.toInt ≤ 9999) ∧ (0 ≤ a2.toInt ∧ a2.toInt < (eA g0 233 0).toInt ∧ 0 ≤ a3.toInt ∧ a3.toInt < (eA g0 233 0).toInt) ∧ (eA g0 233 1).toInt < 8) ∧ i = 46 + 6 * (eA g0 233 1).toInt + 4) from by omega)).symm; refine Eq.trans ?_ (if_neg (show ¬ (((1 ≤ a1.toInt ∧ a1.toInt ≤ 9 ∧ 0 ≤ a4.toInt ∧ a4.toInt ≤ 99 ∧ 0 ≤ a5.toInt ∧ a5.toInt ≤ 9 ∧ 0 ≤ a6.toInt ∧ a6.toInt ≤ 9999) ∧ (0 ≤ a2.toInt ∧ a2.toInt < (eA g0 233 0).toInt ∧ 0 ≤ a3.toInt ∧ a3.toInt < (eA g0 233 0).toInt) ∧ (eA g0 233 1).toInt < 8) ∧ i = 46 + 6 * (eA g0 233 1).toInt + 5) from by omega)).symm; refine (eA_ti (((hF535.2.1 233 (by decide)).trans (gA_sI)))).trans ?_; (first | rfl | exact eA_ix (by omega) | omega))⟩⟩
                      · have c532_ : v529.toInt ≥ 0 := en_j_lt_f c532
                        refine At.enter rfl ?_
                        refine r_lload_n rfl ?_
                        refine r_lload rfl ?_
                        refine r_lcmp _ rfl ?_
                        refine r_ifs 13 rfl (fun c555 => ?_) (fun c555 => ?_)
                        · have c555_ : v529.toInt > v531.toInt := en_j_gt_t c555
                          refine At.enter rfl ?_
                          refine r_iconst 0 rfl ?_
                          refine Ar.fall 18 rfl ?_
                          refine At.enter rfl ?_
                          refine q_iretz (by decide) ?_
                          refine At.enter rfl ?_
                          refine q_iretz (by decide) ?_
                          refine At.enter rfl ?_
                          refine r_iff 40 rfl (by decide) ?_
                          refine At.enter rfl ?_
                          refine r_aload_n rfl ?_
                          refine r_bipush (-2) rfl ?_
                          refine r_callV 46 rfl [.ref 231, .int (-2)] [] (Nat.le_of_ble_eq_true rfl) rfl (T_X11_tell_231 _ hI281 (-2) (by decide)) ?_
                          rintro _ _ ⟨g556, rfl, hI557, hF558, v559, rfl, hr560⟩
                          refine At.sti ?_
                          have hF561 := Fr.tr hF282 hF558 rfl rfl
                          have zv562 : ((-2) : Int32).toInt = (-2) := rfl
                          refine At.enter rfl ?_
                          refine r_ireti ?_
                          obtain ⟨v563, hv563⟩ : ∃ v, eA g0 233 1 = v := ⟨_, rfl⟩
                          have tv563 := congrArg Int32.toInt hv563
                          have wv563 := HI.t1 hI0
                          rw [hv563] at wv563
                          have tv563 := congrArg Int32.toInt hv563
                          have x564 := HI.eqA hI557 (p := 233) (j := 1) ((((eA_c (hF558.2.1 233 (by decide))).trans (eA_c gA_sI)).trans hv563))
                          have x565 := HI.eqA hI557 (p := 233) (j := 0) ((((eA_c (hF558.2.1 233 (by decide))).trans (eA_c gA_sI)).trans hv480))
                          obtain ⟨v566, hv566⟩ : ∃ v, eA g0 233 4 = v := ⟨_, rfl⟩
                          have wv566 := HI.t4 hI0
                          rw [hv566] at wv566
                          have tv566 := congrArg Int32.toInt hv566
                          have x567 := HI.eqA hI557 (p := 233) (j := 4) ((((eA_c (hF558.2.1 233 (by decide))).trans (eA_c gA_sI)).trans hv566))
                          obtain ⟨v568, hv568⟩ : ∃ v, eA g0 233 5 = v := ⟨_, rfl⟩
                          have wv568 := HI.t5 hI0
                          rw [hv568] at wv568
                          have tv568 := congrArg Int32.toInt hv568
                          have x569 := HI.eqA hI557 (p := 233) (j := 5) ((((eA_c (hF558.2.1 233 (by decide))).trans (eA_c gA_sI)).trans hv568))
                          obtain ⟨v570, hv570⟩ : ∃ v, eA g0 233 6 = v := ⟨_, rfl⟩
                          have wv570 := HI.t6 hI0
                          rw [hv570] at wv570
                          have tv570 := congrArg Int32.toInt hv570
                          have x571 := HI.eqA hI557 (p := 233) (j := 6) ((((eA_c (hF558.2.1 233 (by decide))).trans (eA_c gA_sI)).trans hv570))
                          have x572 := HI.eqA hI0 (p := 233) (j := 1) (hv563)
                          have x573 := HI.eqA hI0 (p := 233) (j := 0) (hv480)
                          have x574 := HI.eqA hI0 (p := 233) (j := 0) (hv480)
                          have x575 := HI.eqA hI0 (p := 233) (j := 4) (hv566)
                          have x576 := HI.eqA hI0 (p := 233) (j := 5) (hv568)
                          have x577 := HI.eqA hI0 (p := 233) (j := 6) (hv570)
                          exact ⟨_, rfl, hI557, hF561, _, rfl, by omega, ⟨⟨by omega, by omega, by omega, by omega, by omega, by omega, by omega, by omega⟩, (by intro i i0 i1; refine (eA_ti (((hF558.2.1 233 (by decide)).trans (gA_sI)))).trans ?_; (first | rfl | exact eA_ix (by omega) | omega)), (by intro i i0 i1; refine (eA_ti (((hF558.2.1 233 (by decide)).trans (gA_sI)))).trans ?_; (first | rfl | exact eA_ix (by omega) | omega)), (by intro i i0 i1; refine Eq.trans ?_ (if_neg (show ¬ (((1 ≤ a1.toInt ∧ a1.toInt ≤ 9 ∧ 0 ≤ a4.toInt ∧ a4.toInt ≤ 99 ∧ 0 ≤ a5.toInt ∧ a5.toInt ≤ 9 ∧ 0 ≤ a6.toInt ∧ a6.toInt ≤ 9999) ∧ (0 ≤ a2.toInt ∧ a2.toInt < (eA g0 233 0).toInt ∧ 0 ≤ a3.toInt ∧ a3.toInt < (eA g0 233 0).toInt) ∧ (eA g0 233 1).toInt < 8) ∧ i = 46 + 6 * (eA g0 233 1).toInt + 0) from by omega)).symm; refine Eq.trans ?_ (if_neg (show ¬ (((1 ≤ a1.toInt ∧ a1.toInt ≤ 9 ∧ 0 ≤ a4.toInt ∧ a4.toInt ≤ 99 ∧ 0 ≤ a5.toInt ∧ a5.toInt ≤ 9 ∧ 0 ≤ a6.toInt ∧ a6.toInt ≤ 9999) ∧ (0 ≤ a2.toInt ∧ a2.toInt < (eA g0 233 0).toInt ∧ 0 ≤ a3.toInt ∧ a3.toInt < (eA g0 233 0).toInt) ∧ (eA g0 233 1).toInt < 8) ∧ i = 46 + 6 * (eA g0 233 1).toInt + 1) from by omega)).symm; refine Eq.trans ?_ (if_neg (show ¬ (((1 ≤ a1.toInt ∧ a1.toInt ≤ 9 ∧ 0 ≤ a4.toInt ∧ a4.toInt ≤ 99 ∧ 0 ≤ a5.toInt ∧ a5.toInt ≤ 9 ∧ 0 ≤ a6.toInt ∧ a6.toInt ≤ 9999) ∧ (0 ≤ a2.toInt ∧ a2.toInt < (eA g0 233 0).toInt ∧ 0 ≤ a3.toInt ∧ a3.toInt < (eA g0 233 0).toInt) ∧ (eA g0 233 1).toInt < 8) ∧ i = 46 + 6 * (eA g0 233 1).toInt + 2) from by omega)).symm; refine Eq.trans ?_ (if_neg (show ¬ (((1 ≤ a1.toInt ∧ a1.toInt ≤ 9 ∧ 0 ≤ a4.toInt ∧ a4.toInt ≤ 99 ∧ 0 ≤ a5.toInt ∧ a5.toInt ≤ 9 ∧ 0 ≤ a6.toInt ∧ a6.toInt ≤ 9999) ∧ (0 ≤ a2.toInt ∧ a2.toInt < (eA g0 233 0).toInt ∧ 0 ≤ a3.toInt ∧ a3.toInt < (eA g0 233 0).toInt) ∧ (eA g0 233 1).toInt < 8) ∧ i = 46 + 6 * (eA g0 233 1).toInt + 3) from by omega)).symm; refine Eq.trans ?_ (if_neg (show ¬ (((1 ≤ a1.toInt ∧ a1.toInt ≤ 9 ∧ 0 ≤ a4.toInt ∧ a4.toInt ≤ 99 ∧ 0 ≤ a5.toInt ∧ a5.toInt ≤ 9 ∧ 0 ≤ a6.toInt ∧ a6.toInt ≤ 9999) ∧ (0 ≤ a2.toInt ∧ a2.toInt < (eA g0 233 0).toInt ∧ 0 ≤ a3.toInt ∧ a3.toInt < (eA g0 233 0).toInt) ∧ (eA g0 233 1).toInt < 8) ∧ i = 46 + 6 * (eA g0 233 1).toInt + 4) from by omega)).symm; refine Eq.trans ?_ (if_neg (show ¬ (((1 ≤ a1.toInt ∧ a1.toInt ≤ 9 ∧ 0 ≤ a4.toInt ∧ a4.toInt ≤ 99 ∧ 0 ≤ a5.toInt ∧ a5.toInt ≤ 9 ∧ 0 ≤ a6.toInt ∧ a6.toInt ≤ 9999) ∧ (0 ≤ a2.toInt ∧ a2.toInt < (eA g0 233 0).toInt ∧ 0 ≤ a3.toInt ∧ a3.toInt < (eA g0 233 0).toInt) ∧ (eA g0 233 1).toInt < 8) ∧ i = 46 + 6 * (eA g0 233 1).toInt + 5) from by omega)).symm; refine (eA_ti (((hF558.2.1 233 (by decide)).trans (gA_sI)))).trans ?_; (first | rfl | exact eA_ix (by omega) | omega))⟩⟩
                        · have c555_ : v529.toInt ≤ v531.toInt := en_j_gt_f c555
                          refine At.enter rfl ?_
                          refine r_iconst 1 rfl ?_
                          refine r_goto ?_
                          refine At.enter rfl ?_
                          refine q_iretz (by decide) ?_
                          refine At.enter rfl ?_
                          refine q_iretz (by decide) ?_
                          refine At.enter rfl ?_
                          refine r_ift (by decide) ?_
                          refine At.enter rfl ?_
                          refine r_aload_n rfl ?_
                          refine q_getR (Sh.ref hI281.1 kx_231 rfl) ?_
                          refine r_iconst 1 rfl ?_
                          obtain ⟨v578, hv578⟩ : ∃ v, eA g0 233 1 = v := ⟨_, rfl⟩
                          have tv578 := congrArg Int32.toInt hv578
                          have wv578 := HI.t1 hI0
                          rw [hv578] at wv578
                          refine q_iald (Sh.arr hI281.1 ka_233) 1 rfl (by decide) v578 ((eA_c (gA_sI)).trans hv578) ?_
                          refine r_bipush 8 rfl ?_
                          refine r_ics 58 rfl (fun c579 => ?_) (fun c579 => ?_)
                          · have c579_ : v578.toInt ≠ 8 := en_i_ne_t c579
                            refine At.enter rfl ?_
                            refine r_aload_n rfl ?_
                            refine r_iload_n rfl ?_
                            refine r_iload_n rfl ?_
                            refine r_iload_n rfl ?_
                            refine r_iload rfl ?_
                            refine r_iload rfl ?_
                            refine r_iload rfl ?_
                            have x580 := HI.eqA hI281 (p := 233) (j := 0) (((eA_c gA_sI).trans hv480))
                            have x581 := HI.eqA hI281 (p := 233) (j := 1) (((eA_c gA_sI).trans hv578))
                            refine r_callV 78 rfl [.ref 231, .int a1, .int a2, .int a3, .int a4, .int a5, .int a6] [] (Nat.le_of_ble_eq_true rfl) rfl (zT_X11_addLoad_231 _ hI281 a1 (by omega) a2 (by omega) a3 (by omega) a4 (by omega) a5 (by omega) a6 (by omega) (by omega) (by omega) (by omega)) ?_
                            rintro _ _ ⟨g582, rfl, hI583, hF584, rfl, hr586⟩
                            refine At.stn ?_
                            have hF587 := Fr.tr hF282 hF584 rfl rfl
                            obtain ⟨v588, hv588⟩ : ∃ v, eA g0 233 2 = v := ⟨_, rfl⟩
                            have tv588 := congrArg Int32.toInt hv588
                            have wv588 := HI.t2 hI0
                            rw [hv588] at wv588
                            have tv588 := congrArg Int32.toInt hv588
                            obtain ⟨v589, hv589⟩ : ∃ v, eA g0 233 4 = v := ⟨_, rfl⟩
                            have wv589 := HI.t4 hI0
                            rw [hv589] at wv589
                            have tv589 := congrArg Int32.toInt hv589
                            obtain ⟨v590, hv590⟩ : ∃ v, eA g0 233 5 = v := ⟨_, rfl⟩
                            have wv590 := HI.t5 hI0
                            rw [hv590] at wv590
                            have tv590 := congrArg Int32.toInt hv590
                            obtain ⟨v591, hv591⟩ : ∃ v, eA g0 233 6 = v := ⟨_, rfl⟩
                            have wv591 := HI.t6 hI0
                            rw [hv591] at wv591
                            have tv591 := congrArg Int32.toInt hv591
                            obtain ⟨v592, hv592⟩ : ∃ v, eA g582 233 1 = v := ⟨_, rfl⟩
                            have y593 := hr586.2.1
                            have tv592 := congrArg Int32.toInt hv592
                            have x594 := HI.eqA hI281 (p := 233) (j := 1) (((eA_c gA_sI).trans hv578))
                            have lw_v592 := fun i h0 h1 => congrArg Int32.toInt (hr586.1 i (Int.le_trans (by decide) h0) h1 (fun e => absurd (e ▸ h0 : (10 : Int) ≤ 1) (by decide)))
                            refine At.enter rfl ?_
                            refine r_aload_n rfl ?_
                            refine r_aload_n rfl ?_
                            refine q_getR (Sh.ref hI583.1 kx_231 rfl) ?_
                            refine r_iconst 1 rfl ?_
                            refine q_iald (Sh.arr hI583.1 ka_233) 1 rfl (by decide) v592 hv592 ?_
                            refine r_iconst 1 rfl ?_
                            refine q_isub (v592.toInt - 1) rfl (by omega) (fun v595 hv595 => ?_)
                            refine r_callV 90 rfl [.ref 231, .int v595] [] (Nat.le_of_ble_eq_true rfl) rfl (T_X11_tell_231 _ hI583 v595 (by omega)) ?_
                            rintro _ _ ⟨g596, rfl, hI597, hF598, v599, rfl, hr600⟩
                            refine At.sti ?_
                            have hF601 := Fr.tr hF587 hF598 rfl rfl
                            refine At.enter rfl ?_
                            refine r_ireti ?_
                            have x602 := HI.eqA hI597 (p := 233) (j := 1) (((eA_c (hF598.2.1 233 (by decide))).trans hv592))
                            have x603 := HI.eqA hI597 (p := 233) (j := 0) (((eA_c (hF598.2.1 233 (by decide))).trans ((hr586.1 0 (by decide) (by decide) (by decide)).trans ((eA_c gA_sI).trans hv480))))
                            have x604 := HI.eqA hI597 (p := 233) (j := 4) (((eA_c (hF598.2.1 233 (by decide))).trans ((hr586.1 4 (by decide) (by decide) (by decide)).trans ((eA_c gA_sI).trans hv589))))
                            have x605 := HI.eqA hI597 (p := 233) (j := 5) (((eA_c (hF598.2.1 233 (by decide))).trans ((hr586.1 5 (by decide) (by decide) (by decide)).trans ((eA_c gA_sI).trans hv590))))
                            have x606 := HI.eqA hI597 (p := 233) (j := 6) (((eA_c (hF598.2.1 233 (by decide))).trans ((hr586.1 6 (by decide) (by decide) (by decide)).trans ((eA_c gA_sI).trans hv591))))
                            have x607 := HI.eqA hI0 (p := 233) (j := 1) (hv578)
                            have x608 := HI.eqA hI0 (p := 233) (j := 0) (hv480)
                            have x609 := HI.eqA hI0 (p := 233) (j := 0) (hv480)
                            have x610 := HI.eqA hI0 (p := 233) (j := 4) (hv589)
                            have x611 := HI.eqA hI0 (p := 233) (j := 5) (hv590)
                            have x612 := HI.eqA hI0 (p := 233) (j := 6) (hv591)
                            exact ⟨_, rfl, hI597, hF601, _, rfl, by omega, ⟨⟨by omega, by omega, by omega, by omega, by omega, by omega, by omega, by omega⟩, (by intro i i0 i1; refine (eA_ti ((hF598.2.1 233 (by decide)))).trans ?_; (first | (refine ((hr586.2.2.1 (i) (by omega) (by omega))).trans ?_; refine (eA_ti ((gA_sI))).trans ?_; (first | rfl | exact eA_ix (by omega) | omega)) | (refine ((hr586.2.2.2 (i) (by omega) (by omega))).trans ?_; exact (Decidable.em ((i) = 46 + 6 * (eA (heap) 233 1).toInt + 0)).elim (fun k342_ => by refine (if_pos k342_).trans ?_; (first | rfl | exact eA_ix (by omega) | omega)) (fun k342_ => by refine (if_neg k342_).trans ?_; exact (Decidable.em ((i) = 46 + 6 * (eA (heap) 233 1).toInt + 1)).elim (fun k343_ => by refine (if_pos k343_).trans ?_; (first | rfl | exact eA_ix (by omega) | omega)) (fun k343_ => by refine (if_neg k343_).trans ?_; exact (Decidable.em ((i) = 46 + 6 * (eA (heap) 233 1).toInt + 2)).elim (fun k344_ => by refine (if_pos k344_).trans ?_; (first | rfl | exact eA_ix (by omega) | omega)) (fun k344_ => by refine (if_neg k344_).trans ?_; exact (Decidable.em ((i) = 46 + 6 * (eA (heap) 233 1).toInt + 3)).elim (fun k345_ => by refine (if_pos k345_).trans ?_; (first | rfl | exact eA_ix (by omega) | omega)) (fun k345_ => by refine (if_neg k345_).trans ?_; exact (Decidable.em ((i) = 46 + 6 * (eA (heap) 233 1).toInt + 4)).elim (fun k346_ => by refine (if_pos k346_).trans ?_; (first | rfl | exact eA_ix (by omega) | omega)) (fun k346_ => by refine (if_neg k346_).trans ?_; exact (Decidable.em ((i) = 46 + 6 * (eA (heap) 233 1).toInt + 5)).elim (fun k347_ => by refine (if_pos k347_).trans ?_; (first | rfl | exact eA_ix (by omega) | omega)) (fun k347_ => by refine (if_neg k347_).trans ?_; refine (eA_ti ((gA_sI))).trans ?_; (first | rfl | exact eA_ix (by omega) | omega)))))))) | (refine ((lw_v592 (i) (by omega) (by omega))).trans ?_; refine (eA_ti ((gA_sI))).trans ?_; (first | rfl | exact eA_ix (by omega) | omega)))), (by intro i i0 i1; refine (eA_ti ((hF598.2.1 233 (by decide)))).trans ?_; (first | (refine ((hr586.2.2.1 (i) (by omega) (by omega))).trans ?_; refine (eA_ti ((gA_sI))).trans ?_; (first | rfl | exact eA_ix (by omega) | omega)) | (refine ((hr586.2.2.2 (i) (by omega) (by omega))).trans ?_; exact (Decidable.em ((i) = 46 + 6 * (eA (heap) 233 1).toInt + 0)).elim (fun k348_ => by refine (if_pos k348_).trans ?_; (first | rfl | exact eA_ix (by omega) | omega)) (fun k348_ => by refine (if_neg k348_).trans ?_; exact (Decidable.em ((i) = 46 + 6 * (eA (heap) 233 1).toInt + 1)).elim (fun k349_ => by refine (if_pos k349_).trans ?_; (first | rfl | exact eA_ix (by omega) | omega)) (fun k349_ => by refine (if_neg k349_).trans ?_; exact (Decidable.em ((i) = 46 + 6 * (eA (heap) 233 1).toInt + 2)).elim (fun k350_ => by refine (if_pos k350_).trans ?_; (first | rfl | exact eA_ix (by omega) | omega)) (fun k350_ => by refine (if_neg k350_).trans ?_; exact (Decidable.em ((i) = 46 + 6 * (eA (heap) 233 1).toInt + 3)).elim (fun k351_ => by refine (if_pos k351_).trans ?_; (first | rfl | exact eA_ix (by omega) | omega)) (fun k351_ => by refine (if_neg k351_).trans ?_; exact (Decidable.em ((i) = 46 + 6 * (eA (heap) 233 1).toInt + 4)).elim (fun k352_ => by refine (if_pos k352_).trans ?_; (first | rfl | exact eA_ix (by omega) | omega)) (fun k352_ => by refine (if_neg k352_).trans ?_; exact (Decidable.em ((i) = 46 + 6 * (eA (heap) 233 1).toInt + 5)).elim (fun k353_ => by refine (if_pos k353_).trans ?_; (first | rfl | exact eA_ix (by omega) | omega)) (fun k353_ => by refine (if_neg k353_).trans ?_; refine (eA_ti ((gA_sI))).trans ?_; (first | rfl | exact eA_ix (by omega) | omega)))))))) | (refine ((lw_v592 (i) (by omega) (by omega))).trans ?_; refine (eA_ti ((gA_sI))).trans ?_; (first | rfl | exact eA_ix (by omega) | omega)))), (by intro i i0 i1; exact (Decidable.em (((1 ≤ a1.toInt ∧ a1.toInt ≤ 9 ∧ 0 ≤ a4.toInt ∧ a4.toInt ≤ 99 ∧ 0 ≤ a5.toInt ∧ a5.toInt ≤ 9 ∧ 0 ≤ a6.toInt ∧ a6.toInt ≤ 9999) ∧ (0 ≤ a2.toInt ∧ a2.toInt < (eA g0 233 0).toInt ∧ 0 ≤ a3.toInt ∧ a3.toInt < (eA g0 233 0).toInt) ∧ (eA g0 233 1).toInt < 8) ∧ i = 46 + 6 * (eA g0 233 1).toInt + 0)).elim (fun k354_ => by refine Eq.trans ?_ (if_pos k354_).symm; refine (eA_ti ((hF598.2.1 233 (by decide)))).trans ?_; (first | (refine ((hr586.2.2.1 (i) (by omega) (by omega))).trans ?_; refine (eA_ti ((gA_sI))).trans ?_; (first | rfl | exact eA_ix (by omega) | omega)) | (refine ((hr586.2.2.2 (i) (by omega) (by omega))).trans ?_; exact (Decidable.em ((i) = 46 + 6 * (eA (heap) 233 1).toInt + 0)).elim (fun k355_ => by refine (if_pos k355_).trans ?_; (first | rfl | exact eA_ix (by omega) | omega)) (fun k355_ => by refine (if_neg k355_).trans ?_; exact (Decidable.em ((i) = 46 + 6 * (eA (heap) 233 1).toInt + 1)).elim (fun k356_ => by refine (if_pos k356_).trans ?_; (first | rfl | exact eA_ix (by omega) | omega)) (fun k356_ => by refine (if_neg k356_).trans ?_; exact (Decidable.em ((i) = 46 + 6 * (eA (heap) 233 1).toInt + 2)).elim (fun k357_ => by refine (if_pos k357_).trans ?_; (first | rfl | exact eA_ix (by omega) | omega)) (fun k357_ => by refine (if_neg k357_).trans ?_; exact (Decidable.em ((i) = 46 + 6 * (eA (heap) 233 1).toInt + 3)).elim (fun k358_ => by refine (if_pos k358_).trans ?_; (first | rfl | exact eA_ix (by omega) | omega)) (fun k358_ => by refine (if_neg k358_).trans ?_; exact (Decidable.em ((i) = 46 + 6 * (eA (heap) 233 1).toInt + 4)).elim (fun k359_ => by refine (if_pos k359_).trans ?_; (first | rfl | exact eA_ix (by omega) | omega)) (fun k359_ => by refine (if_neg k359_).trans ?_; exact (Decidable.em ((i) = 46 + 6 * (eA (heap) 233 1).toInt + 5)).elim (fun k360_ => by refine (if_pos k360_).trans ?_; (first | rfl | exact eA_ix (by omega) | omega)) (fun k360_ => by refine (if_neg k360_).trans ?_; refine (eA_ti ((gA_sI))).trans ?_; (first | rfl | exact eA_ix (by omega) | omega)))))))) | (refine ((lw_v592 (i) (by omega) (by omega))).trans ?_; refine (eA_ti ((gA_sI))).trans ?_; (first | rfl | exact eA_ix (by omega) | omega)))) (fun k354_ => by refine Eq.trans ?_ (if_neg k354_).symm; exact (Decidable.em (((1 ≤ a1.toInt ∧ a1.toInt ≤ 9 ∧ 0 ≤ a4.toInt ∧ a4.toInt ≤ 99 ∧ 0 ≤ a5.toInt ∧ a5.toInt ≤ 9 ∧ 0 ≤ a6.toInt ∧ a6.toInt ≤ 9999) ∧ (0 ≤ a2.toInt ∧ a2.toInt < (eA g0 233 0).toInt ∧ 0 ≤ a3.toInt ∧ a3.toInt < (eA g0 233 0).toInt) ∧ (eA g0 233 1).toInt < 8) ∧ i = 46 + 6 * (eA g0 233 1).toInt + 1)).elim (fun k361_ => by refine Eq.trans ?_ (if_pos k361_).symm; refine (eA_ti ((hF598.2.1 233 (by decide)))).trans ?_; (first | (refine ((hr586.2.2.1 (i) (by omega) (by omega))).trans ?_; refine (eA_ti ((gA_sI))).trans ?_; (first | rfl | exact eA_ix (by omega) | omega)) | (refine ((hr586.2.2.2 (i) (by omega) (by omega))).trans ?_; exact (Decidable.em ((i) = 46 + 6 * (eA (heap) 233 1).toInt + 0)).elim (fun k362_ => by refine (if_pos k362_).trans ?_; (first | rfl | exact eA_ix (by omega) | omega)) (fun k362_ => by refine (if_neg k362_).trans ?_; exact (Decidable.em ((i) = 46 + 6 * (eA (heap) 233 1).toInt + 1)).elim (fun k363_ => by refine (if_pos k363_).trans ?_; (first | rfl | exact eA_ix (by omega) | omega)) (fun k363_ => by refine (if_neg k363_).trans ?_; exact (Decidable.em ((i) = 46 + 6 * (eA (heap) 233 1).toInt + 2)).elim (fun k364_ => by refine (if_pos k364_).trans ?_; (first | rfl | exact eA_ix (by omega) | omega)) (fun k364_ => by refine (if_neg k364_).trans ?_; exact (Decidable.em ((i) = 46 + 6 * (eA (heap) 233 1).toInt + 3)).elim (fun k365_ => by refine (if_pos k365_).trans ?_; (first | rfl | exact eA_ix (by omega) | omega)) (fun k365_ => by refine (if_neg k365_).trans ?_; exact (Decidable.em ((i) = 46 + 6 * (eA (heap) 233 1).toInt + 4)).elim (fun k366_ => by refine (if_pos k366_).trans ?_; (first | rfl | exact eA_ix (by omega) | omega)) (fun k366_ => by refine (if_neg k366_).trans ?_; exact (Decidable.em ((i) = 46 + 6 * (eA (heap) 233 1).toInt + 5)).elim (fun k367_ => by refine (if_pos k367_).trans ?_; (first | rfl | exact eA_ix (by omega) | omega)) (fun k367_ => by refine (if_neg k367_).trans ?_; refine (eA_ti ((gA_sI))).trans ?_; (first | rfl | exact eA_ix (by omega) | omega)))))))) | (refine ((lw_v592 (i) (by omega) (by omega))).trans ?_; refine (eA_ti ((gA_sI))).trans ?_; (first | rfl | exact eA_ix (by omega) | omega)))) (fun k361_ => by refine Eq.trans ?_ (if_neg k361_).symm; exact (Decidable.em (((1 ≤ a1.toInt ∧ a1.toInt ≤ 9 ∧ 0 ≤ a4.toInt ∧ a4.toInt ≤ 99 ∧ 0 ≤ a5.toInt ∧ a5.toInt ≤ 9 ∧ 0 ≤ a6.toInt ∧ a6.toInt ≤ 9999) ∧ (0 ≤ a2.toInt ∧ a2.toInt < (eA g0 233 0).toInt ∧ 0 ≤ a3.toInt ∧ a3.toInt < (eA g0 233 0).toInt) ∧ (eA g0 233 1).toInt < 8) ∧ i = 46 + 6 * (eA g0 233 1).toInt + 2)).elim (fun k368_ => by refine Eq.trans ?_ (if_pos k368_).symm; refine (eA_ti ((hF598.2.1 233 (by decide)))).trans ?_; (first | (refine ((hr586.2.2.1 (i) (by omega) (by omega))).trans ?_; refine (eA_ti ((gA_sI))).trans ?_; (first | rfl | exact eA_ix (by omega) | omega)) | (refine ((hr586.2.2.2 (i) (by omega) (by omega))).trans ?_; exact (Decidable.em ((i) = 46 + 6 * (eA (heap) 233 1).toInt + 0)).elim (fun k369_ => by refine (if_pos k369_).trans ?_; (first | rfl | exact eA_ix (by omega) | omega)) (fun k369_ => by refine (if_neg k369_).trans ?_; exact (Decidable.em ((i) = 46 + 6 * (eA (heap) 233 1).toInt + 1)).elim (fun k370_ => by refine (if_pos k370_).trans ?_; (first | rfl | exact eA_ix (by omega) | omega)) (fun k370_ => by refine (if_neg k370_).trans ?_; exact (Decidable.em ((i) = 46 + 6 * (eA (heap) 233 1).toInt + 2)).elim (fun k371_ => by refine (if_pos k371_).trans ?_; (first | rfl | exact eA_ix (by omega) | omega)) (fun k371_ => by refine (if_neg k371_).trans ?_; exact (Decidable.em ((i) = 46 + 6 * (eA (heap) 233 1).toInt + 3)).elim (fun k372_ => by refine (if_pos k372_).trans ?_; (first | rfl | exact eA_ix (by omega) | omega)) (fun k372_ => by refine (if_neg k372_).trans ?_; exact (Decidable.em ((i) = 46 + 6 * (eA (heap) 233 1).toInt + 4)).elim (fun k373_ => by refine (if_pos k373_).trans ?_; (first | rfl | exact eA_ix (by omega) | omega)) (fun k373_ => by refine (if_neg k373_).trans ?_; exact (Decidable.em ((i) = 46 + 6 * (eA (heap) 233 1).toInt + 5)).elim (fun k374_ => by refine (if_pos k374_).trans ?_; (first | rfl | exact eA_ix (by omega) | omega)) (fun k374_ => by refine (if_neg k374_).trans ?_; refine (eA_ti ((gA_sI))).trans ?_; (first | rfl | exact eA_ix (by omega) | omega)))))))) | (refine ((lw_v592 (i) (by omega) (by omega))).trans ?_; refine (eA_ti ((gA_sI))).trans ?_; (first | rfl | exact eA_ix (by omega) | omega)))) (fun k368_ => by refine Eq.trans ?_ (if_neg k368_).symm; exact (Decidable.em (((1 ≤ a1.toInt ∧ a1.toInt ≤ 9 ∧ 0 ≤ a4.toInt ∧ a4.toInt ≤ 99 ∧ 0 ≤ a5.toInt ∧ a5.toInt ≤ 9 ∧ 0 ≤ a6.toInt ∧ a6.toInt ≤ 9999) ∧ (0 ≤ a2.toInt ∧ a2.toInt < (eA g0 233 0).toInt ∧ 0 ≤ a3.toInt ∧ a3.toInt < (eA g0 233 0).toInt) ∧ (eA g0 233 1).toInt < 8) ∧ i = 46 + 6 * (eA g0 233 1).toInt + 3)).elim (fun k375_ => by refine Eq.trans ?_ (if_pos k375_).symm; refine (eA_ti ((hF598.2.1 233 (by decide)))).trans ?_; (first | (refine ((hr586.2.2.1 (i) (by omega) (by omega))).trans ?_; refine (eA_ti ((gA_sI))).trans ?_; (first | rfl | exact eA_ix (by omega) | omega)) | (refine ((hr586.2.2.2 (i) (by omega) (by omega))).trans ?_; exact (Decidable.em ((i) = 46 + 6 * (eA (heap) 233 1).toInt + 0)).elim (fun k376_ => by refine (if_pos k376_).trans ?_; (first | rfl | exact eA_ix (by omega) | omega)) (fun k376_ => by refine (if_neg k376_).trans ?_; exact (Decidable.em ((i) = 46 + 6 * (eA (heap) 233 1).toInt + 1)).elim (fun k377_ => by refine (if_pos k377_).trans ?_; (first | rfl | exact eA_ix (by omega) | omega)) (fun k377_ => by refine (if_neg k377_).trans ?_; exact (Decidable.em ((i) = 46 + 6 * (eA (heap) 233 1).toInt + 2)).elim (fun k378_ => by refine (if_pos k378_).trans ?_; (first | rfl | exact eA_ix (by omega) | omega)) (fun k378_ => by refine (if_neg k378_).trans ?_; exact (Decidable.em ((i) = 46 + 6 * (eA (heap) 233 1).toInt + 3)).elim (fun k379_ => by refine (if_pos k379_).trans ?_; (first | rfl | exact eA_ix (by omega) | omega)) (fun k379_ => by refine (if_neg k379_).trans ?_; exact (Decidable.em ((i) = 46 + 6 * (eA (heap) 233 1).toInt + 4)).elim (fun k380_ => by refine (if_pos k380_).trans ?_; (first | rfl | exact eA_ix (by omega) | omega)) (fun k380_ => by refine (if_neg k380_).trans ?_; exact (Decidable.em ((i) = 46 + 6 * (eA (heap) 233 1).toInt + 5)).elim (fun k381_ => by refine (if_pos k381_).trans ?_; (first | rfl | exact eA_ix (by omega) | omega)) (fun k381_ => by refine (if_neg k381_).trans ?_; refine (eA_ti ((gA_sI))).trans ?_; (first | rfl | exact eA_ix (by omega) | omega)))))))) | (refine ((lw_v592 (i) (by omega) (by omega))).trans ?_; refine (eA_ti ((gA_sI))).trans ?_; (first | rfl | exact eA_ix (by omega) | omega)))) (fun k375_ => by refine Eq.trans ?_ (if_neg k375_).symm; exact (Decidable.em (((1 ≤ a1.toInt ∧ a1.toInt ≤ 9 ∧ 0 ≤ a4.toInt ∧ a4.toInt ≤ 99 ∧ 0 ≤ a5.toInt ∧ a5.toInt ≤ 9 ∧ 0 ≤ a6.toInt ∧ a6.toInt ≤ 9999) ∧ (0 ≤ a2.toInt ∧ a2.toInt < (eA g0 233 0).toInt ∧ 0 ≤ a3.toInt ∧ a3.toInt < (eA g0 233 0).toInt) ∧ (eA g0 233 1).toInt < 8) ∧ i = 46 + 6 * (eA g0 233 1).toInt + 4)).elim (fun k382_ => by refine Eq.trans ?_ (if_pos k382_).symm; refine (eA_ti ((hF598.2.1 233 (by decide)))).trans ?_; (first | (refine ((hr586.2.2.1 (i) (by omega) (by omega))).trans ?_; refine (eA_ti ((gA_sI))).trans ?_; (first | rfl | exact eA_ix (by omega) | omega)) | (refine ((hr586.2.2.2 (i) (by omega) (by omega))).trans ?_; exact (Decidable.em ((i) = 46 + 6 * (eA (heap) 233 1).toInt + 0)).elim (fun k383_ => by refine (if_pos k383_).trans ?_; (first | rfl | exact eA_ix (by omega) | omega)) (fun k383_ => by refine (if_neg k383_).trans ?_; exact (Decidable.em ((i) = 46 + 6 * (eA (heap) 233 1).toInt + 1)).elim (fun k384_ => by refine (if_pos k384_).trans ?_; (first | rfl | exact eA_ix (by omega) | omega)) (fun k384_ => by refine (if_neg k384_).trans ?_; exact (Decidable.em ((i) = 46 + 6 * (eA (heap) 233 1).toInt + 2)).elim (fun k385_ => by refine (if_pos k385_).trans ?_; (first | rfl | exact eA_ix (by omega) | omega)) (fun k385_ => by refine (if_neg k385_).trans ?_; exact (Decidable.em ((i) = 46 + 6 * (eA (heap) 233 1).toInt + 3)).elim (fun k386_ => by refine (if_pos k386_).trans ?_; (first | rfl | exact eA_ix (by omega) | omega)) (fun k386_ => by refine (if_neg k386_).trans ?_; exact (Decidable.em ((i) = 46 + 6 * (eA (heap) 233 1).toInt + 4)).elim (fun k387_ => by refine (if_pos k387_).trans ?_; (first | rfl | exact eA_ix (by omega) | omega)) (fun k387_ => by refine (if_neg k387_).trans ?_; exact (Decidable.em ((i) = 46 + 6 * (eA (heap) 233 1).toInt + 5)).elim (fun k388_ => by refine (if_pos k388_).trans ?_; (first | rfl | exact eA_ix (by omega) | omega)) (fun k388_ => by refine (if_neg k388_).trans ?_; refine (eA_ti ((gA_sI))).trans ?_; (first | rfl | exact eA_ix (by omega) | omega)))))))) | (refine ((lw_v592 (i) (by omega) (by omega))).trans ?_; refine (eA_ti ((gA_sI))).trans ?_; (first | rfl | exact eA_ix (by omega) | omega)))) (fun k382_ => by refine Eq.trans ?_ (if_neg k382_).symm; exact (Decidable.em (((1 ≤ a1.toInt ∧ a1.toInt ≤ 9 ∧ 0 ≤ a4.toInt ∧ a4.toInt ≤ 99 ∧ 0 ≤ a5.toInt ∧ a5.toInt ≤ 9 ∧ 0 ≤ a6.toInt ∧ a6.toInt ≤ 9999) ∧ (0 ≤ a2.toInt ∧ a2.toInt < (eA g0 233 0).toInt ∧ 0 ≤ a3.toInt ∧ a3.toInt < (eA g0 233 0).toInt) ∧ (eA g0 233 1).toInt < 8) ∧ i = 46 + 6 * (eA g0 233 1).toInt + 5)).elim (fun k389_ => by refine Eq.trans ?_ (if_pos k389_).symm; refine (eA_ti ((hF598.2.1 233 (by decide)))).trans ?_; (first | (refine ((hr586.2.2.1 (i) (by omega) (by omega))).trans ?_; refine (eA_ti ((gA_sI))).trans ?_; (first | rfl | exact eA_ix (by omega) | omega)) | (refine ((hr586.2.2.2 (i) (by omega) (by omega))).trans ?_; exact (Decidable.em ((i) = 46 + 6 * (eA (heap) 233 1).toInt + 0)).elim (fun k390_ => by refine (if_pos k390_).trans ?_; (first | rfl | exact eA_ix (by omega) | omega)) (fun k390_ => by refine (if_neg k390_).trans ?_; exact (Decidable.em ((i) = 46 + 6 * (eA (heap) 233 1).toInt + 1)).elim (fun k391_ => by refine (if_pos k391_).trans ?_; (first | rfl | exact eA_ix (by omega) | omega)) (fun k391_ => by refine (if_neg k391_).trans ?_; exact (Decidable.em ((i) = 46 + 6 * (eA (heap) 233 1).toInt + 2)).elim (fun k392_ => by refine (if_pos k392_).trans ?_; (first | rfl | exact eA_ix (by omega) | omega)) (fun k392_ => by refine (if_neg k392_).trans ?_; exact (Decidable.em ((i) = 46 + 6 * (eA (heap) 233 1).toInt + 3)).elim (fun k393_ => by refine (if_pos k393_).trans ?_; (first | rfl | exact eA_ix (by omega) | omega)) (fun k393_ => by refine (if_neg k393_).trans ?_; exact (Decidable.em ((i) = 46 + 6 * (eA (heap) 233 1).toInt + 4)).elim (fun k394_ => by refine (if_pos k394_).trans ?_; (first | rfl | exact eA_ix (by omega) | omega)) (fun k394_ => by refine (if_neg k394_).trans ?_; exact (Decidable.em ((i) = 46 + 6 * (eA (heap) 233 1).toInt + 5)).elim (fun k395_ => by refine (if_pos k395_).trans ?_; (first | rfl | exact eA_ix (by omega) | omega)) (fun k395_ => by refine (if_neg k395_).trans ?_; refine (eA_ti ((gA_sI))).trans ?_; (first | rfl | exact eA_ix (by omega) | omega)))))))) | (refine ((lw_v592 (i) (by omega) (by omega))).trans ?_; refine (eA_ti ((gA_sI))).trans ?_; (first | rfl | exact eA_ix (by omega) | omega)))) (fun k389_ => by refine Eq.trans ?_ (if_neg k389_).symm; refine (eA_ti ((hF598.2.1 233 (by decide)))).trans ?_; (first | (refine ((hr586.2.2.1 (i) (by omega) (by omega))).trans ?_; refine (eA_ti ((gA_sI))).trans ?_; (first | rfl | exact eA_ix (by omega) | omega)) | (refine ((hr586.2.2.2 (i) (by omega) (by omega))).trans ?_; exact (Decidable.em ((i) = 46 + 6 * (eA (heap) 233 1).toInt + 0)).elim (fun k396_ => by refine (if_pos k396_).trans ?_; (first | rfl | exact eA_ix (by omega) | omega)) (fun k396_ => by refine (if_neg k396_).trans ?_; exact (Decidable.em ((i) = 46 + 6 * (eA (heap) 233 1).toInt + 1)).elim (fun k397_ => by refine (if_pos k397_).trans ?_; (first | rfl | exact eA_ix (by omega) | omega)) (fun k397_ => by refine (if_neg k397_).trans ?_; exact (Decidable.em ((i) = 46 + 6 * (eA (heap) 233 1).toInt + 2)).elim (fun k398_ => by refine (if_pos k398_).trans ?_; (first | rfl | exact eA_ix (by omega) | omega)) (fun k398_ => by refine (if_neg k398_).trans ?_; exact (Decidable.em ((i) = 46 + 6 * (eA (heap) 233 1).toInt + 3)).elim (fun k399_ => by refine (if_pos k399_).trans ?_; (first | rfl | exact eA_ix (by omega) | omega)) (fun k399_ => by refine (if_neg k399_).trans ?_; exact (Decidable.em ((i) = 46 + 6 * (eA (heap) 233 1).toInt + 4)).elim (fun k400_ => by refine (if_pos k400_).trans ?_; (first | rfl | exact eA_ix (by omega) | omega)) (fun k400_ => by refine (if_neg k400_).trans ?_; exact (Decidable.em ((i) = 46 + 6 * (eA (heap) 233 1).toInt + 5)).elim (fun k401_ => by refine (if_pos k401_).trans ?_; (first | rfl | exact eA_ix (by omega) | omega)) (fun k401_ => by refine (if_neg k401_).trans ?_; refine (eA_ti ((gA_sI))).trans ?_; (first | rfl | exact eA_ix (by omega) | omega)))))))) | (refine ((lw_v592 (i) (by omega) (by omega))).trans ?_; refine (eA_ti ((gA_sI))).trans ?_; (first | rfl | exact eA_ix (by omega) | omega))))))))))⟩⟩
                          · have c579_ : v578.toInt = 8 := en_i_ne_f c579
                            refine At.enter rfl ?_
                            refine r_aload_n rfl ?_
                            refine r_bipush (-5) rfl ?_
                            refine r_callV 64 rfl [.ref 231, .int (-5)] [] (Nat.le_of_ble_eq_true rfl) rfl (T_X11_tell_231 _ hI281 (-5) (by decide)) ?_
                            rintro _ _ ⟨g613, rfl, hI614, hF615, v616, rfl, hr617⟩
                            refine At.sti ?_
                            have hF618 := Fr.tr hF282 hF615 rfl rfl
                            have zv619 : ((-5) : Int32).toInt = (-5) := rfl
                            refine At.enter rfl ?_
                            refine r_ireti ?_
                            have x620 := HI.eqA hI614 (p := 233) (j := 1) ((((eA_c (hF615.2.1 233 (by decide))).trans (eA_c gA_sI)).trans hv578))
                            have x621 := HI.eqA hI614 (p := 233) (j := 0) ((((eA_c (hF615.2.1 233 (by decide))).trans (eA_c gA_sI)).trans hv480))
                            obtain ⟨v622, hv622⟩ : ∃ v, eA g0 233 4 = v := ⟨_, rfl⟩
                            have wv622 := HI.t4 hI0
                            rw [hv622] at wv622
                            have tv622 := congrArg Int32.toInt hv622
                            have x623 := HI.eqA hI614 (p := 233) (j := 4) ((((eA_c (hF615.2.1 233 (by decide))).trans (eA_c gA_sI)).trans hv622))
                            obtain ⟨v624, hv624⟩ : ∃ v, eA g0 233 5 = v := ⟨_, rfl⟩
                            have wv624 := HI.t5 hI0
                            rw [hv624] at wv624
                            have tv624 := congrArg Int32.toInt hv624
                            have x625 := HI.eqA hI614 (p := 233) (j := 5) ((((eA_c (hF615.2.1 233 (by decide))).trans (eA_c gA_sI)).trans hv624))
                            obtain ⟨v626, hv626⟩ : ∃ v, eA g0 233 6 = v := ⟨_, rfl⟩
                            have wv626 := HI.t6 hI0
                            rw [hv626] at wv626
                            have tv626 := congrArg Int32.toInt hv626
                            have x627 := HI.eqA hI614 (p := 233) (j := 6) ((((eA_c (hF615.2.1 233 (by decide))).trans (eA_c gA_sI)).trans hv626))
                            have x628 := HI.eqA hI0 (p := 233) (j := 1) (hv578)
                            have x629 := HI.eqA hI0 (p := 233) (j := 0) (hv480)
                            have x630 := HI.eqA hI0 (p := 233) (j := 0) (hv480)
                            have x631 := HI.eqA hI0 (p := 233) (j := 4) (hv622)
                            have x632 := HI.eqA hI0 (p := 233) (j := 5) (hv624)
                            have x633 := HI.eqA hI0 (p := 233) (j := 6) (hv626)
                            exact ⟨_, rfl, hI614, hF618, _, rfl, by omega, ⟨⟨by omega, by omega, by omega, by omega, by omega, by omega, by omega, by omega⟩, (by intro i i0 i1; refine (eA_ti (((hF615.2.1 233 (by decide)).trans (gA_sI)))).trans ?_; (first | rfl | exact eA_ix (by omega) | omega)), (by intro i i0 i1; refine (eA_ti (((hF615.2.1 233 (by decide)).trans (gA_sI)))).trans ?_; (first | rfl | exact eA_ix (by omega) | omega)), (by intro i i0 i1; refine Eq.trans ?_ (if_neg (show ¬ (((1 ≤ a1.toInt ∧ a1.toInt ≤ 9 ∧ 0 ≤ a4.toInt ∧ a4.toInt ≤ 99 ∧ 0 ≤ a5.toInt ∧ a5.toInt ≤ 9 ∧ 0 ≤ a6.toInt ∧ a6.toInt ≤ 9999) ∧ (0 ≤ a2.toInt ∧ a2.toInt < (eA g0 233 0).toInt ∧ 0 ≤ a3.toInt ∧ a3.toInt < (eA g0 233 0).toInt) ∧ (eA g0 233 1).toInt < 8) ∧ i = 46 + 6 * (eA g0 233 1).toInt + 0) from by omega)).symm; refine Eq.trans ?_ (if_neg (show ¬ (((1 ≤ a1.toInt ∧ a1.toInt ≤ 9 ∧ 0 ≤ a4.toInt ∧ a4.toInt ≤ 99 ∧ 0 ≤ a5.toInt ∧ a5.toInt ≤ 9 ∧ 0 ≤ a6.toInt ∧ a6.toInt ≤ 9999) ∧ (0 ≤ a2.toInt ∧ a2.toInt < (eA g0 233 0).toInt ∧ 0 ≤ a3.toInt ∧ a3.toInt < (eA g0 233 0).toInt) ∧ (eA g0 233 1).toInt < 8) ∧ i = 46 + 6 * (eA g0 233 1).toInt + 1) from by omega)).symm; refine Eq.trans ?_ (if_neg (show ¬ (((1 ≤ a1.toInt ∧ a1.toInt ≤ 9 ∧ 0 ≤ a4.toInt ∧ a4.toInt ≤ 99 ∧ 0 ≤ a5.toInt ∧ a5.toInt ≤ 9 ∧ 0 ≤ a6.toInt ∧ a6.toInt ≤ 9999) ∧ (0 ≤ a2.toInt ∧ a2.toInt < (eA g0 233 0).toInt ∧ 0 ≤ a3.toInt ∧ a3.toInt < (eA g0 233 0).toInt) ∧ (eA g0 233 1).toInt < 8) ∧ i = 46 + 6 * (eA g0 233 1).toInt + 2) from by omega)).symm; refine Eq.trans ?_ (if_neg (show ¬ (((1 ≤ a1.toInt ∧ a1.toInt ≤ 9 ∧ 0 ≤ a4.toInt ∧ a4.toInt ≤ 99 ∧ 0 ≤ a5.toInt ∧ a5.toInt ≤ 9 ∧ 0 ≤ a6.toInt ∧ a6.toInt ≤ 9999) ∧ (0 ≤ a2.toInt ∧ a2.toInt < (eA g0 233 0).toInt ∧ 0 ≤ a3.toInt ∧ a3.toInt < (eA g0 233 0).toInt) ∧ (eA g0 233 1).toInt < 8) ∧ i = 46 + 6 * (eA g0 233 1).toInt + 3) from by omega)).symm; refine Eq.trans ?_ (if_neg (show ¬ (((1 ≤ a1.toInt ∧ a1.toInt ≤ 9 ∧ 0 ≤ a4.toInt ∧ a4.toInt ≤ 99 ∧ 0 ≤ a5.toInt ∧ a5.toInt ≤ 9 ∧ 0 ≤ a6.toInt ∧ a6.toInt ≤ 9999) ∧ (0 ≤ a2.toInt ∧ a2.toInt < (eA g0 233 0).toInt ∧ 0 ≤ a3.toInt ∧ a3.toInt < (eA g0 233 0).toInt) ∧ (eA g0 233 1).toInt < 8) ∧ i = 46 + 6 * (eA g0 233 1).toInt + 4) from by omega)).symm; refine Eq.trans ?_ (if_neg (show ¬ (((1 ≤ a1.toInt ∧ a1.toInt ≤ 9 ∧ 0 ≤ a4.toInt ∧ a4.toInt ≤ 99 ∧ 0 ≤ a5.toInt ∧ a5.toInt ≤ 9 ∧ 0 ≤ a6.toInt ∧ a6.toInt ≤ 9999) ∧ (0 ≤ a2.toInt ∧ a2.toInt < (eA g0 233 0).toInt ∧ 0 ≤ a3.toInt ∧ a3.toInt < (eA g0 233 0).toInt) ∧ (eA g0 233 1).toInt < 8) ∧ i = 46 + 6 * (eA g0 233 1).toInt + 5) from by omega)).symm; refine (eA_ti (((hF615.2.1 233 (by decide)).trans (gA_sI)))).trans ?_; (first | rfl | exact eA_ix (by omega) | omega))⟩⟩

def zF_X11_drop_231 : List (Nat × Nat) := [(231, 0), (231, 1)]
def zA_X11_drop_231 : List Nat := [232, 233]
set_option maxRecDepth 100000 in
set_option maxHeartbeats 4000000 in
theorem zT_X11_drop_231 (d : Nat) {N : Nat} {g0 : List en_E} (hI0 : HI g0) (a1 : Int32) : Ev (d + 3) 180 [.ref 231, .int a1] (g0, N) (fun w h' => ∃ g', h' = (g', N) ∧ HI g' ∧ Fr zF_X11_drop_231 zA_X11_drop_231 g0 g' ∧ ∃ r : Int32, w = some (.int r) ∧ ((-2) ≤ r.toInt ∧ r.toInt ≤ 7) ∧ (((0 ≤ a1.toInt ∧ a1.toInt < (eA g0 233 1).toInt → r.toInt = (eA g0 233 1).toInt - 1 ∧ (eA g' 233 1).toInt = (eA g0 233 1).toInt - 1) ∧ (¬ (0 ≤ a1.toInt ∧ a1.toInt < (eA g0 233 1).toInt) → r.toInt = -2 ∧ (eA g' 233 1).toInt = (eA g0 233 1).toInt) ∧ (eA g' 233 0).toInt = (eA g0 233 0).toInt ∧ (eA g' 233 4).toInt = (eA g0 233 4).toInt ∧ (eA g' 233 5).toInt = (eA g0 233 5).toInt ∧ (eA g' 233 6).toInt = (eA g0 233 6).toInt) ∧ (∀ i : Int, 10 ≤ i → i < 46 → (eA g' 233 (i)).toInt = (eA g0 233 (i)).toInt) ∧ (∀ i : Int, 94 ≤ i → i < 110 → (eA g' 233 (i)).toInt = (eA g0 233 (i)).toInt) ∧ (∀ i : Int, 46 ≤ i → i < 94 → (eA g' 233 (i)).toInt = if (0 ≤ a1.toInt ∧ a1.toInt < (eA g0 233 1).toInt) ∧ 46 + 6 * a1.toInt ≤ i ∧ i < 88 then (eA g0 233 (i + 6)).toInt else (eA g0 233 (i)).toInt))) := by
  have hF0 : Fr zF_X11_drop_231 zA_X11_drop_231 g0 g0 := Fr.rf
  refine Ev.mk rfl rfl ⟨Nat.le_of_ble_eq_true rfl, Or.inr (q_rc hI0.1 kx_231 rfl)⟩ ?_
  show At _ none _ _ (0, [(0, .ref 231), (1, .int a1)], [], (_, _)) _
  refine At.enter rfl ?_
  refine r_aload_n rfl ?_
  refine r_iconst 0 rfl ?_
  refine q_putI (Sh.int hI0.1 kx_231 rfl) rfl ?_
  have hI183 := HI.wI0 hI0 kx_231 rfl (p := 231) (b := 0) (v := 0) rfl
  have hF184 := Fr.wI (p := 231) (b := 0) (v := 0) hF0 rfl
  refine r_aload_n rfl ?_
  refine r_iload_n rfl ?_
  refine q_inlV 10 rfl [.ref 231, .int a1] [] (Nat.le_of_ble_eq_true rfl) rfl ?_
  refine Ev.mk rfl rfl ⟨Nat.le_of_ble_eq_true rfl, Or.inr (q_rc hI183.1 kx_231 rfl)⟩ ?_
  show At _ none _ _ (0, [(0, .ref 231), (1, .int a1)], [], (_, _)) _
  refine At.enter rfl ?_
  refine r_iload_n rfl ?_
  refine q_i2l (fun v185 hv185 => ?_)
  refine r_lconst 0 rfl ?_
  refine r_aload_n rfl ?_
  refine q_getR (Sh.ref hI183.1 kx_231 rfl) ?_
  refine r_iconst 1 rfl ?_
  obtain ⟨v186, hv186⟩ : ∃ v, eA g0 233 1 = v := ⟨_, rfl⟩
  have tv186 := congrArg Int32.toInt hv186
  have wv186 := HI.t1 hI0
  rw [hv186] at wv186
  refine q_iald (Sh.arr hI183.1 ka_233) 1 rfl (by decide) v186 ((eA_c (gA_sI)).trans hv186) ?_
  refine q_i2l (fun v187 hv187 => ?_)
  refine r_lconst 1 rfl ?_
  refine q_lsub (v187.toInt - 1) rfl (by omega) (fun v188 hv188 => ?_)
  refine q_inlS 15 rfl [.long v185, .long 0, .long v188] [] (Nat.le_of_ble_eq_true rfl) rfl ?_
  refine Ev.mk rfl rfl ⟨Nat.le_of_ble_eq_true rfl, Or.inl rfl⟩ ?_
  show At _ none _ _ (0, [(0, .long v185), (2, .long 0), (4, .long v188)], [], (_, _)) _
  refine At.enter rfl ?_
  refine r_lload_n rfl ?_
  refine r_lload_n rfl ?_
  refine r_lcmp _ rfl ?_
  refine r_ifs 6 rfl (fun c189 => ?_) (fun c189 => ?_)
  · have c189_ : v185.toInt < 0 := en_j_lt_t c189
    refine At.enter rfl ?_
    refine r_iconst 0 rfl ?_
    refine Ar.fall 18 rfl ?_
    refine At.enter rfl ?_
    refine q_iretz (by decide) ?_
    refine At.enter rfl ?_
    refine q_iretz (by decide) ?_
    refine At.enter rfl ?_
    refine r_iff 13 rfl (by decide) ?_
    refine At.enter rfl ?_
    refine r_aload_n rfl ?_
    refine r_bipush (-2) rfl ?_
    refine r_callV 19 rfl [.ref 231, .int (-2)] [] (Nat.le_of_ble_eq_true rfl) rfl (T_X11_tell_231 _ hI183 (-2) (by decide)) ?_
    rintro _ _ ⟨g190, rfl, hI191, hF192, v193, rfl, hr194⟩
    refine At.sti ?_
    have hF195 := Fr.tr hF184 hF192 rfl rfl
    have zv196 : ((-2) : Int32).toInt = (-2) := rfl
    refine At.enter rfl ?_
    refine r_ireti ?_
    have x197 := HI.eqA hI191 (p := 233) (j := 1) ((((eA_c (hF192.2.1 233 (by decide))).trans (eA_c gA_sI)).trans hv186))
    obtain ⟨v198, hv198⟩ : ∃ v, eA g0 233 0 = v := ⟨_, rfl⟩
    have tv198 := congrArg Int32.toInt hv198
    have wv198 := HI.t0 hI0
    rw [hv198] at wv198
    have tv198 := congrArg Int32.toInt hv198
    have x199 := HI.eqA hI191 (p := 233) (j := 0) ((((eA_c (hF192.2.1 233 (by decide))).trans (eA_c gA_sI)).trans hv198))
    obtain ⟨v200, hv200⟩ : ∃ v, eA g0 233 4 = v := ⟨_, rfl⟩
    have wv200 := HI.t4 hI0
    rw [hv200] at wv200
    have tv200 := congrArg Int32.toInt hv200
    have x201 := HI.eqA hI191 (p := 233) (j := 4) ((((eA_c (hF192.2.1 233 (by decide))).trans (eA_c gA_sI)).trans hv200))
    obtain ⟨v202, hv202⟩ : ∃ v, eA g0 233 5 = v := ⟨_, rfl⟩
    have wv202 := HI.t5 hI0
    rw [hv202] at wv202
    have tv202 := congrArg Int32.toInt hv202
    have x203 := HI.eqA hI191 (p := 233) (j := 5) ((((eA_c (hF192.2.1 233 (by decide))).trans (eA_c gA_sI)).trans hv202))
    obtain ⟨v204, hv204⟩ : ∃ v, eA g0 233 6 = v := ⟨_, rfl⟩
    have wv204 := HI.t6 hI0
    rw [hv204] at wv204
    have tv204 := congrArg Int32.toInt hv204
    have x205 := HI.eqA hI191 (p := 233) (j := 6) ((((eA_c (hF192.2.1 233 (by decide))).trans (eA_c gA_sI)).trans hv204))
    have x206 := HI.eqA hI0 (p := 233) (j := 1) (hv186)
    have x207 := HI.eqA hI0 (p := 233) (j := 0) (hv198)
    have x208 := HI.eqA hI0 (p := 233) (j := 4) (hv200)
    have x209 := HI.eqA hI0 (p := 233) (j := 5) (hv202)
    have x210 := HI.eqA hI0 (p := 233) (j := 6) (hv204)
    exact ⟨_, rfl, hI191, hF195, _, rfl, by omega, ⟨⟨by omega, by omega, by omega, by omega, by omega, by omega⟩, (by intro i i0 i1; refine (eA_ti (((hF192.2.1 233 (by decide)).trans (gA_sI)))).trans ?_; (first | rfl | exact eA_ix (by omega) | omega)), (by intro i i0 i1; refine (eA_ti (((hF192.2.1 233 (by decide)).trans (gA_sI)))).trans ?_; (first | rfl | exact eA_ix (by omega) | omega)), (by intro i i0 i1; refine Eq.trans ?_ (if_neg (show ¬ ((0 ≤ a1.toInt ∧ a1.toInt < (eA g0 233 1).toInt) ∧ 46 + 6 * a1.toInt ≤ i ∧ i < 88) from by omega)).symm; refine (eA_ti (((hF192.2.1 233 (by decide)).trans (gA_sI)))).trans ?_; (first | rfl | exact eA_ix (by omega) | omega))⟩⟩
  · have c189_ : v185.toInt ≥ 0 := en_j_lt_f c189
    refine At.enter rfl ?_
    refine r_lload_n rfl ?_
    refine r_lload rfl ?_
    refine r_lcmp _ rfl ?_
    refine r_ifs 13 rfl (fun c211 => ?_) (fun c211 => ?_)
    · have c211_ : v185.toInt > v188.toInt := en_j_gt_t c211
      refine At.enter rfl ?_
      refine r_iconst 0 rfl ?_
      refine Ar.fall 18 rfl ?_
      refine At.enter rfl ?_
      refine q_iretz (by decide) ?_
      refine At.enter rfl ?_
      refine q_iretz (by decide) ?_
      refine At.enter rfl ?_
      refine r_iff 13 rfl (by decide) ?_
      refine At.enter rfl ?_
      refine r_aload_n rfl ?_
      refine r_bipush (-2) rfl ?_
      refine r_callV 19 rfl [.ref 231, .int (-2)] [] (Nat.le_of_ble_eq_true rfl) rfl (T_X11_tell_231 _ hI183 (-2) (by decide)) ?_
      rintro _ _ ⟨g212, rfl, hI213, hF214, v215, rfl, hr216⟩
      refine At.sti ?_
      have hF217 := Fr.tr hF184 hF214 rfl rfl
      have zv218 : ((-2) : Int32).toInt = (-2) := rfl
      refine At.enter rfl ?_
      refine r_ireti ?_
      have x219 := HI.eqA hI213 (p := 233) (j := 1) ((((eA_c (hF214.2.1 233 (by decide))).trans (eA_c gA_sI)).trans hv186))
      obtain ⟨v220, hv220⟩ : ∃ v, eA g0 233 0 = v := ⟨_, rfl⟩
      have tv220 := congrArg Int32.toInt hv220
      have wv220 := HI.t0 hI0
      rw [hv220] at wv220
      have tv220 := congrArg Int32.toInt hv220
      have x221 := HI.eqA hI213 (p := 233) (j := 0) ((((eA_c (hF214.2.1 233 (by decide))).trans (eA_c gA_sI)).trans hv220))
      obtain ⟨v222, hv222⟩ : ∃ v, eA g0 233 4 = v := ⟨_, rfl⟩
      have wv222 := HI.t4 hI0
      rw [hv222] at wv222
      have tv222 := congrArg Int32.toInt hv222
      have x223 := HI.eqA hI213 (p := 233) (j := 4) ((((eA_c (hF214.2.1 233 (by decide))).trans (eA_c gA_sI)).trans hv222))
      obtain ⟨v224, hv224⟩ : ∃ v, eA g0 233 5 = v := ⟨_, rfl⟩
      have wv224 := HI.t5 hI0
      rw [hv224] at wv224
      have tv224 := congrArg Int32.toInt hv224
      have x225 := HI.eqA hI213 (p := 233) (j := 5) ((((eA_c (hF214.2.1 233 (by decide))).trans (eA_c gA_sI)).trans hv224))
      obtain ⟨v226, hv226⟩ : ∃ v, eA g0 233 6 = v := ⟨_, rfl⟩
      have wv226 := HI.t6 hI0
      rw [hv226] at wv226
      have tv226 := congrArg Int32.toInt hv226
      have x227 := HI.eqA hI213 (p := 233) (j := 6) ((((eA_c (hF214.2.1 233 (by decide))).trans (eA_c gA_sI)).trans hv226))
      have x228 := HI.eqA hI0 (p := 233) (j := 1) (hv186)
      have x229 := HI.eqA hI0 (p := 233) (j := 0) (hv220)
      have x230 := HI.eqA hI0 (p := 233) (j := 4) (hv222)
      have x231 := HI.eqA hI0 (p := 233) (j := 5) (hv224)
      have x232 := HI.eqA hI0 (p := 233) (j := 6) (hv226)
      exact ⟨_, rfl, hI213, hF217, _, rfl, by omega, ⟨⟨by omega, by omega, by omega, by omega, by omega, by omega⟩, (by intro i i0 i1; refine (eA_ti (((hF214.2.1 233 (by decide)).trans (gA_sI)))).trans ?_; (first | rfl | exact eA_ix (by omega) | omega)), (by intro i i0 i1; refine (eA_ti (((hF214.2.1 233 (by decide)).trans (gA_sI)))).trans ?_; (first | rfl | exact eA_ix (by omega) | omega)), (by intro i i0 i1; refine Eq.trans ?_ (if_neg (show ¬ ((0 ≤ a1.toInt ∧ a1.toInt < (eA g0 233 1).toInt) ∧ 46 + 6 * a1.toInt ≤ i ∧ i < 88) from by omega)).symm; refine (eA_ti (((hF214.2.1 233 (by decide)).trans (gA_sI)))).trans ?_; (first | rfl | exact eA_ix (by omega) | omega))⟩⟩
    · have c211_ : v185.toInt ≤ v188.toInt := en_j_gt_f c211
      refine At.enter rfl ?_
      refine r_iconst 1 rfl ?_
      refine r_goto ?_
      refine At.enter rfl ?_
      refine q_iretz (by decide) ?_
      refine At.enter rfl ?_
      refine q_iretz (by decide) ?_
      refine At.enter rfl ?_
      refine r_ift (by decide) ?_
      refine At.enter rfl ?_
      refine r_bipush 46 rfl ?_
      refine r_bipush 6 rfl ?_
      refine r_iload_n rfl ?_
      refine q_imul (6 * a1.toInt) rfl (by omega) (fun v233 hv233 => ?_)
      refine q_iadd (46 + v233.toInt) rfl (by omega) (fun v234 hv234 => ?_)
      refine r_istore_n ([(2, .int v234), (0, .ref 231), (1, .int a1)]) rfl ?_
      refine Ar.fall 28 rfl ?_
      obtain ⟨v235, hv235⟩ : ∃ v, eA g0 233 0 = v := ⟨_, rfl⟩
      have tv235 := congrArg Int32.toInt hv235
      have wv235 := HI.t0 hI0
      rw [hv235] at wv235
      have tv235 := congrArg Int32.toInt hv235
      obtain ⟨v236, hv236⟩ : ∃ v, eA g0 233 4 = v := ⟨_, rfl⟩
      have wv236 := HI.t4 hI0
      rw [hv236] at wv236
      have tv236 := congrArg Int32.toInt hv236
      obtain ⟨v237, hv237⟩ : ∃ v, eA g0 233 5 = v := ⟨_, rfl⟩
      have wv237 := HI.t5 hI0
      rw [hv237] at wv237
      have tv237 := congrArg Int32.toInt hv237
      obtain ⟨v238, hv238⟩ : ∃ v, eA g0 233 6 = v := ⟨_, rfl⟩
      have wv238 := HI.t6 hI0
      rw [hv238] at wv238
      have tv238 := congrArg Int32.toInt hv238
      refine w_loopI (fun n_ l_ g_ => ∃ x259 : Int32, n_ = 88 - x259.toInt ∧ HI g_ ∧ Fr zF_X11_drop_231 zA_X11_drop_231 g0 g_ ∧ eA g_ 233 0 = v235 ∧ eA g_ 233 1 = v186 ∧ eA g_ 233 4 = v236 ∧ eA g_ 233 5 = v237 ∧ eA g_ 233 6 = v238 ∧ en_get 0 l_ = some (.ref 231) ∧ en_get 1 l_ = some (.int a1) ∧ en_get 2 l_ = some (.int x259) ∧ (46 ≤ x259.toInt ∧ x259.toInt ≤ 88) ∧ (∀ i : Int, 46 ≤ i → i < 94 → (eA g_ 233 (i)).toInt = if 46 + 6 * a1.toInt ≤ i ∧ i < x259.toInt then (eA g0 233 (i + 6)).toInt else (eA g0 233 (i)).toInt) ∧ (∀ i : Int, 10 ≤ i → i < 46 → (eA g_ 233 (i)).toInt = (eA g0 233 (i)).toInt) ∧ (∀ i : Int, 94 ≤ i → i < 110 → (eA g_ 233 (i)).toInt = (eA g0 233 (i)).toInt)) ?_ (88 - v234.toInt) ⟨v234, by first | rfl | omega, hI183, hF184, ((eA_c gA_sI).trans hv235), ((eA_c gA_sI).trans hv186), ((eA_c gA_sI).trans hv236), ((eA_c gA_sI).trans hv237), ((eA_c gA_sI).trans hv238), rfl, rfl, rfl, by omega, (by intro i i0 i1; refine Eq.trans ?_ (if_neg (show ¬ (46 + 6 * a1.toInt ≤ i ∧ i < v234.toInt) from by omega)).symm; refine (eA_ti ((gA_sI))).trans ?_; (first | rfl | exact eA_ix (by omega) | omega)), (by intro i i0 i1; refine (eA_ti ((gA_sI))).trans ?_; (first | rfl | exact eA_ix (by omega) | omega)), (by intro i i0 i1; refine (eA_ti ((gA_sI))).trans ?_; (first | rfl | exact eA_ix (by omega) | omega))⟩
      rintro n264 l263 g260 ⟨x259, hm278, hI261, hF262, e266, e267, e268, e269, e270, e271, e272, e273, r274, q275, q276, q277⟩ ih265
      have tv279 := congrArg Int32.toInt e266
      have tv280 := congrArg Int32.toInt e267
      have tv281 := congrArg Int32.toInt e268
      have tv282 := congrArg Int32.toInt e269
      have tv283 := congrArg Int32.toInt e270
      refine At.enter rfl ?_
      refine r_iload_n e273 ?_
      refine r_bipush 88 rfl ?_
      refine r_ics 34 rfl (fun c284 => ?_) (fun c284 => ?_)
      · have c284_ : x259.toInt ≥ 88 := en_i_ge_t c284
        refine At.enter rfl ?_
        refine r_aload_n e271 ?_
        refine q_getR (Sh.ref hI261.1 kx_231 rfl) ?_
        refine r_iconst 1 rfl ?_
        refine r_dup2 ⟨rfl, rfl⟩ ?_
        refine q_iald (Sh.arr hI261.1 ka_233) 1 rfl (by decide) v186 e267 ?_
        refine r_iconst 1 rfl ?_
        refine q_isub (v186.toInt - 1) rfl (by omega) (fun v285 hv285 => ?_)
        refine q_iast (Sh.arr hI261.1 ka_233) (1) rfl (by decide) ?_
        have x288 := HI.eqA hI261 (p := 233) (j := 0) (e266)
        have x289 := HI.eqA hI261 (p := 233) (j := 1) (e267)
        have yv290 := HI.lt hI261
        have hI286 := HI.wt hI261 (j := 1) (v := v285) (by omega) (by omega)
        have hF287 := Fr.wA (p := 233) (j := 1) (v := v285) hF262 rfl
        refine r_aload_n e271 ?_
        refine r_aload_n e271 ?_
        refine q_getR (Sh.ref hI286.1 kx_231 rfl) ?_
        refine r_iconst 1 rfl ?_
        refine q_iald (Sh.arr hI286.1 ka_233) 1 rfl (by decide) v285 (eA_sA_eq hI261.1 ka_233 (by first | rfl | omega) (by first | decide | omega) (by first | decide | omega)) ?_
        refine r_callV 75 rfl [.ref 231, .int v285] [] (Nat.le_of_ble_eq_true rfl) rfl (T_X11_tell_231 _ hI286 v285 (by omega)) ?_
        rintro _ _ ⟨g291, rfl, hI292, hF293, v294, rfl, hr295⟩
        refine At.sti ?_
        have hF296 := Fr.tr hF287 hF293 rfl rfl
        refine At.enter rfl ?_
        refine r_ireti ?_
        have x297 := HI.eqA hI292 (p := 233) (j := 1) (((eA_c (hF293.2.1 233 (by decide))).trans (eA_sA_eq hI261.1 ka_233 (by first | rfl | omega) (by first | decide | omega) (by first | decide | omega))))
        have x298 := HI.eqA hI292 (p := 233) (j := 0) ((((eA_c (hF293.2.1 233 (by decide))).trans (eA_sA_ne hI261.1 ka_233 (by first | decide | omega) (by first | decide | omega) (by first | decide | omega))).trans e266))
        have x299 := HI.eqA hI292 (p := 233) (j := 4) ((((eA_c (hF293.2.1 233 (by decide))).trans (eA_sA_ne hI261.1 ka_233 (by first | decide | omega) (by first | decide | omega) (by first | decide | omega))).trans e268))
        have x300 := HI.eqA hI292 (p := 233) (j := 5) ((((eA_c (hF293.2.1 233 (by decide))).trans (eA_sA_ne hI261.1 ka_233 (by first | decide | omega) (by first | decide | omega) (by first | decide | omega))).trans e269))
        have x301 := HI.eqA hI292 (p := 233) (j := 6) ((((eA_c (hF293.2.1 233 (by decide))).trans (eA_sA_ne hI261.1 ka_233 (by first | decide | omega) (by first | decide | omega) (by first | decide | omega))).trans e270))
        have x302 := HI.eqA hI0 (p := 233) (j := 1) (hv186)
        have x303 := HI.eqA hI0 (p := 233) (j := 0) (hv235)
        have x304 := HI.eqA hI0 (p := 233) (j := 4) (hv236)
        have x305 := HI.eqA hI0 (p := 233) (j := 5) (hv237)
        have x306 := HI.eqA hI0 (p := 233) (j := 6) (hv238)
        exact ⟨_, rfl, hI292, hF296, _, rfl, by omega, ⟨⟨by omega, by omega, by omega, by omega, by omega, by omega⟩, (by intro i i0 i1; refine (eA_ti ((hF293.2.1 233 (by decide)))).trans ?_; exact (Decidable.em (i = 1)).elim (fun k402_ => by refine (eA_eqT hI261.1 ka_233 k402_ (by first | decide | omega) (by first | decide | omega)).trans ?_; (first | (rfl) | (omega))) (fun k402_ => by refine (eA_neT hI261.1 ka_233 k402_ (by first | decide | omega) (by omega)).trans ?_; (first | (refine ((q275 (i) (by omega) (by omega))).trans ?_; exact (Decidable.em (46 + 6 * a1.toInt ≤ (i) ∧ (i) < x259.toInt)).elim (fun k403_ => by refine (if_pos k403_).trans ?_; (first | rfl | exact eA_ix (by omega) | omega)) (fun k403_ => by refine (if_neg k403_).trans ?_; (first | rfl | exact eA_ix (by omega) | omega))) | (refine ((q276 (i) (by omega) (by omega))).trans ?_; (first | rfl | exact eA_ix (by omega) | omega)) | (refine ((q277 (i) (by omega) (by omega))).trans ?_; (first | rfl | exact eA_ix (by omega) | omega))))), (by intro i i0 i1; refine (eA_ti ((hF293.2.1 233 (by decide)))).trans ?_; exact (Decidable.em (i = 1)).elim (fun k404_ => by refine (eA_eqT hI261.1 ka_233 k404_ (by first | decide | omega) (by first | decide | omega)).trans ?_; (first | (rfl) | (omega))) (fun k404_ => by refine (eA_neT hI261.1 ka_233 k404_ (by first | decide | omega) (by omega)).trans ?_; (first | (refine ((q275 (i) (by omega) (by omega))).trans ?_; exact (Decidable.em (46 + 6 * a1.toInt ≤ (i) ∧ (i) < x259.toInt)).elim (fun k405_ => by refine (if_pos k405_).trans ?_; (first | rfl | exact eA_ix (by omega) | omega)) (fun k405_ => by refine (if_neg k405_).trans ?_; (first | rfl | exact eA_ix (by omega) | omega))) | (refine ((q276 (i) (by omega) (by omega))).trans ?_; (first | rfl | exact eA_ix (by omega) | omega)) | (refine ((q277 (i) (by omega) (by omega))).trans ?_; (first | rfl | exact eA_ix (by omega) | omega))))), (by intro i i0 i1; exact (Decidable.em ((0 ≤ a1.toInt ∧ a1.toInt < (eA g0 233 1).toInt) ∧ 46 + 6 * a1.toInt ≤ i ∧ i < 88)).elim (fun k406_ => by refine Eq.trans ?_ (if_pos k406_).symm; refine (eA_ti ((hF293.2.1 233 (by decide)))).trans ?_; exact (Decidable.em (i = 1)).elim (fun k407_ => by refine (eA_eqT hI261.1 ka_233 k407_ (by first | decide | omega) (by first | decide | omega)).trans ?_; (first | (rfl) | (omega))) (fun k407_ => by refine (eA_neT hI261.1 ka_233 k407_ (by first | decide | omega) (by omega)).trans ?_; (first | (refine ((q275 (i) (by omega) (by omega))).trans ?_; exact (Decidable.em (46 + 6 * a1.toInt ≤ (i) ∧ (i) < x259.toInt)).elim (fun k408_ => by refine (if_pos k408_).trans ?_; (first | rfl | exact eA_ix (by omega) | omega)) (fun k408_ => by refine (if_neg k408_).trans ?_; (first | rfl | exact eA_ix (by omega) | omega))) | (refine ((q276 (i) (by omega) (by omega))).trans ?_; (first | rfl | exact eA_ix (by omega) | omega)) | (refine ((q277 (i) (by omega) (by omega))).trans ?_; (first | rfl | exact eA_ix (by omega) | omega))))) (fun k406_ => by refine Eq.trans ?_ (if_neg k406_).symm; refine (eA_ti ((hF293.2.1 233 (by decide)))).trans ?_; exact (Decidable.em (i = 1)).elim (fun k409_ => by refine (eA_eqT hI261.1 ka_233 k409_ (by first | decide | omega) (by first | decide | omega)).trans ?_; (first | (rfl) | (omega))) (fun k409_ => by refine (eA_neT hI261.1 ka_233 k409_ (by first | decide | omega) (by omega)).trans ?_; (first | (refine ((q275 (i) (by omega) (by omega))).trans ?_; exact (Decidable.em (46 + 6 * a1.toInt ≤ (i) ∧ (i) < x259.toInt)).elim (fun k410_ => by refine (if_pos k410_).trans ?_; (first | rfl | exact eA_ix (by omega) | omega)) (fun k410_ => by refine (if_neg k410_).trans ?_; (first | rfl | exact eA_ix (by omega) | omega))) | (refine ((q276 (i) (by omega) (by omega))).trans ?_; (first | rfl | exact eA_ix (by omega) | omega)) | (refine ((q277 (i) (by omega) (by omega))).trans ?_; (first | rfl | exact eA_ix (by omega) | omega))))))⟩⟩
      · have c284_ : x259.toInt < 88 := en_i_ge_f c284
        refine At.enter rfl ?_
        refine r_aload_n e271 ?_
        refine q_getR (Sh.ref hI261.1 kx_231 rfl) ?_
        refine r_iload_n e273 ?_
        refine r_aload_n e271 ?_
        refine q_getR (Sh.ref hI261.1 kx_231 rfl) ?_
        refine r_iload_n e273 ?_
        refine r_bipush 6 rfl ?_
        refine q_iadd (x259.toInt + 6) rfl (by omega) (fun v307 hv307 => ?_)
        obtain ⟨v308, hv308⟩ : ∃ v, eA g260 233 (x259.toInt + 6) = v := ⟨_, rfl⟩
        refine q_iald (Sh.arr hI261.1 ka_233) (x259.toInt + 6) (by omega) (by omega) v308 hv308 ?_
        refine q_iast (Sh.arr hI261.1 ka_233) (x259.toInt) rfl (by omega) ?_
        have hI309 := HI.wcp hI261 (k := x259.toInt) (by omega) (by omega) hv308
        have hF310 := Fr.wA (p := 233) (j := x259.toInt) (v := v308) hF262 rfl
        refine q_iinc e273 (x259.toInt + 1) rfl (by omega) (fun v311 hv311 => ?_)
        refine r_goto ?_
        exact ih265 (88 - v311.toInt) _ _ ⟨v311, by first | rfl | omega, hI309, hF310, ((eA_sA_ne hI261.1 ka_233 (by first | decide | omega) (by first | decide | omega) (by first | decide | omega)).trans e266), ((eA_sA_ne hI261.1 ka_233 (by first | decide | omega) (by first | decide | omega) (by first | decide | omega)).trans e267), ((eA_sA_ne hI261.1 ka_233 (by first | decide | omega) (by first | decide | omega) (by first | decide | omega)).trans e268), ((eA_sA_ne hI261.1 ka_233 (by first | decide | omega) (by first | decide | omega) (by first | decide | omega)).trans e269), ((eA_sA_ne hI261.1 ka_233 (by first | decide | omega) (by first | decide | omega) (by first | decide | omega)).trans e270), (w_p1 (by decide) (Or.inr rfl) e271), (w_p1 (by decide) (Or.inr rfl) e272), (w_e1 _ _ _), by omega, (by intro i i0 i1; exact (Decidable.em (46 + 6 * a1.toInt ≤ i ∧ i < v311.toInt)).elim (fun k411_ => by refine Eq.trans ?_ (if_pos k411_).symm; exact (Decidable.em (i = x259.toInt)).elim (fun k412_ => by refine (eA_eqT hI261.1 ka_233 k412_ (by first | decide | omega) (by first | decide | omega)).trans ?_; (first | (rfl) | (omega) | (refine (congrArg Int32.toInt hv308).symm.trans ?_; (first | (refine ((q275 ((x259.toInt + 6)) (by omega) (by omega))).trans ?_; exact (Decidable.em (46 + 6 * a1.toInt ≤ ((x259.toInt + 6)) ∧ ((x259.toInt + 6)) < x259.toInt)).elim (fun k413_ => by refine (if_pos k413_).trans ?_; (first | rfl | exact eA_ix (by omega) | omega)) (fun k413_ => by refine (if_neg k413_).trans ?_; (first | rfl | exact eA_ix (by omega) | omega))) | (refine ((q276 ((x259.toInt + 6)) (by omega) (by omega))).trans ?_; (first | rfl | exact eA_ix (by omega) | omega)) | (refine ((q277 ((x259.toInt + 6)) (by omega) (by omega))).trans ?_; (first | rfl | exact eA_ix (by omega) | omega)))))) (fun k412_ => by refine (eA_neT hI261.1 ka_233 k412_ (by first | decide | omega) (by omega)).trans ?_; (first | (refine ((q275 (i) (by omega) (by omega))).trans ?_; exact (Decidable.em (46 + 6 * a1.toInt ≤ (i) ∧ (i) < x259.toInt)).elim (fun k414_ => by refine (if_pos k414_).trans ?_; (first | rfl | exact eA_ix (by omega) | omega)) (fun k414_ => by refine (if_neg k414_).trans ?_; (first | rfl | exact eA_ix (by omega) | omega))) | (refine ((q276 (i) (by omega) (by omega))).trans ?_; (first | rfl | exact eA_ix (by omega) | omega)) | (refine ((q277 (i) (by omega) (by omega))).trans ?_; (first | rfl | exact eA_ix (by omega) | omega))))) (fun k411_ => by refine Eq.trans ?_ (if_neg k411_).symm; exact (Decidable.em (i = x259.toInt)).elim (fun k415_ => by refine (eA_eqT hI261.1 ka_233 k415_ (by first | decide | omega) (by first | decide | omega)).trans ?_; (first | (rfl) | (omega) | (refine (congrArg Int32.toInt hv308).symm.trans ?_; (first | (refine ((q275 ((x259.toInt + 6)) (by omega) (by omega))).trans ?_; exact (Decidable.em (46 + 6 * a1.toInt ≤ ((x259.toInt + 6)) ∧ ((x259.toInt + 6)) < x259.toInt)).elim (fun k416_ => by refine (if_pos k416_).trans ?_; (first | rfl | exact eA_ix (by omega) | omega)) (fun k416_ => by refine (if_neg k416_).trans ?_; (first | rfl | exact eA_ix (by omega) | omega))) | (refine ((q276 ((x259.toInt + 6)) (by omega) (by omega))).trans ?_; (first | rfl | exact eA_ix (by omega) | omega)) | (refine ((q277 ((x259.toInt + 6)) (by omega) (by omega))).trans ?_; (first | rfl | exact eA_ix (by omega) | omega)))))) (fun k415_ => by refine (eA_neT hI261.1 ka_233 k415_ (by first | decide | omega) (by omega)).trans ?_; (first | (refine ((q275 (i) (by omega) (by omega))).trans ?_; exact (Decidable.em (46 + 6 * a1.toInt ≤ (i) ∧ (i) < x259.toInt)).elim (fun k417_ => by refine (if_pos k417_).trans ?_; (first | rfl | exact eA_ix (by omega) | omega)) (fun k417_ => by refine (if_neg k417_).trans ?_; (first | rfl | exact eA_ix (by omega) | omega))) | (refine ((q276 (i) (by omega) (by omega))).trans ?_; (first | rfl | exact eA_ix (by omega) | omega)) | (refine ((q277 (i) (by omega) (by omega))).trans ?_; (first | rfl | exact eA_ix (by omega) | omega)))))), (by intro i i0 i1; exact (Decidable.em (i = x259.toInt)).elim (fun k418_ => by refine (eA_eqT hI261.1 ka_233 k418_ (by first | decide | omega) (by first | decide | omega)).trans ?_; (first | (rfl) | (omega) | (refine (congrArg Int32.toInt hv308).symm.trans ?_; (first | (refine ((q275 ((x259.toInt + 6)) (by omega) (by omega))).trans ?_; exact (Decidable.em (46 + 6 * a1.toInt ≤ ((x259.toInt + 6)) ∧ ((x259.toInt + 6)) < x259.toInt)).elim (fun k419_ => by refine (if_pos k419_).trans ?_; (first | rfl | exact eA_ix (by omega) | omega)) (fun k419_ => by refine (if_neg k419_).trans ?_; (first | rfl | exact eA_ix (by omega) | omega))) | (refine ((q276 ((x259.toInt + 6)) (by omega) (by omega))).trans ?_; (first | rfl | exact eA_ix (by omega) | omega)) | (refine ((q277 ((x259.toInt + 6)) (by omega) (by omega))).trans ?_; (first | rfl | exact eA_ix (by omega) | omega)))))) (fun k418_ => by refine (eA_neT hI261.1 ka_233 k418_ (by first | decide | omega) (by omega)).trans ?_; (first | (refine ((q275 (i) (by omega) (by omega))).trans ?_; exact (Decidable.em (46 + 6 * a1.toInt ≤ (i) ∧ (i) < x259.toInt)).elim (fun k420_ => by refine (if_pos k420_).trans ?_; (first | rfl | exact eA_ix (by omega) | omega)) (fun k420_ => by refine (if_neg k420_).trans ?_; (first | rfl | exact eA_ix (by omega) | omega))) | (refine ((q276 (i) (by omega) (by omega))).trans ?_; (first | rfl | exact eA_ix (by omega) | omega)) | (refine ((q277 (i) (by omega) (by omega))).trans ?_; (first | rfl | exact eA_ix (by omega) | omega))))), (by intro i i0 i1; exact (Decidable.em (i = x259.toInt)).elim (fun k421_ => by refine (eA_eqT hI261.1 ka_233 k421_ (by first | decide | omega) (by first | decide | omega)).trans ?_; (first | (rfl) | (omega) | (refine (congrArg Int32.toInt hv308).symm.trans ?_; (first | (refine ((q275 ((x259.toInt + 6)) (by omega) (by omega))).trans ?_; exact (Decidable.em (46 + 6 * a1.toInt ≤ ((x259.toInt + 6)) ∧ ((x259.toInt + 6)) < x259.toInt)).elim (fun k422_ => by refine (if_pos k422_).trans ?_; (first | rfl | exact eA_ix (by omega) | omega)) (fun k422_ => by refine (if_neg k422_).trans ?_; (first | rfl | exact eA_ix (by omega) | omega))) | (refine ((q276 ((x259.toInt + 6)) (by omega) (by omega))).trans ?_; (first | rfl | exact eA_ix (by omega) | omega)) | (refine ((q277 ((x259.toInt + 6)) (by omega) (by omega))).trans ?_; (first | rfl | exact eA_ix (by omega) | omega)))))) (fun k421_ => by refine (eA_neT hI261.1 ka_233 k421_ (by first | decide | omega) (by omega)).trans ?_; (first | (refine ((q275 (i) (by omega) (by omega))).trans ?_; exact (Decidable.em (46 + 6 * a1.toInt ≤ (i) ∧ (i) < x259.toInt)).elim (fun k423_ => by refine (if_pos k423_).trans ?_; (first | rfl | exact eA_ix (by omega) | omega)) (fun k423_ => by refine (if_neg k423_).trans ?_; (first | rfl | exact eA_ix (by omega) | omega))) | (refine ((q276 (i) (by omega) (by omega))).trans ?_; (first | rfl | exact eA_ix (by omega) | omega)) | (refine ((q277 (i) (by omega) (by omega))).trans ?_; (first | rfl | exact eA_ix (by omega) | omega)))))⟩ ⟨by omega, by omega⟩

def zF_X11_four_231 : List (Nat × Nat) := [(231, 8)]
def zA_X11_four_231 : List Nat := [236]
set_option maxRecDepth 100000 in
set_option maxHeartbeats 4000000 in
theorem zT_X11_four_231 (d : Nat) {N : Nat} {g0 : List en_E} (hI0 : HI g0) (a1 : Int32) (h4 : (gI g0 231 8).toInt ≤ 396) : Ev (d + 1) 184 [.ref 231, .int a1] (g0, N) (fun w h' => ∃ g', h' = (g', N) ∧ HI g' ∧ Fr zF_X11_four_231 zA_X11_four_231 g0 g' ∧ w = none ∧ (((gI g' 231 8).toInt = (gI g0 231 8).toInt + 4) ∧ (∀ i : Int, 0 ≤ i → i < 400 → (eA g' 236 (i)).toInt = if (gI g0 231 8).toInt ≤ i ∧ i < (gI g0 231 8).toInt + 4 then BYT a1 (i - (gI g0 231 8).toInt) else (eA g0 236 (i)).toInt))) := by
  have hF0 : Fr zF_X11_four_231 zA_X11_four_231 g0 g0 := Fr.rf
  refine Ev.mk rfl rfl ⟨Nat.le_of_ble_eq_true rfl, Or.inr (q_rc hI0.1 kx_231 rfl)⟩ ?_
  show At _ none _ _ (0, [(0, .ref 231), (1, .int a1)], [], (_, _)) _
  refine At.enter rfl ?_
  refine r_bipush 24 rfl ?_
  refine r_istore_n ([(2, .int 24), (0, .ref 231), (1, .int a1)]) rfl ?_
  refine Ar.fall 3 rfl ?_
  obtain ⟨v273, hv273⟩ : ∃ v, gI g0 231 8 = v := ⟨_, rfl⟩
  have rv273 := RgF.at hI0.2.1 (p := 231) (b := 8) rfl
  rw [hv273] at rv273
  dsimp only at rv273
  have tv273 := congrArg Int32.toInt hv273
  have z_398 : (24 : Int32).toInt = 24 := rfl
  refine w_loopI (fun n_ l_ g_ => ∃ x382 : Int32, ∃ x383 : Int32, n_ = x382.toInt + 8 ∧ HI g_ ∧ Fr zF_X11_four_231 zA_X11_four_231 g0 g_ ∧ gI g_ 231 8 = x383 ∧ en_get 0 l_ = some (.ref 231) ∧ en_get 1 l_ = some (.int a1) ∧ en_get 2 l_ = some (.int x382) ∧ ((-8) ≤ x382.toInt ∧ x382.toInt ≤ 24) ∧ (0 ≤ x383.toInt ∧ x383.toInt ≤ 400) ∧ (8 * x383.toInt + x382.toInt = 8 * (gI g0 231 8).toInt + 24) ∧ (∀ i : Int, 0 ≤ i → i < 400 → (eA g_ 236 (i)).toInt = if (gI g0 231 8).toInt ≤ i ∧ i < x383.toInt then BYT a1 (i - (gI g0 231 8).toInt) else (eA g0 236 (i)).toInt)) ?_ (24 + 8) ⟨24, v273, by first | rfl | omega, hI0, hF0, hv273, rfl, rfl, rfl, by decide, by omega, by omega, (by intro i i0 i1; refine Eq.trans ?_ (if_neg (show ¬ ((gI g0 231 8).toInt ≤ i ∧ i < v273.toInt) from by omega)).symm; (first | rfl | exact eA_ix (by omega) | omega))⟩
  rintro n388 l387 g384 ⟨x382, x383, hm399, hI385, hF386, e390, e391, e392, e393, r394, r395, q396, q397⟩ ih389
  refine At.enter rfl ?_
  refine r_iload_n e393 ?_
  refine r_ifs 7 rfl (fun c400 => ?_) (fun c400 => ?_)
  · have c400_ : x382.toInt < 0 := en_k_lt_t c400
    refine At.enter rfl ?_
    refine r_vret ?_
    have x401 := HI.eqI hI385 (p := 231) (b := 8) (e390)
    have x402 := HI.eqI hI0 (p := 231) (b := 8) (hv273)
    exact ⟨_, rfl, hI385, hF386, rfl, ⟨(by rw [e390]; omega), (by intro i i0 i1; exact (Decidable.em ((gI g0 231 8).toInt ≤ i ∧ i < (gI g0 231 8).toInt + 4)).elim (fun k426_ => by refine Eq.trans ?_ (if_pos k426_).symm; refine ((q397 (i) (by omega) (by omega))).trans ?_; exact (Decidable.em ((gI g0 231 8).toInt ≤ (i) ∧ (i) < x383.toInt)).elim (fun k427_ => by refine (if_pos k427_).trans ?_; (first | rfl | exact eA_ix (by omega) | omega)) (fun k427_ => by refine (if_neg k427_).trans ?_; (first | rfl | exact eA_ix (by omega) | omega))) (fun k426_ => by refine Eq.trans ?_ (if_neg k426_).symm; refine ((q397 (i) (by omega) (by omega))).trans ?_; exact (Decidable.em ((gI g0 231 8).toInt ≤ (i) ∧ (i) < x383.toInt)).elim (fun k428_ => by refine (if_pos k428_).trans ?_; (first | rfl | exact eA_ix (by omega) | omega)) (fun k428_ => by refine (if_neg k428_).trans ?_; (first | rfl | exact eA_ix (by omega) | omega))))⟩⟩
  · have c400_ : x382.toInt ≥ 0 := en_k_lt_f c400
    refine At.enter rfl ?_
    refine r_aload_n e391 ?_
    refine q_getR (Sh.ref hI385.1 kx_231 rfl) ?_
    refine r_aload_n e391 ?_
    refine q_getI (Sh.int hI385.1 kx_231 rfl) x383 e390 ?_
    refine r_iload_n e392 ?_
    refine r_iload_n e393 ?_
    refine q_ishrO (fun v403 hv403 => ?_)
    refine r_sipush 255 rfl ?_
    refine q_iandO (fun v404 hv404 => ?_)
    refine q_iast (Sh.arr hI385.1 ka_236) (x383.toInt) rfl (by omega) ?_
    have hI405 := HI.wA0 hI385 ka_236 (p := 236) rfl rfl (x383.toInt) (v404)
    have hF406 := Fr.wA (p := 236) (j := x383.toInt) (v := v404) hF386 rfl
    refine r_aload_n e391 ?_
    refine r_dup rfl ?_
    refine q_getI (Sh.int hI405.1 kx_231 rfl) x383 ((gI_sW).trans e390) ?_
    refine r_iconst 1 rfl ?_
    refine q_iadd (x383.toInt + 1) rfl (by omega) (fun v407 hv407 => ?_)
    refine q_putI (Sh.int hI405.1 kx_231 rfl) rfl ?_
    have hI408 := HI.wI1 hI405 kx_231 rfl (p := 231) (b := 8) (v := v407) rfl (by dsimp only; omega)
    have hF409 := Fr.wI (p := 231) (b := 8) (v := v407) hF406 rfl
    refine q_iinc e393 (x382.toInt + (-8)) rfl (by omega) (fun v410 hv410 => ?_)
    refine r_goto ?_
    exact ih389 (v410.toInt + 8) _ _ ⟨v410, v407, by first | rfl | omega, hI408, hF409, (gI_sI_eq hI405.1 kx_231 rfl _), (w_p1 (by decide) (Or.inr rfl) e391), (w_p1 (by decide) (Or.inr rfl) e392), (w_e1 _ _ _), by omega, by omega, by omega, (by intro i i0 i1; exact (Decidable.em ((gI g0 231 8).toInt ≤ i ∧ i < v407.toInt)).elim (fun k429_ => by refine Eq.trans ?_ (if_pos k429_).symm; refine (eA_ti ((gA_sI))).trans ?_; exact (Decidable.em (i = x383.toInt)).elim (fun k430_ => by refine (eA_eqT hI385.1 ka_236 k430_ (by first | decide | omega) (by first | decide | omega)).trans ?_; (first | (rfl) | (omega) | (exact BYT.m (by assumption) hv404 (by omega)))) (fun k430_ => by refine (eA_neT hI385.1 ka_236 k430_ (by first | decide | omega) (by omega)).trans ?_; refine ((q397 (i) (by omega) (by omega))).trans ?_; exact (Decidable.em ((gI g0 231 8).toInt ≤ (i) ∧ (i) < x383.toInt)).elim (fun k431_ => by refine (if_pos k431_).trans ?_; (first | rfl | exact eA_ix (by omega) | omega)) (fun k431_ => by refine (if_neg k431_).trans ?_; (first | rfl | exact eA_ix (by omega) | omega)))) (fun k429_ => by refine Eq.trans ?_ (if_neg k429_).symm; refine (eA_ti ((gA_sI))).trans ?_; exact (Decidable.em (i = x383.toInt)).elim (fun k432_ => by refine (eA_eqT hI385.1 ka_236 k432_ (by first | decide | omega) (by first | decide | omega)).trans ?_; (first | (rfl) | (omega) | (exact BYT.m (by assumption) hv404 (by omega)))) (fun k432_ => by refine (eA_neT hI385.1 ka_236 k432_ (by first | decide | omega) (by omega)).trans ?_; refine ((q397 (i) (by omega) (by omega))).trans ?_; exact (Decidable.em ((gI g0 231 8).toInt ≤ (i) ∧ (i) < x383.toInt)).elim (fun k433_ => by refine (if_pos k433_).trans ?_; (first | rfl | exact eA_ix (by omega) | omega)) (fun k433_ => by refine (if_neg k433_).trans ?_; (first | rfl | exact eA_ix (by omega) | omega)))))⟩ ⟨by omega, by omega⟩

def zF_X11_feed_231 : List (Nat × Nat) := [(231, 0), (231, 8)]
def zA_X11_feed_231 : List Nat := [236]
set_option maxRecDepth 100000 in
set_option maxHeartbeats 4000000 in
theorem zT_X11_feed_231 (d : Nat) {N : Nat} {g0 : List en_E} (hI0 : HI g0) (a1 : Int32) (a2 : Int32) (a3 : Int32) (a4 : Int32) (a5 : Int32) : Ev (d + 2) 185 [.ref 231, .int a1, .int a2, .int a3, .int a4, .int a5] (g0, N) (fun w h' => ∃ g', h' = (g', N) ∧ HI g' ∧ Fr zF_X11_feed_231 zA_X11_feed_231 g0 g' ∧ ∃ r : Int32, w = some (.int r) ∧ ((-1) ≤ r.toInt ∧ r.toInt ≤ 400) ∧ (((380 < (gI g0 231 8).toInt → r.toInt = -1 ∧ (gI g' 231 8).toInt = (gI g0 231 8).toInt) ∧ ((gI g0 231 8).toInt ≤ 380 → r.toInt = (gI g0 231 8).toInt + 20 ∧ (gI g' 231 8).toInt = (gI g0 231 8).toInt + 20)) ∧ (∀ i : Int, 0 ≤ i → i < 400 → (eA g' 236 (i)).toInt = if (gI g0 231 8).toInt ≤ 380 ∧ (gI g0 231 8).toInt + 0 ≤ i ∧ i < (gI g0 231 8).toInt + 4 then BYT a1 (i - (gI g0 231 8).toInt - 0) else if (gI g0 231 8).toInt ≤ 380 ∧ (gI g0 231 8).toInt + 4 ≤ i ∧ i < (gI g0 231 8).toInt + 8 then BYT a2 (i - (gI g0 231 8).toInt - 4) else if (gI g0 231 8).toInt ≤ 380 ∧ (gI g0 231 8).toInt + 8 ≤ i ∧ i < (gI g0 231 8).toInt + 12 then BYT a3 (i - (gI g0 231 8).toInt - 8) else if (gI g0 231 8).toInt ≤ 380 ∧ (gI g0 231 8).toInt + 12 ≤ i ∧ i < (gI g0 231 8).toInt + 16 then BYT a4 (i - (gI g0 231 8).toInt - 12) else if (gI g0 231 8).toInt ≤ 380 ∧ (gI g0 231 8).toInt + 16 ≤ i ∧ i < (gI g0 231 8).toInt + 20 then BYT a5 (i - (gI g0 231 8).toInt - 16) else (eA g0 236 (i)).toInt))) := by
  have hF0 : Fr zF_X11_feed_231 zA_X11_feed_231 g0 g0 := Fr.rf
  refine Ev.mk rfl rfl ⟨Nat.le_of_ble_eq_true rfl, Or.inr (q_rc hI0.1 kx_231 rfl)⟩ ?_
  show At _ none _ _ (0, [(0, .ref 231), (1, .int a1), (2, .int a2), (3, .int a3), (4, .int a4), (5, .int a5)], [], (_, _)) _
  refine At.enter rfl ?_
  refine r_aload_n rfl ?_
  refine r_iconst 0 rfl ?_
  refine q_putI (Sh.int hI0.1 kx_231 rfl) rfl ?_
  have hI111 := HI.wI0 hI0 kx_231 rfl (p := 231) (b := 0) (v := 0) rfl
  have hF112 := Fr.wI (p := 231) (b := 0) (v := 0) hF0 rfl
  refine r_aload_n rfl ?_
  obtain ⟨v113, hv113⟩ : ∃ v, gI g0 231 8 = v := ⟨_, rfl⟩
  have rv113 := RgF.at hI0.2.1 (p := 231) (b := 8) rfl
  rw [hv113] at rv113
  dsimp only at rv113
  refine q_getI (Sh.int hI111.1 kx_231 rfl) v113 ((gI_sI_ne (by decide)).trans hv113) ?_
  refine r_bipush 20 rfl ?_
  refine q_iadd (v113.toInt + 20) rfl (by omega) (fun v114 hv114 => ?_)
  refine r_sipush 400 rfl ?_
  refine r_ics 18 rfl (fun c115 => ?_) (fun c115 => ?_)
  · have c115_ : v114.toInt ≤ 400 := en_i_le_t c115
    refine At.enter rfl ?_
    refine r_aload_n rfl ?_
    refine r_iload_n rfl ?_
    refine r_callV 25 rfl [.ref 231, .int a1] [] (Nat.le_of_ble_eq_true rfl) rfl (zT_X11_four_231 _ hI111 a1 (by rw [((gI_sI_ne (by decide)).trans hv113)]; omega)) ?_
    rintro _ _ ⟨g116, rfl, hI117, hF118, rfl, hr120⟩
    refine At.stn ?_
    have hF121 := Fr.tr hF112 hF118 rfl rfl
    obtain ⟨w122, w123⟩ := hr120
    have x124 := HI.eqI hI111 (p := 231) (b := 8) (((gI_sI_ne (by decide)).trans hv113))
    rw [((gI_sI_ne (by decide)).trans hv113)] at w122
    obtain ⟨v125, hv125⟩ : ∃ v, gI g116 231 8 = v := ⟨_, rfl⟩
    rw [hv125] at w122
    refine At.enter rfl ?_
    refine r_aload_n rfl ?_
    refine r_iload_n rfl ?_
    refine r_callV 30 rfl [.ref 231, .int a2] [] (Nat.le_of_ble_eq_true rfl) rfl (zT_X11_four_231 _ hI117 a2 (by rw [hv125]; omega)) ?_
    rintro _ _ ⟨g126, rfl, hI127, hF128, rfl, hr130⟩
    refine At.stn ?_
    have hF131 := Fr.tr hF121 hF128 rfl rfl
    obtain ⟨w132, w133⟩ := hr130
    have x134 := HI.eqI hI117 (p := 231) (b := 8) (hv125)
    rw [hv125] at w132
    obtain ⟨v135, hv135⟩ : ∃ v, gI g126 231 8 = v := ⟨_, rfl⟩
    rw [hv135] at w132
    refine At.enter rfl ?_
    refine r_aload_n rfl ?_
    refine r_iload_n rfl ?_
    refine r_callV 35 rfl [.ref 231, .int a3] [] (Nat.le_of_ble_eq_true rfl) rfl (zT_X11_four_231 _ hI127 a3 (by rw [hv135]; omega)) ?_
    rintro _ _ ⟨g136, rfl, hI137, hF138, rfl, hr140⟩
    refine At.stn ?_
    have hF141 := Fr.tr hF131 hF138 rfl rfl
    obtain ⟨w142, w143⟩ := hr140
    have x144 := HI.eqI hI127 (p := 231) (b := 8) (hv135)
    rw [hv135] at w142
    obtain ⟨v145, hv145⟩ : ∃ v, gI g136 231 8 = v := ⟨_, rfl⟩
    rw [hv145] at w142
    refine At.enter rfl ?_
    refine r_aload_n rfl ?_
    refine r_iload rfl ?_
    refine r_callV 41 rfl [.ref 231, .int a4] [] (Nat.le_of_ble_eq_true rfl) rfl (zT_X11_four_231 _ hI137 a4 (by rw [hv145]; omega)) ?_
    rintro _ _ ⟨g146, rfl, hI147, hF148, rfl, hr150⟩
    refine At.stn ?_
    have hF151 := Fr.tr hF141 hF148 rfl rfl
    obtain ⟨w152, w153⟩ := hr150
    have x154 := HI.eqI hI137 (p := 231) (b := 8) (hv145)
    rw [hv145] at w152
    obtain ⟨v155, hv155⟩ : ∃ v, gI g146 231 8 = v := ⟨_, rfl⟩
    rw [hv155] at w152
    refine At.enter rfl ?_
    refine r_aload_n rfl ?_
    refine r_iload rfl ?_
    refine r_callV 47 rfl [.ref 231, .int a5] [] (Nat.le_of_ble_eq_true rfl) rfl (zT_X11_four_231 _ hI147 a5 (by rw [hv155]; omega)) ?_
    rintro _ _ ⟨g156, rfl, hI157, hF158, rfl, hr160⟩
    refine At.stn ?_
    have hF161 := Fr.tr hF151 hF158 rfl rfl
    obtain ⟨w162, w163⟩ := hr160
    have x164 := HI.eqI hI147 (p := 231) (b := 8) (hv155)
    rw [hv155] at w162
    obtain ⟨v165, hv165⟩ : ∃ v, gI g156 231 8 = v := ⟨_, rfl⟩
    rw [hv165] at w162
    refine At.enter rfl ?_
    refine r_aload_n rfl ?_
    refine q_getI (Sh.int hI157.1 kx_231 rfl) v165 hv165 ?_
    refine r_ireti ?_
    have x166 := HI.eqI hI157 (p := 231) (b := 8) (hv165)
    have x167 := HI.eqI hI0 (p := 231) (b := 8) (hv113)
    exact ⟨_, rfl, hI157, hF161, _, rfl, by omega, ⟨(by omega), (by intro i i0 i1; exact (Decidable.em ((gI g0 231 8).toInt ≤ 380 ∧ (gI g0 231 8).toInt + 0 ≤ i ∧ i < (gI g0 231 8).toInt + 4)).elim (fun k434_ => by refine Eq.trans ?_ (if_pos k434_).symm; refine ((w163 (i) (by omega) (by omega))).trans ?_; exact (Decidable.em ((gI g146 231 8).toInt ≤ (i) ∧ (i) < (gI g146 231 8).toInt + 4)).elim (fun k439_ => by refine (if_pos k439_).trans ?_; (first | rfl | exact eA_ix (by omega) | omega)) (fun k439_ => by refine (if_neg k439_).trans ?_; refine ((w153 ((i)) (by omega) (by omega))).trans ?_; exact (Decidable.em ((gI g136 231 8).toInt ≤ ((i)) ∧ ((i)) < (gI g136 231 8).toInt + 4)).elim (fun k438_ => by refine (if_pos k438_).trans ?_; (first | rfl | exact eA_ix (by omega) | omega)) (fun k438_ => by refine (if_neg k438_).trans ?_; refine ((w143 (((i))) (by omega) (by omega))).trans ?_; exact (Decidable.em ((gI g126 231 8).toInt ≤ (((i))) ∧ (((i))) < (gI g126 231 8).toInt + 4)).elim (fun k437_ => by refine (if_pos k437_).trans ?_; (first | rfl | exact eA_ix (by omega) | omega)) (fun k437_ => by refine (if_neg k437_).trans ?_; refine ((w133 ((((i)))) (by omega) (by omega))).trans ?_; exact (Decidable.em ((gI g116 231 8).toInt ≤ ((((i)))) ∧ ((((i)))) < (gI g116 231 8).toInt + 4)).elim (fun k436_ => by refine (if_pos k436_).trans ?_; (first | rfl | exact eA_ix (by omega) | omega)) (fun k436_ => by refine (if_neg k436_).trans ?_; refine ((w123 (((((i))))) (by omega) (by omega))).trans ?_; exact (Decidable.em ((gI (heap) 231 8).toInt ≤ (((((i))))) ∧ (((((i))))) < (gI (heap) 231 8).toInt + 4)).elim (fun k435_ => by refine (if_pos k435_).trans ?_; (first | rfl | exact eA_ix (by omega) | omega)) (fun k435_ => by refine (if_neg k435_).trans ?_; refine (eA_ti ((gA_sI))).trans ?_; (first | rfl | exact eA_ix (by omega) | omega))))))) (fun k434_ => by refine Eq.trans ?_ (if_neg k434_).symm; exact (Decidable.em ((gI g0 231 8).toInt ≤ 380 ∧ (gI g0 231 8).toInt + 4 ≤ i ∧ i < (gI g0 231 8).toInt + 8)).elim (fun k440_ => by refine Eq.trans ?_ (if_pos k440_).symm; refine ((w163 (i) (by omega) (by omega))).trans ?_; exact (Decidable.em ((gI g146 231 8).toInt ≤ (i) ∧ (i) < (gI g146 231 8).toInt + 4)).elim (fun k445_ => by refine (if_pos k445_).trans ?_; (first | rfl | exact eA_ix (by omega) | omega)) (fun k445_ => by refine (if_neg k445_).trans ?_; refine ((w153 ((i)) (by omega) (by omega))).trans ?_; exact (Decidable.em ((gI g136 231 8).toInt ≤ ((i)) ∧ ((i)) < (gI g136 231 8).toInt + 4)).elim (fun k444_ => by refine (if_pos k444_).trans ?_; (first | rfl | exact eA_ix (by omega) | omega)) (fun k444_ => by refine (if_neg k444_).trans ?_; refine ((w143 (((i))) (by omega) (by omega))).trans ?_; exact (Decidable.em ((gI g126 231 8).toInt ≤ (((i))) ∧ (((i))) < (gI g126 231 8).toInt + 4)).elim (fun k443_ => by refine (if_pos k443_).trans ?_; (first | rfl | exact eA_ix (by omega) | omega)) (fun k443_ => by refine (if_neg k443_).trans ?_; refine ((w133 ((((i)))) (by omega) (by omega))).trans ?_; exact (Decidable.em ((gI g116 231 8).toInt ≤ ((((i)))) ∧ ((((i)))) < (gI g116 231 8).toInt + 4)).elim (fun k442_ => by refine (if_pos k442_).trans ?_; (first | rfl | exact eA_ix (by omega) | omega)) (fun k442_ => by refine (if_neg k442_).trans ?_; refine ((w123 (((((i))))) (by omega) (by omega))).trans ?_; exact (Decidable.em ((gI (heap) 231 8).toInt ≤ (((((i))))) ∧ (((((i))))) < (gI (heap) 231 8).toInt + 4)).elim (fun k441_ => by refine (if_pos k441_).trans ?_; (first | rfl | exact eA_ix (by omega) | omega)) (fun k441_ => by refine (if_neg k441_).trans ?_; refine (eA_ti ((gA_sI))).trans ?_; (first | rfl | exact eA_ix (by omega) | omega))))))) (fun k440_ => by refine Eq.trans ?_ (if_neg k440_).symm; exact (Decidable.em ((gI g0 231 8).toInt ≤ 380 ∧ (gI g0 231 8).toInt + 8 ≤ i ∧ i < (gI g0 231 8).toInt + 12)).elim (fun k446_ => by refine Eq.trans ?_ (if_pos k446_).symm; refine ((w163 (i) (by omega) (by omega))).trans ?_; exact (Decidable.em ((gI g146 231 8).toInt ≤ (i) ∧ (i) < (gI g146 231 8).toInt + 4)).elim (fun k451_ => by refine (if_pos k451_).trans ?_; (first | rfl | exact eA_ix (by omega) | omega)) (fun k451_ => by refine (if_neg k451_).trans ?_; refine ((w153 ((i)) (by omega) (by omega))).trans ?_; exact (Decidable.em ((gI g136 231 8).toInt ≤ ((i)) ∧ ((i)) < (gI g136 231 8).toInt + 4)).elim (fun k450_ => by refine (if_pos k450_).trans ?_; (first | rfl | exact eA_ix (by omega) | omega)) (fun k450_ => by refine (if_neg k450_).trans ?_; refine ((w143 (((i))) (by omega) (by omega))).trans ?_; exact (Decidable.em ((gI g126 231 8).toInt ≤ (((i))) ∧ (((i))) < (gI g126 231 8).toInt + 4)).elim (fun k449_ => by refine (if_pos k449_).trans ?_; (first | rfl | exact eA_ix (by omega) | omega)) (fun k449_ => by refine (if_neg k449_).trans ?_; refine ((w133 ((((i)))) (by omega) (by omega))).trans ?_; exact (Decidable.em ((gI g116 231 8).toInt ≤ ((((i)))) ∧ ((((i)))) < (gI g116 231 8).toInt + 4)).elim (fun k448_ => by refine (if_pos k448_).trans ?_; (first | rfl | exact eA_ix (by omega) | omega)) (fun k448_ => by refine (if_neg k448_).trans ?_; refine ((w123 (((((i))))) (by omega) (by omega))).trans ?_; exact (Decidable.em ((gI (heap) 231 8).toInt ≤ (((((i))))) ∧ (((((i))))) < (gI (heap) 231 8).toInt + 4)).elim (fun k447_ => by refine (if_pos k447_).trans ?_; (first | rfl | exact eA_ix (by omega) | omega)) (fun k447_ => by refine (if_neg k447_).trans ?_; refine (eA_ti ((gA_sI))).trans ?_; (first | rfl | exact eA_ix (by omega) | omega))))))) (fun k446_ => by refine Eq.trans ?_ (if_neg k446_).symm; exact (Decidable.em ((gI g0 231 8).toInt ≤ 380 ∧ (gI g0 231 8).toInt + 12 ≤ i ∧ i < (gI g0 231 8).toInt + 16)).elim (fun k452_ => by refine Eq.trans ?_ (if_pos k452_).symm; refine ((w163 (i) (by omega) (by omega))).trans ?_; exact (Decidable.em ((gI g146 231 8).toInt ≤ (i) ∧ (i) < (gI g146 231 8).toInt + 4)).elim (fun k457_ => by refine (if_pos k457_).trans ?_; (first | rfl | exact eA_ix (by omega) | omega)) (fun k457_ => by refine (if_neg k457_).trans ?_; refine ((w153 ((i)) (by omega) (by omega))).trans ?_; exact (Decidable.em ((gI g136 231 8).toInt ≤ ((i)) ∧ ((i)) < (gI g136 231 8).toInt + 4)).elim (fun k456_ => by refine (if_pos k456_).trans ?_; (first | rfl | exact eA_ix (by omega) | omega)) (fun k456_ => by refine (if_neg k456_).trans ?_; refine ((w143 (((i))) (by omega) (by omega))).trans ?_; exact (Decidable.em ((gI g126 231 8).toInt ≤ (((i))) ∧ (((i))) < (gI g126 231 8).toInt + 4)).elim (fun k455_ => by refine (if_pos k455_).trans ?_; (first | rfl | exact eA_ix (by omega) | omega)) (fun k455_ => by refine (if_neg k455_).trans ?_; refine ((w133 ((((i)))) (by omega) (by omega))).trans ?_; exact (Decidable.em ((gI g116 231 8).toInt ≤ ((((i)))) ∧ ((((i)))) < (gI g116 231 8).toInt + 4)).elim (fun k454_ => by refine (if_pos k454_).trans ?_; (first | rfl | exact eA_ix (by omega) | omega)) (fun k454_ => by refine (if_neg k454_).trans ?_; refine ((w123 (((((i))))) (by omega) (by omega))).trans ?_; exact (Decidable.em ((gI (heap) 231 8).toInt ≤ (((((i))))) ∧ (((((i))))) < (gI (heap) 231 8).toInt + 4)).elim (fun k453_ => by refine (if_pos k453_).trans ?_; (first | rfl | exact eA_ix (by omega) | omega)) (fun k453_ => by refine (if_neg k453_).trans ?_; refine (eA_ti ((gA_sI))).trans ?_; (first | rfl | exact eA_ix (by omega) | omega))))))) (fun k452_ => by refine Eq.trans ?_ (if_neg k452_).symm; exact (Decidable.em ((gI g0 231 8).toInt ≤ 380 ∧ (gI g0 231 8).toInt + 16 ≤ i ∧ i < (gI g0 231 8).toInt + 20)).elim (fun k458_ => by refine Eq.trans ?_ (if_pos k458_).symm; refine ((w163 (i) (by omega) (by omega))).trans ?_; exact (Decidable.em ((gI g146 231 8).toInt ≤ (i) ∧ (i) < (gI g146 231 8).toInt + 4)).elim (fun k463_ => by refine (if_pos k463_).trans ?_; (first | rfl | exact eA_ix (by omega) | omega)) (fun k463_ => by refine (if_neg k463_).trans ?_; refine ((w153 ((i)) (by omega) (by omega))).trans ?_; exact (Decidable.em ((gI g136 231 8).toInt ≤ ((i)) ∧ ((i)) < (gI g136 231 8).toInt + 4)).elim (fun k462_ => by refine (if_pos k462_).trans ?_; (first | rfl | exact eA_ix (by omega) | omega)) (fun k462_ => by refine (if_neg k462_).trans ?_; refine ((w143 (((i))) (by omega) (by omega))).trans ?_; exact (Decidable.em ((gI g126 231 8).toInt ≤ (((i))) ∧ (((i))) < (gI g126 231 8).toInt + 4)).elim (fun k461_ => by refine (if_pos k461_).trans ?_; (first | rfl | exact eA_ix (by omega) | omega)) (fun k461_ => by refine (if_neg k461_).trans ?_; refine ((w133 ((((i)))) (by omega) (by omega))).trans ?_; exact (Decidable.em ((gI g116 231 8).toInt ≤ ((((i)))) ∧ ((((i)))) < (gI g116 231 8).toInt + 4)).elim (fun k460_ => by refine (if_pos k460_).trans ?_; (first | rfl | exact eA_ix (by omega) | omega)) (fun k460_ => by refine (if_neg k460_).trans ?_; refine ((w123 (((((i))))) (by omega) (by omega))).trans ?_; exact (Decidable.em ((gI (heap) 231 8).toInt ≤ (((((i))))) ∧ (((((i))))) < (gI (heap) 231 8).toInt + 4)).elim (fun k459_ => by refine (if_pos k459_).trans ?_; (first | rfl | exact eA_ix (by omega) | omega)) (fun k459_ => by refine (if_neg k459_).trans ?_; refine (eA_ti ((gA_sI))).trans ?_; (first | rfl | exact eA_ix (by omega) | omega))))))) (fun k458_ => by refine Eq.trans ?_ (if_neg k458_).symm; refine ((w163 (i) (by omega) (by omega))).trans ?_; exact (Decidable.em ((gI g146 231 8).toInt ≤ (i) ∧ (i) < (gI g146 231 8).toInt + 4)).elim (fun k468_ => by refine (if_pos k468_).trans ?_; (first | rfl | exact eA_ix (by omega) | omega)) (fun k468_ => by refine (if_neg k468_).trans ?_; refine ((w153 ((i)) (by omega) (by omega))).trans ?_; exact (Decidable.em ((gI g136 231 8).toInt ≤ ((i)) ∧ ((i)) < (gI g136 231 8).toInt + 4)).elim (fun k467_ => by refine (if_pos k467_).trans ?_; (first | rfl | exact eA_ix (by omega) | omega)) (fun k467_ => by refine (if_neg k467_).trans ?_; refine ((w143 (((i))) (by omega) (by omega))).trans ?_; exact (Decidable.em ((gI g126 231 8).toInt ≤ (((i))) ∧ (((i))) < (gI g126 231 8).toInt + 4)).elim (fun k466_ => by refine (if_pos k466_).trans ?_; (first | rfl | exact eA_ix (by omega) | omega)) (fun k466_ => by refine (if_neg k466_).trans ?_; refine ((w133 ((((i)))) (by omega) (by omega))).trans ?_; exact (Decidable.em ((gI g116 231 8).toInt ≤ ((((i)))) ∧ ((((i)))) < (gI g116 231 8).toInt + 4)).elim (fun k465_ => by refine (if_pos k465_).trans ?_; (first | rfl | exact eA_ix (by omega) | omega)) (fun k465_ => by refine (if_neg k465_).trans ?_; refine ((w123 (((((i))))) (by omega) (by omega))).trans ?_; exact (Decidable.em ((gI (heap) 231 8).toInt ≤ (((((i))))) ∧ (((((i))))) < (gI (heap) 231 8).toInt + 4)).elim (fun k464_ => by refine (if_pos k464_).trans ?_; (first | rfl | exact eA_ix (by omega) | omega)) (fun k464_ => by refine (if_neg k464_).trans ?_; refine (eA_ti ((gA_sI))).trans ?_; (first | rfl | exact eA_ix (by omega) | omega))))))))))))⟩⟩
  · have c115_ : v114.toInt > 400 := en_i_le_f c115
    refine At.enter rfl ?_
    refine r_iconst (-1) rfl ?_
    refine r_ireti ?_
    have zv168 : ((-1) : Int32).toInt = (-1) := rfl
    have x169 := HI.eqI hI111 (p := 231) (b := 8) (((gI_sI_ne (by decide)).trans hv113))
    have x170 := HI.eqI hI0 (p := 231) (b := 8) (hv113)
    exact ⟨_, rfl, hI111, hF112, _, rfl, by decide, ⟨(by omega), (by intro i i0 i1; refine Eq.trans ?_ (if_neg (show ¬ ((gI g0 231 8).toInt ≤ 380 ∧ (gI g0 231 8).toInt + 0 ≤ i ∧ i < (gI g0 231 8).toInt + 4) from by omega)).symm; refine Eq.trans ?_ (if_neg (show ¬ ((gI g0 231 8).toInt ≤ 380 ∧ (gI g0 231 8).toInt + 4 ≤ i ∧ i < (gI g0 231 8).toInt + 8) from by omega)).symm; refine Eq.trans ?_ (if_neg (show ¬ ((gI g0 231 8).toInt ≤ 380 ∧ (gI g0 231 8).toInt + 8 ≤ i ∧ i < (gI g0 231 8).toInt + 12) from by omega)).symm; refine Eq.trans ?_ (if_neg (show ¬ ((gI g0 231 8).toInt ≤ 380 ∧ (gI g0 231 8).toInt + 12 ≤ i ∧ i < (gI g0 231 8).toInt + 16) from by omega)).symm; refine Eq.trans ?_ (if_neg (show ¬ ((gI g0 231 8).toInt ≤ 380 ∧ (gI g0 231 8).toInt + 16 ≤ i ∧ i < (gI g0 231 8).toInt + 20) from by omega)).symm; refine (eA_ti ((gA_sI))).trans ?_; (first | rfl | exact eA_ix (by omega) | omega))⟩⟩
