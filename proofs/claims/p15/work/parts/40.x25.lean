def F_X8_append_174 : List (Nat × Nat) := [(174, 1)]
def A_X8_append_174 : List Nat := [175]
set_option maxRecDepth 100000 in
set_option maxHeartbeats 4000000 in
theorem T_X8_append_174 (d : Nat) {N : Nat} {g0 : List en_E} (hI0 : HI g0) (a1 : Int32) : Ev (d + 1) 93 [.ref 174, .int a1] (g0, N) (fun w h' => ∃ g', h' = (g', N) ∧ HI g' ∧ Fr F_X8_append_174 A_X8_append_174 g0 g' ∧ w = none ∧ (((gI g0 174 1).toInt ≤ 396 → (gI g' 174 1).toInt = (gI g0 174 1).toInt + 4) ∧ ((gI g0 174 1).toInt ≤ 396 → (∀ i : Int, 0 ≤ i → i < 400 → (eA g' 175 (i)).toInt = if (gI g0 174 1).toInt ≤ i ∧ i < (gI g0 174 1).toInt + 4 then BYT a1 (i - (gI g0 174 1).toInt) else (eA g0 175 (i)).toInt)))) := by
  have hF0 : Fr F_X8_append_174 A_X8_append_174 g0 g0 := Fr.rf
  refine Ev.mk rfl rfl ⟨Nat.le_of_ble_eq_true rfl, Or.inr (q_rc hI0.1 kx_174 rfl)⟩ ?_
  show At _ none _ _ (0, [(0, .ref 174), (1, .int a1)], [], (_, _)) _
  refine At.enter rfl ?_
  refine r_bipush 24 rfl ?_
  refine r_istore_n ([(2, .int 24), (0, .ref 174), (1, .int a1)]) rfl ?_
  refine Ar.fall 3 rfl ?_
  obtain ⟨v219, hv219⟩ : ∃ v, gI g0 174 1 = v := ⟨_, rfl⟩
  have rv219 := RgF.at hI0.2.1 (p := 174) (b := 1) rfl
  rw [hv219] at rv219
  dsimp only at rv219
  have tv219 := congrArg Int32.toInt hv219
  have z_314 : (24 : Int32).toInt = 24 := rfl
  refine w_loopI (fun n_ l_ g_ => ∃ x298 : Int32, ∃ x299 : Int32, n_ = x298.toInt + 8 ∧ HI g_ ∧ Fr F_X8_append_174 A_X8_append_174 g0 g_ ∧ gI g_ 174 1 = x299 ∧ en_get 0 l_ = some (.ref 174) ∧ en_get 1 l_ = some (.int a1) ∧ en_get 2 l_ = some (.int x298) ∧ ((-8) ≤ x298.toInt ∧ x298.toInt ≤ 24) ∧ (0 ≤ x299.toInt ∧ x299.toInt ≤ 400) ∧ (8 * x299.toInt + x298.toInt = 8 * (gI g0 174 1).toInt + 24) ∧ (∀ i : Int, 0 ≤ i → i < 400 → (eA g_ 175 (i)).toInt = if (gI g0 174 1).toInt ≤ i ∧ i < x299.toInt then BYT a1 (i - (gI g0 174 1).toInt) else (eA g0 175 (i)).toInt)) ?_ (24 + 8) ⟨24, v219, by first | rfl | omega, hI0, hF0, hv219, rfl, rfl, rfl, by decide, by omega, by omega, (by intro i i0 i1; refine Eq.trans ?_ (if_neg (show ¬ ((gI g0 174 1).toInt ≤ i ∧ i < v219.toInt) from by omega)).symm; (first | with_reducible rfl | omega | exact eA_ix (by omega) | rfl))⟩
  rintro n304 l303 g300 ⟨x298, x299, hm316, hI301, hF302, e306, e307, e308, e309, r310, r311, q312, q313⟩ ih305
  have tv317 := congrArg Int32.toInt e306
  refine At.enter rfl ?_
  refine r_iload_n e309 ?_
  refine r_ifs 7 rfl (fun c318 => ?_) (fun c318 => ?_)
  · have c318_ : x298.toInt < 0 := en_k_lt_t c318
    refine At.enter rfl ?_
    refine r_vret ?_
    have x319 := HI.eqI hI301 (p := 174) (b := 1) (e306)
    exact ⟨_, rfl, hI301, hF302, rfl, ⟨(by omega), fun hz => (by intro i i0 i1; exact (Decidable.em ((gI g0 174 1).toInt ≤ i ∧ i < (gI g0 174 1).toInt + 4)).elim (fun k1_ => by refine Eq.trans ?_ (if_pos k1_).symm; refine ((q313 (i) (by first | exact i0 | omega) (by first | exact i1 | omega))).trans ?_; exact (Decidable.em ((gI g0 174 1).toInt ≤ (i) ∧ (i) < x299.toInt)).elim (fun k2_ => by refine (if_pos k2_).trans ?_; (first | with_reducible rfl | omega | exact eA_ix (by omega) | rfl)) (fun k2_ => by refine (if_neg k2_).trans ?_; (first | with_reducible rfl | omega | exact eA_ix (by omega) | rfl))) (fun k1_ => by refine Eq.trans ?_ (if_neg k1_).symm; refine ((q313 (i) (by first | exact i0 | omega) (by first | exact i1 | omega))).trans ?_; exact (Decidable.em ((gI g0 174 1).toInt ≤ (i) ∧ (i) < x299.toInt)).elim (fun k3_ => by refine (if_pos k3_).trans ?_; (first | with_reducible rfl | omega | exact eA_ix (by omega) | rfl)) (fun k3_ => by refine (if_neg k3_).trans ?_; (first | with_reducible rfl | omega | exact eA_ix (by omega) | rfl))))⟩⟩
  · have c318_ : x298.toInt ≥ 0 := en_k_lt_f c318
    refine At.enter rfl ?_
    refine r_aload_n e307 ?_
    refine q_getI (Sh.int hI301.1 kx_174 rfl) x299 e306 ?_
    refine r_sipush 400 rfl ?_
    refine r_ics 17 rfl (fun c321 => ?_) (fun c321 => ?_)
    · have c321_ : x299.toInt ≥ 400 := en_i_ge_t c321
      refine At.enter rfl ?_
      refine r_vret ?_
      have x322 := HI.eqI hI301 (p := 174) (b := 1) (e306)
      exact ⟨_, rfl, hI301, hF302, rfl, ⟨(by omega), fun hz => (by intro i i0 i1; exact (Decidable.em ((gI g0 174 1).toInt ≤ i ∧ i < (gI g0 174 1).toInt + 4)).elim (fun k4_ => by refine Eq.trans ?_ (if_pos k4_).symm; refine ((q313 (i) (by first | exact i0 | omega) (by first | exact i1 | omega))).trans ?_; exact (Decidable.em ((gI g0 174 1).toInt ≤ (i) ∧ (i) < x299.toInt)).elim (fun k5_ => by refine (if_pos k5_).trans ?_; (first | with_reducible rfl | omega | exact eA_ix (by omega) | rfl)) (fun k5_ => by refine (if_neg k5_).trans ?_; (first | with_reducible rfl | omega | exact eA_ix (by omega) | rfl))) (fun k4_ => by refine Eq.trans ?_ (if_neg k4_).symm; refine ((q313 (i) (by first | exact i0 | omega) (by first | exact i1 | omega))).trans ?_; exact (Decidable.em ((gI g0 174 1).toInt ≤ (i) ∧ (i) < x299.toInt)).elim (fun k6_ => by refine (if_pos k6_).trans ?_; (first | with_reducible rfl | omega | exact eA_ix (by omega) | rfl)) (fun k6_ => by refine (if_neg k6_).trans ?_; (first | with_reducible rfl | omega | exact eA_ix (by omega) | rfl))))⟩⟩
    · have c321_ : x299.toInt < 400 := en_i_ge_f c321
      refine At.enter rfl ?_
      refine r_aload_n e307 ?_
      refine q_getR (Sh.ref hI301.1 kx_174 rfl) ?_
      refine r_aload_n e307 ?_
      refine q_getI (Sh.int hI301.1 kx_174 rfl) x299 e306 ?_
      refine r_iload_n e308 ?_
      refine r_iload_n e309 ?_
      refine q_iushrO (fun v324 hv324 => ?_)
      refine r_sipush 255 rfl ?_
      refine q_iandO (fun v325 hv325 => ?_)
      refine q_iast (Sh.arr hI301.1 ka_175) (x299.toInt) rfl (by omega) ?_
      have hI326 := HI.wA0 hI301 ka_175 (p := 175) rfl rfl (x299.toInt) (v325)
      have hF327 := Fr.wA (p := 175) (j := x299.toInt) (v := v325) hF302 rfl
      refine r_aload_n e307 ?_
      refine r_dup rfl ?_
      refine q_getI (Sh.int hI326.1 kx_174 rfl) x299 ((gI_sW).trans e306) ?_
      refine r_iconst 1 rfl ?_
      refine q_iadd (x299.toInt + 1) rfl (by omega) (fun v328 hv328 => ?_)
      refine q_putI (Sh.int hI326.1 kx_174 rfl) rfl ?_
      have hI329 := HI.wI1 hI326 kx_174 rfl (p := 174) (b := 1) (v := v328) rfl (by dsimp only; omega)
      have hF330 := Fr.wI (p := 174) (b := 1) (v := v328) hF327 rfl
      refine q_iinc e309 (x298.toInt + (-8)) rfl (by omega) (fun v331 hv331 => ?_)
      refine r_goto ?_
      exact ih305 (v331.toInt + 8) _ _ ⟨v331, v328, by first | rfl | omega, hI329, hF330, (gI_sI_eq hI326.1 kx_174 rfl _), (w_p1 (by decide) (Or.inr rfl) e307), (w_p1 (by decide) (Or.inr rfl) e308), (w_e1 _ _ _), by omega, by omega, by omega, (by intro i i0 i1; exact (Decidable.em ((gI g0 174 1).toInt ≤ i ∧ i < v328.toInt)).elim (fun k7_ => by refine Eq.trans ?_ (if_pos k7_).symm; refine (eA_ti ((gA_sI))).trans ?_; exact (Decidable.em (i = x299.toInt)).elim (fun k8_ => by refine (eA_eqT hI301.1 ka_175 k8_ (by first | decide | omega) (by first | decide | omega)).trans ?_; (first | (with_reducible rfl) | (omega) | (exact BYT.x (by assumption) hv325 (by omega) (by omega)) | (rfl))) (fun k8_ => by refine (eA_neT hI301.1 ka_175 k8_ (by first | decide | omega) (by omega)).trans ?_; refine ((q313 (i) (by first | exact i0 | omega) (by first | exact i1 | omega))).trans ?_; exact (Decidable.em ((gI g0 174 1).toInt ≤ (i) ∧ (i) < x299.toInt)).elim (fun k9_ => by refine (if_pos k9_).trans ?_; (first | with_reducible rfl | omega | exact eA_ix (by omega) | rfl)) (fun k9_ => by refine (if_neg k9_).trans ?_; (first | with_reducible rfl | omega | exact eA_ix (by omega) | rfl)))) (fun k7_ => by refine Eq.trans ?_ (if_neg k7_).symm; refine (eA_ti ((gA_sI))).trans ?_; exact (Decidable.em (i = x299.toInt)).elim (fun k10_ => by refine (eA_eqT hI301.1 ka_175 k10_ (by first | decide | omega) (by first | decide | omega)).trans ?_; (first | (with_reducible rfl) | (omega) | (exact BYT.x (by assumption) hv325 (by omega) (by omega)) | (rfl))) (fun k10_ => by refine (eA_neT hI301.1 ka_175 k10_ (by first | decide | omega) (by omega)).trans ?_; refine ((q313 (i) (by first | exact i0 | omega) (by first | exact i1 | omega))).trans ?_; exact (Decidable.em ((gI g0 174 1).toInt ≤ (i) ∧ (i) < x299.toInt)).elim (fun k11_ => by refine (if_pos k11_).trans ?_; (first | with_reducible rfl | omega | exact eA_ix (by omega) | rfl)) (fun k11_ => by refine (if_neg k11_).trans ?_; (first | with_reducible rfl | omega | exact eA_ix (by omega) | rfl)))))⟩ ⟨by omega, by omega⟩

def F_X8_at_174 : List (Nat × Nat) := []
def A_X8_at_174 : List Nat := []
set_option maxRecDepth 100000 in
set_option maxHeartbeats 4000000 in
theorem T_X8_at_174 (d : Nat) {N : Nat} {g0 : List en_E} (hI0 : HI g0) (a1 : Int32) : Ev (d + 1) 94 [.ref 174, .int a1] (g0, N) (fun w h' => ∃ g', h' = (g', N) ∧ HI g' ∧ Fr F_X8_at_174 A_X8_at_174 g0 g' ∧ ∃ r : Int32, w = some (.int r) ∧ True ∧ ((r.toInt ≠ -1 → a1.toInt < (gI g0 174 1).toInt) ∧ ATX g0 a1.toInt r.toInt)) := by
  have hF0 : Fr F_X8_at_174 A_X8_at_174 g0 g0 := Fr.rf
  refine Ev.mk rfl rfl ⟨Nat.le_of_ble_eq_true rfl, Or.inr (q_rc hI0.1 kx_174 rfl)⟩ ?_
  show At _ none _ _ (0, [(0, .ref 174), (1, .int a1)], [], (_, _)) _
  refine At.enter rfl ?_
  refine r_iload_n rfl ?_
  refine r_ifs 4 rfl (fun c15 => ?_) (fun c15 => ?_)
  · have c15_ : a1.toInt < 0 := en_k_lt_t c15
    refine At.enter rfl ?_
    refine r_iconst (-1) rfl ?_
    refine Ar.fall 29 rfl ?_
    refine At.enter rfl ?_
    refine r_ireti ?_
    have zv16 : ((-1) : Int32).toInt = (-1) := rfl
    obtain ⟨v17, hv17⟩ : ∃ v, gI g0 174 1 = v := ⟨_, rfl⟩
    have rv17 := RgF.at hI0.2.1 (p := 174) (b := 1) rfl
    rw [hv17] at rv17
    dsimp only at rv17
    have tv17 := congrArg Int32.toInt hv17
    exact ⟨_, rfl, hI0, hF0, _, rfl, trivial, ⟨by omega, ATX.mk (by omega) (by omega)⟩⟩
  · have c15_ : a1.toInt ≥ 0 := en_k_lt_f c15
    refine At.enter rfl ?_
    refine r_iload_n rfl ?_
    refine r_aload_n rfl ?_
    obtain ⟨v19, hv19⟩ : ∃ v, gI g0 174 1 = v := ⟨_, rfl⟩
    have rv19 := RgF.at hI0.2.1 (p := 174) (b := 1) rfl
    rw [hv19] at rv19
    dsimp only at rv19
    refine q_getI (Sh.int hI0.1 kx_174 rfl) v19 hv19 ?_
    have bv21 := q_bnd a1
    have bv22 := q_bnd v19
    refine r_ics 12 rfl (fun c20 => ?_) (fun c20 => ?_)
    · have c20_ : a1.toInt ≥ v19.toInt := en_i_ge_t c20
      refine At.enter rfl ?_
      refine r_iconst (-1) rfl ?_
      refine Ar.fall 29 rfl ?_
      refine At.enter rfl ?_
      refine r_ireti ?_
      have zv23 : ((-1) : Int32).toInt = (-1) := rfl
      have x24 := HI.eqI hI0 (p := 174) (b := 1) (hv19)
      exact ⟨_, rfl, hI0, hF0, _, rfl, trivial, ⟨by omega, ATX.mk (by omega) (by omega)⟩⟩
    · have c20_ : a1.toInt < v19.toInt := en_i_ge_f c20
      refine At.enter rfl ?_
      refine r_iload_n rfl ?_
      refine r_sipush 400 rfl ?_
      refine r_ics 19 rfl (fun c25 => ?_) (fun c25 => ?_)
      · have c25_ : a1.toInt ≥ 400 := en_i_ge_t c25
        exfalso; omega
      · have c25_ : a1.toInt < 400 := en_i_ge_f c25
        refine At.enter rfl ?_
        refine r_aload_n rfl ?_
        refine q_getR (Sh.ref hI0.1 kx_174 rfl) ?_
        refine r_iload_n rfl ?_
        obtain ⟨v26, hv26⟩ : ∃ v, eA g0 175 a1.toInt = v := ⟨_, rfl⟩
        refine q_iald (Sh.arr hI0.1 ka_175) a1.toInt rfl (by omega) v26 hv26 ?_
        refine r_goto ?_
        refine At.enter rfl ?_
        refine r_ireti ?_
        have x27 := HI.eqI hI0 (p := 174) (b := 1) (hv19)
        have y28 := congrArg Int32.toInt hv26
        exact ⟨_, rfl, hI0, hF0, _, rfl, trivial, ⟨by omega, ATX.mk (by omega) (by omega)⟩⟩

def F_X9_standAfter_184 : List (Nat × Nat) := []
def A_X9_standAfter_184 : List Nat := []
set_option maxRecDepth 100000 in
set_option maxHeartbeats 4000000 in
theorem T_X9_standAfter_184 (d : Nat) {N : Nat} {g0 : List en_E} (hI0 : HI g0) (a1 : Int32) (a2 : Int32) : Ev (d + 3) 102 [.ref 184, .int a1, .int a2] (g0, N) (fun w h' => ∃ g', h' = (g', N) ∧ HI g' ∧ Fr F_X9_standAfter_184 A_X9_standAfter_184 g0 g' ∧ ∃ r : Int32, w = some (.int r) ∧ True) := by
  have hF0 : Fr F_X9_standAfter_184 A_X9_standAfter_184 g0 g0 := Fr.rf
  refine Ev.mk rfl rfl ⟨Nat.le_of_ble_eq_true rfl, Or.inr (q_rc hI0.1 kx_184 rfl)⟩ ?_
  show At _ none _ _ (0, [(0, .ref 184), (1, .int a1), (2, .int a2)], [], (_, _)) _
  refine At.enter rfl ?_
  refine r_iload_n rfl ?_
  refine r_istore_n ([(3, .int a1), (0, .ref 184), (1, .int a1), (2, .int a2)]) rfl ?_
  refine r_iconst 0 rfl ?_
  refine r_istore ([(4, .int 0), (3, .int a1), (0, .ref 184), (1, .int a1), (2, .int a2)]) rfl ?_
  refine Ar.fall 5 rfl ?_
  have z_951 : (0 : Int32).toInt = 0 := rfl
  refine w_loopI (fun n_ l_ g_ => ∃ x937 : Int32, ∃ x938 : Int32, n_ = 2147483647 - x938.toInt ∧ HI g_ ∧ Fr F_X9_standAfter_184 A_X9_standAfter_184 g0 g_ ∧ en_get 0 l_ = some (.ref 184) ∧ en_get 1 l_ = some (.int a1) ∧ en_get 2 l_ = some (.int a2) ∧ en_get 3 l_ = some (.int x937) ∧ en_get 4 l_ = some (.int x938) ∧ 0 ≤ x938.toInt) ?_ (2147483647 - 0) ⟨a1, 0, by first | rfl | omega, hI0, hF0, rfl, rfl, rfl, rfl, rfl, by decide⟩
  rintro n943 l942 g939 ⟨x937, x938, hm952, hI940, hF941, e945, e946, e947, e948, e949, r950⟩ ih944
  refine At.enter rfl ?_
  refine r_iload e949 ?_
  refine r_iload_n e947 ?_
  have bv954 := q_bnd x938
  have bv955 := q_bnd a2
  refine r_ics 11 rfl (fun c953 => ?_) (fun c953 => ?_)
  · have c953_ : x938.toInt ≥ a2.toInt := en_i_ge_t c953
    refine At.enter rfl ?_
    refine r_iload_n e948 ?_
    refine r_ireti ?_
    exact ⟨_, rfl, hI940, hF941, _, rfl, trivial⟩
  · have c953_ : x938.toInt < a2.toInt := en_i_ge_f c953
    refine At.enter rfl ?_
    refine r_iload_n e948 ?_
    refine r_iconst (-1) rfl ?_
    refine r_ics 16 rfl (fun c956 => ?_) (fun c956 => ?_)
    · have c956_ : x937.toInt = (-1) := en_i_eq_t c956
      refine At.enter rfl ?_
      refine r_iload_n e948 ?_
      refine r_ireti ?_
      exact ⟨_, rfl, hI940, hF941, _, rfl, trivial⟩
    · have c956_ : x937.toInt ≠ (-1) := en_i_eq_f c956
      refine At.enter rfl ?_
      refine r_aload_n e945 ?_
      refine q_getR (Sh.ref hI940.1 kx_184 rfl) ?_
      refine r_iload_n e948 ?_
      refine r_callV 24 rfl [.ref 1, .int x937] [] (Nat.le_of_ble_eq_true rfl) rfl (T_X0_next_1 _ hI940 x937) ?_
      rintro _ _ ⟨g957, rfl, hI958, hF959, v960, rfl, hr961⟩
      refine At.sti ?_
      have hF962 := Fr.tr hF941 hF959 rfl rfl
      refine At.enter rfl ?_
      refine r_istore_n _ rfl ?_
      refine q_iinc (w_p1 (by decide) (Or.inr rfl) e949) (x938.toInt + 1) rfl (by omega) (fun v963 hv963 => ?_)
      refine r_goto ?_
      have bv964 := q_bnd v960
      have bv965 := q_bnd v963
      exact ih944 (2147483647 - v963.toInt) _ _ ⟨v960, v963, by first | rfl | omega, hI958, hF962, (w_p1 (by decide) (Or.inr rfl) (w_p1 (by decide) (Or.inr rfl) e945)), (w_p1 (by decide) (Or.inr rfl) (w_p1 (by decide) (Or.inr rfl) e946)), (w_p1 (by decide) (Or.inr rfl) (w_p1 (by decide) (Or.inr rfl) e947)), (w_p1 (by decide) (Or.inr rfl) (w_e1 _ _ _)), (w_e1 _ _ _), by omega⟩ ⟨by omega, by omega⟩

def F_X9_standOf_184 : List (Nat × Nat) := []
def A_X9_standOf_184 : List Nat := []
set_option maxRecDepth 100000 in
set_option maxHeartbeats 4000000 in
theorem T_X9_standOf_184 (d : Nat) {N : Nat} {g0 : List en_E} (hI0 : HI g0) (a1 : Int32) (a2 : Int32) : Ev (d + 4) 96 [.ref 184, .int a1, .int a2] (g0, N) (fun w h' => ∃ g', h' = (g', N) ∧ HI g' ∧ Fr F_X9_standOf_184 A_X9_standOf_184 g0 g' ∧ ∃ r : Int32, w = some (.int r) ∧ True) := by
  have hF0 : Fr F_X9_standOf_184 A_X9_standOf_184 g0 g0 := Fr.rf
  refine Ev.mk rfl rfl ⟨Nat.le_of_ble_eq_true rfl, Or.inr (q_rc hI0.1 kx_184 rfl)⟩ ?_
  show At _ none _ _ (0, [(0, .ref 184), (1, .int a1), (2, .int a2)], [], (_, _)) _
  refine At.enter rfl ?_
  refine r_iload_n rfl ?_
  refine r_iconst 0 rfl ?_
  refine r_aload_n rfl ?_
  refine q_getR (Sh.ref hI0.1 kx_184 rfl) ?_
  refine r_iload_n rfl ?_
  refine r_callV 10 rfl [.ref 1, .int a1] [.int 0, .int a2] (Nat.le_of_ble_eq_true rfl) rfl (T_X0_handsOf_1 _ hI0 a1) ?_
  rintro _ _ ⟨g45, rfl, hI46, hF47, v48, rfl, hr49⟩
  refine At.sti ?_
  have hF50 := Fr.tr hF0 hF47 rfl rfl
  refine At.enter rfl ?_
  refine q_inlS 13 rfl [.int a2, .int 0, .int v48] [] (Nat.le_of_ble_eq_true rfl) rfl ?_
  refine Ev.mk rfl rfl ⟨Nat.le_of_ble_eq_true rfl, Or.inl rfl⟩ ?_
  show At _ none _ _ (0, [(0, .int a2), (1, .int 0), (2, .int v48)], [], (_, _)) _
  refine At.enter rfl ?_
  refine r_iload_n rfl ?_
  refine r_iload_n rfl ?_
  refine r_ics 5 rfl (fun c51 => ?_) (fun c51 => ?_)
  · have c51_ : a2.toInt < 0 := en_i_lt_t c51
    refine At.enter rfl ?_
    refine r_iconst 0 rfl ?_
    refine Ar.fall 15 rfl ?_
    refine At.enter rfl ?_
    refine q_iretz (by decide) ?_
    refine At.enter rfl ?_
    refine r_ift (by decide) ?_
    refine At.enter rfl ?_
    refine r_iconst (-1) rfl ?_
    refine Ar.fall 34 rfl ?_
    refine At.enter rfl ?_
    refine r_ireti ?_
    exact ⟨_, rfl, hI46, hF50, _, rfl, trivial⟩
  · have c51_ : a2.toInt ≥ 0 := en_i_lt_f c51
    refine At.enter rfl ?_
    refine r_iload_n rfl ?_
    refine r_iload_n rfl ?_
    have bv53 := q_bnd a2
    have bv54 := q_bnd v48
    refine r_ics 10 rfl (fun c52 => ?_) (fun c52 => ?_)
    · have c52_ : a2.toInt > v48.toInt := en_i_gt_t c52
      refine At.enter rfl ?_
      refine r_iconst 0 rfl ?_
      refine Ar.fall 15 rfl ?_
      refine At.enter rfl ?_
      refine q_iretz (by decide) ?_
      refine At.enter rfl ?_
      refine r_ift (by decide) ?_
      refine At.enter rfl ?_
      refine r_iconst (-1) rfl ?_
      refine Ar.fall 34 rfl ?_
      refine At.enter rfl ?_
      refine r_ireti ?_
      exact ⟨_, rfl, hI46, hF50, _, rfl, trivial⟩
    · have c52_ : a2.toInt ≤ v48.toInt := en_i_gt_f c52
      refine At.enter rfl ?_
      refine r_iconst 1 rfl ?_
      refine r_goto ?_
      refine At.enter rfl ?_
      refine q_iretz (by decide) ?_
      refine At.enter rfl ?_
      refine r_iff 16 rfl (by decide) ?_
      refine At.enter rfl ?_
      refine r_aload_n rfl ?_
      refine r_aload_n rfl ?_
      refine q_getR (Sh.ref hI46.1 kx_184 rfl) ?_
      refine r_iload_n rfl ?_
      refine r_iconst 1 rfl ?_
      refine r_callV 26 rfl [.ref 1, .int a1, .int 1] [.ref 184] (Nat.le_of_ble_eq_true rfl) rfl (T_X0_about_1 _ hI46 a1 1) ?_
      rintro _ _ ⟨g55, rfl, hI56, hF57, v58, rfl, hr59⟩
      refine At.sti ?_
      have hF60 := Fr.tr hF50 hF57 rfl rfl
      refine At.enter rfl ?_
      refine r_iload_n rfl ?_
      refine r_callV 30 rfl [.ref 184, .int v58, .int a2] [] (Nat.le_of_ble_eq_true rfl) rfl (T_X9_standAfter_184 _ hI56 v58 a2) ?_
      rintro _ _ ⟨g61, rfl, hI62, hF63, v64, rfl, hr65⟩
      refine At.sti ?_
      have hF66 := Fr.tr hF60 hF63 rfl rfl
      refine At.enter rfl ?_
      refine r_goto ?_
      refine At.enter rfl ?_
      refine r_ireti ?_
      exact ⟨_, rfl, hI62, hF66, _, rfl, trivial⟩

def F_X9_comersTo_184 : List (Nat × Nat) := []
def A_X9_comersTo_184 : List Nat := []
set_option maxRecDepth 100000 in
set_option maxHeartbeats 4000000 in
theorem T_X9_comersTo_184 (d : Nat) {N : Nat} {g0 : List en_E} (hI0 : HI g0) (a1 : Int32) (a2 : Int32) : Ev (d + 3) 97 [.ref 184, .int a1, .int a2] (g0, N) (fun w h' => ∃ g', h' = (g', N) ∧ HI g' ∧ Fr F_X9_comersTo_184 A_X9_comersTo_184 g0 g' ∧ ∃ r : Int32, w = some (.int r) ∧ True) := by
  have hF0 : Fr F_X9_comersTo_184 A_X9_comersTo_184 g0 g0 := Fr.rf
  refine Ev.mk rfl rfl ⟨Nat.le_of_ble_eq_true rfl, Or.inr (q_rc hI0.1 kx_184 rfl)⟩ ?_
  show At _ none _ _ (0, [(0, .ref 184), (1, .int a1), (2, .int a2)], [], (_, _)) _
  refine At.enter rfl ?_
  refine r_iconst 0 rfl ?_
  refine r_istore_n ([(3, .int 0), (0, .ref 184), (1, .int a1), (2, .int a2)]) rfl ?_
  refine r_iconst 0 rfl ?_
  refine r_istore ([(4, .int 0), (3, .int 0), (0, .ref 184), (1, .int a1), (2, .int a2)]) rfl ?_
  refine Ar.fall 5 rfl ?_
  have z_13438 : (0 : Int32).toInt = 0 := rfl
  have z_13439 : (0 : Int32).toInt = 0 := rfl
  refine w_loopI (fun n_ l_ g_ => ∃ x13424 : Int32, ∃ x13425 : Int32, n_ = 12 - x13425.toInt ∧ HI g_ ∧ Fr F_X9_comersTo_184 A_X9_comersTo_184 g0 g_ ∧ en_get 0 l_ = some (.ref 184) ∧ en_get 1 l_ = some (.int a1) ∧ en_get 2 l_ = some (.int a2) ∧ en_get 3 l_ = some (.int x13424) ∧ en_get 4 l_ = some (.int x13425) ∧ (0 ≤ x13425.toInt ∧ x13425.toInt ≤ 12)) ?_ (12 - 0) ⟨0, 0, by first | rfl | omega, hI0, hF0, rfl, rfl, rfl, rfl, rfl, by decide⟩
  rintro n13430 l13429 g13426 ⟨x13424, x13425, hm13440, hI13427, hF13428, e13432, e13433, e13434, e13435, e13436, r13437⟩ ih13431
  refine At.enter rfl ?_
  refine r_iload e13436 ?_
  refine r_aload_n e13432 ?_
  refine q_getR (Sh.ref hI13427.1 kx_184 rfl) ?_
  obtain ⟨v13441, hv13441⟩ : ∃ v, gI g0 1 0 = v := ⟨_, rfl⟩
  have rv13441 := RgF.at hI0.2.1 (p := 1) (b := 0) rfl
  rw [hv13441] at rv13441
  dsimp only at rv13441
  refine q_getI (Sh.int hI13427.1 kx_1 rfl) v13441 ((hF13428.1 1 0 (by decide)).trans hv13441) ?_
  have bv13443 := q_bnd x13425
  have bv13444 := q_bnd v13441
  refine r_ics 17 rfl (fun c13442 => ?_) (fun c13442 => ?_)
  · have c13442_ : x13425.toInt ≥ v13441.toInt := en_i_ge_t c13442
    refine At.enter rfl ?_
    refine r_iload_n e13435 ?_
    refine r_ireti ?_
    exact ⟨_, rfl, hI13427, hF13428, _, rfl, trivial⟩
  · have c13442_ : x13425.toInt < v13441.toInt := en_i_ge_f c13442
    refine At.enter rfl ?_
    refine r_iload e13436 ?_
    refine r_istore _ rfl ?_
    refine r_iconst 0 rfl ?_
    refine r_istore _ rfl ?_
    refine Ar.fall 24 rfl ?_
    have z_13849 : (0 : Int32).toInt = 0 := rfl
    refine w_loopI (fun n_ l_ g_ => ∃ x13832 : Int32, ∃ x13833 : Int32, n_ = 12 - x13833.toInt ∧ HI g_ ∧ Fr F_X9_comersTo_184 A_X9_comersTo_184 g0 g_ ∧ en_get 0 l_ = some (.ref 184) ∧ en_get 1 l_ = some (.int a1) ∧ en_get 2 l_ = some (.int a2) ∧ en_get 3 l_ = some (.int x13424) ∧ en_get 4 l_ = some (.int x13425) ∧ en_get 5 l_ = some (.int x13832) ∧ en_get 6 l_ = some (.int x13833) ∧ ((-1) ≤ x13832.toInt ∧ x13832.toInt ≤ 11) ∧ (0 ≤ x13833.toInt ∧ x13833.toInt ≤ 12)) ?_ (12 - 0) ⟨x13425, 0, by first | rfl | omega, hI13427, hF13428, (w_p1 (by decide) (Or.inr rfl) (w_p1 (by decide) (Or.inr rfl) e13432)), (w_p1 (by decide) (Or.inr rfl) (w_p1 (by decide) (Or.inr rfl) e13433)), (w_p1 (by decide) (Or.inr rfl) (w_p1 (by decide) (Or.inr rfl) e13434)), (w_p1 (by decide) (Or.inr rfl) (w_p1 (by decide) (Or.inr rfl) e13435)), (w_p1 (by decide) (Or.inr rfl) (w_p1 (by decide) (Or.inr rfl) e13436)), (w_p1 (by decide) (Or.inr rfl) (w_e1 _ _ _)), (w_e1 _ _ _), by omega, by decide⟩
    rintro n13838 l13837 g13834 ⟨x13832, x13833, hm13850, hI13835, hF13836, e13840, e13841, e13842, e13843, e13844, e13845, e13846, r13847, r13848⟩ ih13839
    refine At.enter rfl ?_
    refine r_iload e13846 ?_
    refine r_bipush 12 rfl ?_
    refine r_ics 31 rfl (fun c13851 => ?_) (fun c13851 => ?_)
    · have c13851_ : x13833.toInt ≥ 12 := en_i_ge_t c13851
      refine At.enter rfl ?_
      refine r_iload e13845 ?_
      refine r_iload_n e13841 ?_
      refine r_ics 75 rfl (fun c13852 => ?_) (fun c13852 => ?_)
      · have c13852_ : x13832.toInt ≠ a1.toInt := en_i_ne_t c13852
        refine At.enter rfl ?_
        refine q_iinc e13844 (x13425.toInt + 1) rfl (by omega) (fun v13853 hv13853 => ?_)
        refine r_goto ?_
        have bv13854 := q_bnd x13424
        exact ih13431 (12 - v13853.toInt) _ _ ⟨x13424, v13853, by first | rfl | omega, hI13835, hF13836, (w_p1 (by decide) (Or.inr rfl) e13840), (w_p1 (by decide) (Or.inr rfl) e13841), (w_p1 (by decide) (Or.inr rfl) e13842), (w_p1 (by decide) (Or.inr rfl) e13843), (w_e1 _ _ _), by omega⟩ ⟨by omega, by omega⟩
      · have c13852_ : x13832.toInt = a1.toInt := en_i_ne_f c13852
        refine At.enter rfl ?_
        refine r_iload_n e13842 ?_
        refine r_iload_n e13841 ?_
        refine q_inlS 80 rfl [.int a2, .int a1] [] (Nat.le_of_ble_eq_true rfl) rfl ?_
        refine Ev.mk rfl rfl ⟨Nat.le_of_ble_eq_true rfl, Or.inl rfl⟩ ?_
        show At _ none _ _ (0, [(0, .int a2), (1, .int a1)], [], (_, _)) _
        refine At.enter rfl ?_
        refine r_iload_n rfl ?_
        refine r_iload_n rfl ?_
        refine q_ishrO (fun v13855 hv13855 => ?_)
        refine r_iconst 1 rfl ?_
        refine q_iandO (fun v13856 hv13856 => ?_)
        refine r_ifs 8 rfl (fun c13857 => ?_) (fun c13857 => ?_)
        · have c13857_ : v13856.toInt = 0 := en_k_eq_t c13857
          refine At.enter rfl ?_
          refine r_iconst 0 rfl ?_
          refine Ar.fall 13 rfl ?_
          refine At.enter rfl ?_
          refine q_iretz (by decide) ?_
          refine At.enter rfl ?_
          refine r_iff 83 rfl (by decide) ?_
          refine At.enter rfl ?_
          refine r_iload_n e13843 ?_
          refine r_iconst 1 rfl ?_
          refine r_iload e13844 ?_
          refine q_ishlO (fun v13858 hv13858 => ?_)
          refine q_iorO (fun v13859 hv13859 => ?_)
          refine r_istore_n _ rfl ?_
          refine Ar.fall 90 rfl ?_
          refine At.enter rfl ?_
          refine q_iinc (w_p1 (by decide) (Or.inr rfl) e13844) (x13425.toInt + 1) rfl (by omega) (fun v13860 hv13860 => ?_)
          refine r_goto ?_
          have bv13861 := q_bnd v13859
          exact ih13431 (12 - v13860.toInt) _ _ ⟨v13859, v13860, by first | rfl | omega, hI13835, hF13836, (w_p1 (by decide) (Or.inr rfl) (w_p1 (by decide) (Or.inr rfl) e13840)), (w_p1 (by decide) (Or.inr rfl) (w_p1 (by decide) (Or.inr rfl) e13841)), (w_p1 (by decide) (Or.inr rfl) (w_p1 (by decide) (Or.inr rfl) e13842)), (w_p1 (by decide) (Or.inr rfl) (w_e1 _ _ _)), (w_e1 _ _ _), by omega⟩ ⟨by omega, by omega⟩
        · have c13857_ : v13856.toInt ≠ 0 := en_k_eq_f c13857
          refine At.enter rfl ?_
          refine r_iconst 1 rfl ?_
          refine r_goto ?_
          refine At.enter rfl ?_
          refine q_iretz (by decide) ?_
          refine At.enter rfl ?_
          refine r_ift (by decide) ?_
          refine At.enter rfl ?_
          refine q_iinc e13844 (x13425.toInt + 1) rfl (by omega) (fun v13862 hv13862 => ?_)
          refine r_goto ?_
          have bv13863 := q_bnd x13424
          exact ih13431 (12 - v13862.toInt) _ _ ⟨x13424, v13862, by first | rfl | omega, hI13835, hF13836, (w_p1 (by decide) (Or.inr rfl) e13840), (w_p1 (by decide) (Or.inr rfl) e13841), (w_p1 (by decide) (Or.inr rfl) e13842), (w_p1 (by decide) (Or.inr rfl) e13843), (w_e1 _ _ _), by omega⟩ ⟨by omega, by omega⟩
    · have c13851_ : x13833.toInt < 12 := en_i_ge_f c13851
      refine At.enter rfl ?_
      refine r_iload e13845 ?_
      refine r_iconst (-1) rfl ?_
      refine r_ics 37 rfl (fun c13864 => ?_) (fun c13864 => ?_)
      · have c13864_ : x13832.toInt = (-1) := en_i_eq_t c13864
        refine At.enter rfl ?_
        refine r_iload e13845 ?_
        refine r_iload_n e13841 ?_
        refine r_ics 75 rfl (fun c13865 => ?_) (fun c13865 => ?_)
        · have c13865_ : x13832.toInt ≠ a1.toInt := en_i_ne_t c13865
          refine At.enter rfl ?_
          refine q_iinc e13844 (x13425.toInt + 1) rfl (by omega) (fun v13866 hv13866 => ?_)
          refine r_goto ?_
          have bv13867 := q_bnd x13424
          exact ih13431 (12 - v13866.toInt) _ _ ⟨x13424, v13866, by first | rfl | omega, hI13835, hF13836, (w_p1 (by decide) (Or.inr rfl) e13840), (w_p1 (by decide) (Or.inr rfl) e13841), (w_p1 (by decide) (Or.inr rfl) e13842), (w_p1 (by decide) (Or.inr rfl) e13843), (w_e1 _ _ _), by omega⟩ ⟨by omega, by omega⟩
        · have c13865_ : x13832.toInt = a1.toInt := en_i_ne_f c13865
          refine At.enter rfl ?_
          refine r_iload_n e13842 ?_
          refine r_iload_n e13841 ?_
          refine q_inlS 80 rfl [.int a2, .int a1] [] (Nat.le_of_ble_eq_true rfl) rfl ?_
          refine Ev.mk rfl rfl ⟨Nat.le_of_ble_eq_true rfl, Or.inl rfl⟩ ?_
          show At _ none _ _ (0, [(0, .int a2), (1, .int a1)], [], (_, _)) _
          refine At.enter rfl ?_
          refine r_iload_n rfl ?_
          refine r_iload_n rfl ?_
          refine q_ishrO (fun v13868 hv13868 => ?_)
          refine r_iconst 1 rfl ?_
          refine q_iandO (fun v13869 hv13869 => ?_)
          refine r_ifs 8 rfl (fun c13870 => ?_) (fun c13870 => ?_)
          · have c13870_ : v13869.toInt = 0 := en_k_eq_t c13870
            refine At.enter rfl ?_
            refine r_iconst 0 rfl ?_
            refine Ar.fall 13 rfl ?_
            refine At.enter rfl ?_
            refine q_iretz (by decide) ?_
            refine At.enter rfl ?_
            refine r_iff 83 rfl (by decide) ?_
            refine At.enter rfl ?_
            refine r_iload_n e13843 ?_
            refine r_iconst 1 rfl ?_
            refine r_iload e13844 ?_
            refine q_ishlO (fun v13871 hv13871 => ?_)
            refine q_iorO (fun v13872 hv13872 => ?_)
            refine r_istore_n _ rfl ?_
            refine Ar.fall 90 rfl ?_
            refine At.enter rfl ?_
            refine q_iinc (w_p1 (by decide) (Or.inr rfl) e13844) (x13425.toInt + 1) rfl (by omega) (fun v13873 hv13873 => ?_)
            refine r_goto ?_
            have bv13874 := q_bnd v13872
            exact ih13431 (12 - v13873.toInt) _ _ ⟨v13872, v13873, by first | rfl | omega, hI13835, hF13836, (w_p1 (by decide) (Or.inr rfl) (w_p1 (by decide) (Or.inr rfl) e13840)), (w_p1 (by decide) (Or.inr rfl) (w_p1 (by decide) (Or.inr rfl) e13841)), (w_p1 (by decide) (Or.inr rfl) (w_p1 (by decide) (Or.inr rfl) e13842)), (w_p1 (by decide) (Or.inr rfl) (w_e1 _ _ _)), (w_e1 _ _ _), by omega⟩ ⟨by omega, by omega⟩
          · have c13870_ : v13869.toInt ≠ 0 := en_k_eq_f c13870
            refine At.enter rfl ?_
            refine r_iconst 1 rfl ?_
            refine r_goto ?_
            refine At.enter rfl ?_
            refine q_iretz (by decide) ?_
            refine At.enter rfl ?_
            refine r_ift (by decide) ?_
            refine At.enter rfl ?_
            refine q_iinc e13844 (x13425.toInt + 1) rfl (by omega) (fun v13875 hv13875 => ?_)
            refine r_goto ?_
            have bv13876 := q_bnd x13424
            exact ih13431 (12 - v13875.toInt) _ _ ⟨x13424, v13875, by first | rfl | omega, hI13835, hF13836, (w_p1 (by decide) (Or.inr rfl) e13840), (w_p1 (by decide) (Or.inr rfl) e13841), (w_p1 (by decide) (Or.inr rfl) e13842), (w_p1 (by decide) (Or.inr rfl) e13843), (w_e1 _ _ _), by omega⟩ ⟨by omega, by omega⟩
      · have c13864_ : x13832.toInt ≠ (-1) := en_i_eq_f c13864
        refine At.enter rfl ?_
        refine r_iload e13845 ?_
        refine r_iload_n e13841 ?_
        refine r_ics 43 rfl (fun c13877 => ?_) (fun c13877 => ?_)
        · have c13877_ : x13832.toInt = a1.toInt := en_i_eq_t c13877
          refine At.enter rfl ?_
          refine r_iload e13845 ?_
          refine r_iload_n e13841 ?_
          refine r_ics 75 rfl (fun c13878 => ?_) (fun c13878 => ?_)
          · have c13878_ : x13832.toInt ≠ a1.toInt := en_i_ne_t c13878
            refine At.enter rfl ?_
            refine q_iinc e13844 (x13425.toInt + 1) rfl (by omega) (fun v13879 hv13879 => ?_)
            refine r_goto ?_
            have bv13880 := q_bnd x13424
            exact ih13431 (12 - v13879.toInt) _ _ ⟨x13424, v13879, by first | rfl | omega, hI13835, hF13836, (w_p1 (by decide) (Or.inr rfl) e13840), (w_p1 (by decide) (Or.inr rfl) e13841), (w_p1 (by decide) (Or.inr rfl) e13842), (w_p1 (by decide) (Or.inr rfl) e13843), (w_e1 _ _ _), by omega⟩ ⟨by omega, by omega⟩
          · have c13878_ : x13832.toInt = a1.toInt := en_i_ne_f c13878
            refine At.enter rfl ?_
            refine r_iload_n e13842 ?_
            refine r_iload_n e13841 ?_
            refine q_inlS 80 rfl [.int a2, .int a1] [] (Nat.le_of_ble_eq_true rfl) rfl ?_
            refine Ev.mk rfl rfl ⟨Nat.le_of_ble_eq_true rfl, Or.inl rfl⟩ ?_
            show At _ none _ _ (0, [(0, .int a2), (1, .int a1)], [], (_, _)) _
            refine At.enter rfl ?_
            refine r_iload_n rfl ?_
            refine r_iload_n rfl ?_
            refine q_ishrO (fun v13881 hv13881 => ?_)
            refine r_iconst 1 rfl ?_
            refine q_iandO (fun v13882 hv13882 => ?_)
            refine r_ifs 8 rfl (fun c13883 => ?_) (fun c13883 => ?_)
            · have c13883_ : v13882.toInt = 0 := en_k_eq_t c13883
              refine At.enter rfl ?_
              refine r_iconst 0 rfl ?_
              refine Ar.fall 13 rfl ?_
              refine At.enter rfl ?_
              refine q_iretz (by decide) ?_
              refine At.enter rfl ?_
              refine r_iff 83 rfl (by decide) ?_
              refine At.enter rfl ?_
              refine r_iload_n e13843 ?_
              refine r_iconst 1 rfl ?_
              refine r_iload e13844 ?_
              refine q_ishlO (fun v13884 hv13884 => ?_)
              refine q_iorO (fun v13885 hv13885 => ?_)
              refine r_istore_n _ rfl ?_
              refine Ar.fall 90 rfl ?_
              refine At.enter rfl ?_
              refine q_iinc (w_p1 (by decide) (Or.inr rfl) e13844) (x13425.toInt + 1) rfl (by omega) (fun v13886 hv13886 => ?_)
              refine r_goto ?_
              have bv13887 := q_bnd v13885
              exact ih13431 (12 - v13886.toInt) _ _ ⟨v13885, v13886, by first | rfl | omega, hI13835, hF13836, (w_p1 (by decide) (Or.inr rfl) (w_p1 (by decide) (Or.inr rfl) e13840)), (w_p1 (by decide) (Or.inr rfl) (w_p1 (by decide) (Or.inr rfl) e13841)), (w_p1 (by decide) (Or.inr rfl) (w_p1 (by decide) (Or.inr rfl) e13842)), (w_p1 (by decide) (Or.inr rfl) (w_e1 _ _ _)), (w_e1 _ _ _), by omega⟩ ⟨by omega, by omega⟩
            · have c13883_ : v13882.toInt ≠ 0 := en_k_eq_f c13883
              refine At.enter rfl ?_
              refine r_iconst 1 rfl ?_
              refine r_goto ?_
              refine At.enter rfl ?_
              refine q_iretz (by decide) ?_
              refine At.enter rfl ?_
              refine r_ift (by decide) ?_
              refine At.enter rfl ?_
              refine q_iinc e13844 (x13425.toInt + 1) rfl (by omega) (fun v13888 hv13888 => ?_)
              refine r_goto ?_
              have bv13889 := q_bnd x13424
              exact ih13431 (12 - v13888.toInt) _ _ ⟨x13424, v13888, by first | rfl | omega, hI13835, hF13836, (w_p1 (by decide) (Or.inr rfl) e13840), (w_p1 (by decide) (Or.inr rfl) e13841), (w_p1 (by decide) (Or.inr rfl) e13842), (w_p1 (by decide) (Or.inr rfl) e13843), (w_e1 _ _ _), by omega⟩ ⟨by omega, by omega⟩
        · have c13877_ : x13832.toInt ≠ a1.toInt := en_i_eq_f c13877
          refine At.enter rfl ?_
          refine r_iload_n e13842 ?_
          refine r_iload e13845 ?_
          refine q_inlS 49 rfl [.int a2, .int x13832] [] (Nat.le_of_ble_eq_true rfl) rfl ?_
          refine Ev.mk rfl rfl ⟨Nat.le_of_ble_eq_true rfl, Or.inl rfl⟩ ?_
          show At _ none _ _ (0, [(0, .int a2), (1, .int x13832)], [], (_, _)) _
          refine At.enter rfl ?_
          refine r_iload_n rfl ?_
          refine r_iload_n rfl ?_
          refine q_ishrO (fun v13890 hv13890 => ?_)
          refine r_iconst 1 rfl ?_
          refine q_iandO (fun v13891 hv13891 => ?_)
          refine r_ifs 8 rfl (fun c13892 => ?_) (fun c13892 => ?_)
          · have c13892_ : v13891.toInt = 0 := en_k_eq_t c13892
            refine At.enter rfl ?_
            refine r_iconst 0 rfl ?_
            refine Ar.fall 13 rfl ?_
            refine At.enter rfl ?_
            refine q_iretz (by decide) ?_
            refine At.enter rfl ?_
            refine r_iff 52 rfl (by decide) ?_
            refine At.enter rfl ?_
            refine r_aload_n e13840 ?_
            refine q_getR (Sh.ref hI13835.1 kx_184 rfl) ?_
            refine r_iload e13845 ?_
            refine r_callV 61 rfl [.ref 1, .int x13832] [] (Nat.le_of_ble_eq_true rfl) rfl (T_X0_next_1 _ hI13835 x13832) ?_
            rintro _ _ ⟨g13893, rfl, hI13894, hF13895, v13896, rfl, hr13897⟩
            refine At.sti ?_
            have hF13898 := Fr.tr hF13836 hF13895 rfl rfl
            refine At.enter rfl ?_
            refine r_istore _ rfl ?_
            refine q_iinc (w_p1 (by decide) (Or.inr rfl) e13846) (x13833.toInt + 1) rfl (by omega) (fun v13899 hv13899 => ?_)
            refine r_goto ?_
            exact ih13839 (12 - v13899.toInt) _ _ ⟨v13896, v13899, by first | rfl | omega, hI13894, hF13898, (w_p1 (by decide) (Or.inr rfl) (w_p1 (by decide) (Or.inr rfl) e13840)), (w_p1 (by decide) (Or.inr rfl) (w_p1 (by decide) (Or.inr rfl) e13841)), (w_p1 (by decide) (Or.inr rfl) (w_p1 (by decide) (Or.inr rfl) e13842)), (w_p1 (by decide) (Or.inr rfl) (w_p1 (by decide) (Or.inr rfl) e13843)), (w_p1 (by decide) (Or.inr rfl) (w_p1 (by decide) (Or.inr rfl) e13844)), (w_p1 (by decide) (Or.inr rfl) (w_e1 _ _ _)), (w_e1 _ _ _), by omega, by omega⟩ ⟨by omega, by omega⟩
          · have c13892_ : v13891.toInt ≠ 0 := en_k_eq_f c13892
            refine At.enter rfl ?_
            refine r_iconst 1 rfl ?_
            refine r_goto ?_
            refine At.enter rfl ?_
            refine q_iretz (by decide) ?_
            refine At.enter rfl ?_
            refine r_ift (by decide) ?_
            refine At.enter rfl ?_
            refine r_iload e13845 ?_
            refine r_iload_n e13841 ?_
            refine r_ics 75 rfl (fun c13900 => ?_) (fun c13900 => ?_)
            · have c13900_ : x13832.toInt ≠ a1.toInt := en_i_ne_t c13900
              refine At.enter rfl ?_
              refine q_iinc e13844 (x13425.toInt + 1) rfl (by omega) (fun v13901 hv13901 => ?_)
              refine r_goto ?_
              have bv13902 := q_bnd x13424
              exact ih13431 (12 - v13901.toInt) _ _ ⟨x13424, v13901, by first | rfl | omega, hI13835, hF13836, (w_p1 (by decide) (Or.inr rfl) e13840), (w_p1 (by decide) (Or.inr rfl) e13841), (w_p1 (by decide) (Or.inr rfl) e13842), (w_p1 (by decide) (Or.inr rfl) e13843), (w_e1 _ _ _), by omega⟩ ⟨by omega, by omega⟩
            · have c13900_ : x13832.toInt = a1.toInt := en_i_ne_f c13900
              refine At.enter rfl ?_
              refine r_iload_n e13842 ?_
              refine r_iload_n e13841 ?_
              refine q_inlS 80 rfl [.int a2, .int a1] [] (Nat.le_of_ble_eq_true rfl) rfl ?_
              refine Ev.mk rfl rfl ⟨Nat.le_of_ble_eq_true rfl, Or.inl rfl⟩ ?_
              show At _ none _ _ (0, [(0, .int a2), (1, .int a1)], [], (_, _)) _
              refine At.enter rfl ?_
              refine r_iload_n rfl ?_
              refine r_iload_n rfl ?_
              refine q_ishrO (fun v13903 hv13903 => ?_)
              refine r_iconst 1 rfl ?_
              refine q_iandO (fun v13904 hv13904 => ?_)
              refine r_ifs 8 rfl (fun c13905 => ?_) (fun c13905 => ?_)
              · have c13905_ : v13904.toInt = 0 := en_k_eq_t c13905
                refine At.enter rfl ?_
                refine r_iconst 0 rfl ?_
                refine Ar.fall 13 rfl ?_
                refine At.enter rfl ?_
                refine q_iretz (by decide) ?_
                refine At.enter rfl ?_
                refine r_iff 83 rfl (by decide) ?_
                refine At.enter rfl ?_
                refine r_iload_n e13843 ?_
                refine r_iconst 1 rfl ?_
                refine r_iload e13844 ?_
                refine q_ishlO (fun v13906 hv13906 => ?_)
                refine q_iorO (fun v13907 hv13907 => ?_)
                refine r_istore_n _ rfl ?_
                refine Ar.fall 90 rfl ?_
                refine At.enter rfl ?_
                refine q_iinc (w_p1 (by decide) (Or.inr rfl) e13844) (x13425.toInt + 1) rfl (by omega) (fun v13908 hv13908 => ?_)
                refine r_goto ?_
                have bv13909 := q_bnd v13907
                exact ih13431 (12 - v13908.toInt) _ _ ⟨v13907, v13908, by first | rfl | omega, hI13835, hF13836, (w_p1 (by decide) (Or.inr rfl) (w_p1 (by decide) (Or.inr rfl) e13840)), (w_p1 (by decide) (Or.inr rfl) (w_p1 (by decide) (Or.inr rfl) e13841)), (w_p1 (by decide) (Or.inr rfl) (w_p1 (by decide) (Or.inr rfl) e13842)), (w_p1 (by decide) (Or.inr rfl) (w_e1 _ _ _)), (w_e1 _ _ _), by omega⟩ ⟨by omega, by omega⟩
              · have c13905_ : v13904.toInt ≠ 0 := en_k_eq_f c13905
                refine At.enter rfl ?_
                refine r_iconst 1 rfl ?_
                refine r_goto ?_
                refine At.enter rfl ?_
                refine q_iretz (by decide) ?_
                refine At.enter rfl ?_
                refine r_ift (by decide) ?_
                refine At.enter rfl ?_
                refine q_iinc e13844 (x13425.toInt + 1) rfl (by omega) (fun v13910 hv13910 => ?_)
                refine r_goto ?_
                have bv13911 := q_bnd x13424
                exact ih13431 (12 - v13910.toInt) _ _ ⟨x13424, v13910, by first | rfl | omega, hI13835, hF13836, (w_p1 (by decide) (Or.inr rfl) e13840), (w_p1 (by decide) (Or.inr rfl) e13841), (w_p1 (by decide) (Or.inr rfl) e13842), (w_p1 (by decide) (Or.inr rfl) e13843), (w_e1 _ _ _), by omega⟩ ⟨by omega, by omega⟩
