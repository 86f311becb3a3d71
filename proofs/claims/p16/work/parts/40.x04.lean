def F_X8_append_174 : List (Nat × Nat) := [(174, 1)]
def A_X8_append_174 : List Nat := [175]
set_option maxRecDepth 100000 in
set_option maxHeartbeats 4000000 in
theorem T_X8_append_174 (d : Nat) {N : Nat} {g0 : List en_E} (hI0 : HI g0) (a1 : Int32) : Ev (d + 1) 93 [.ref 174, .int a1] (g0, N) (fun w h' => ∃ g', h' = (g', N) ∧ HI g' ∧ Fr F_X8_append_174 A_X8_append_174 g0 g' ∧ w = none ∧ (((gI g0 174 1).toInt ≤ 396 → (gI g' 174 1).toInt = (gI g0 174 1).toInt + 4) ∧ ((gI g0 174 1).toInt ≤ 396 → (∀ i : Int, 0 ≤ i → i < 400 → (eA g' 175 (i)).toInt = if (gI g0 174 1).toInt ≤ i ∧ i < (gI g0 174 1).toInt + 4 then BYT a1 (i - (gI g0 174 1).toInt) else (eA g0 175 (i)).toInt)))) := by
  have hF0 : Fr F_X8_append_174 A_X8_append_174 g0 g0 := Fr.rf
  refine Ev.mk rfl rfl ⟨Nat.le_of_ble_eq_true rfl, Or.inr (q_rc hI0.1 kx_174 rfl)⟩ ?_
  show At _ none _ _ (0, [(0, .ref 174), (1, .int a1)], [], (_, _)) _
  refine At.enter rfl ?_
  refine r_bipush 24 rfl ?_
  refine r_istore_n ([(2, .int 24), (0, .ref 174), (1, .int a1)]) rfl ?_
  refine Ar.fall 3 rfl ?_
  obtain ⟨v219, hv219⟩ : ∃ v, gI g0 174 1 = v := ⟨_, rfl⟩
  have rv219 := RgF.at hI0.2.1 (p := 174) (b := 1) rfl
  rw [hv219] at rv219
  dsimp only at rv219
  have tv219 := congrArg Int32.toInt hv219
  have z_314 : (24 : Int32).toInt = 24 := rfl
  have x315 := HI.eqI hI0 (p := 174) (b := 1) (hv219)
  refine w_loopI (fun n_ l_ g_ => ∃ x298 : Int32, ∃ x299 : Int32, n_ = x298.toInt + 8 ∧ HI g_ ∧ Fr F_X8_append_174 A_X8_append_174 g0 g_ ∧ gI g_ 174 1 = x299 ∧ en_get 0 l_ = some (.ref 174) ∧ en_get 1 l_ = some (.int a1) ∧ en_get 2 l_ = some (.int x298) ∧ ((-8) ≤ x298.toInt ∧ x298.toInt ≤ 24) ∧ (0 ≤ x299.toInt ∧ x299.toInt ≤ 400) ∧ (8 * x299.toInt + x298.toInt = 8 * (gI g0 174 1).toInt + 24) ∧ (∀ i : Int, 0 ≤ i → i < 400 → (eA g_ 175 (i)).toInt = if (gI g0 174 1).toInt ≤ i ∧ i < x299.toInt then BYT a1 (i - (gI g0 174 1).toInt) else (eA g0 175 (i)).toInt)) ?_ (24 + 8) ⟨24, v219, by first | rfl | omega, hI0, hF0, hv219, rfl, rfl, rfl, by decide, by omega, by omega, (by intro i i0 i1; refine Eq.trans ?_ (if_neg (show ¬ ((gI g0 174 1).toInt ≤ i ∧ i < v219.toInt) from by omega)).symm; (first | rfl | exact eA_ix (by omega) | omega))⟩
  rintro n304 l303 g300 ⟨x298, x299, hm316, hI301, hF302, e306, e307, e308, e309, r310, r311, q312, q313⟩ ih305
  have tv317 := congrArg Int32.toInt e306
  refine At.enter rfl ?_
  refine r_iload_n e309 ?_
  refine r_ifs 7 rfl (fun c318 => ?_) (fun c318 => ?_)
  · have c318_ : x298.toInt < 0 := en_k_lt_t c318
    refine At.enter rfl ?_
    refine r_vret ?_
    have x319 := HI.eqI hI301 (p := 174) (b := 1) (e306)
    have x320 := HI.eqI hI0 (p := 174) (b := 1) (hv219)
    exact ⟨_, rfl, hI301, hF302, rfl, ⟨(by omega), fun hz => (by intro i i0 i1; exact (Decidable.em ((gI g0 174 1).toInt ≤ i ∧ i < (gI g0 174 1).toInt + 4)).elim (fun k1_ => by refine Eq.trans ?_ (if_pos k1_).symm; refine ((q313 (i) (by omega) (by omega))).trans ?_; exact (Decidable.em ((gI g0 174 1).toInt ≤ (i) ∧ (i) < x299.toInt)).elim (fun k2_ => by refine (if_pos k2_).trans ?_; (first | rfl | exact eA_ix (by omega) | omega)) (fun k2_ => by refine (if_neg k2_).trans ?_; (first | rfl | exact eA_ix (by omega) | omega))) (fun k1_ => by refine Eq.trans ?_ (if_neg k1_).symm; refine ((q313 (i) (by omega) (by omega))).trans ?_; exact (Decidable.em ((gI g0 174 1).toInt ≤ (i) ∧ (i) < x299.toInt)).elim (fun k3_ => by refine (if_pos k3_).trans ?_; (first | rfl | exact eA_ix (by omega) | omega)) (fun k3_ => by refine (if_neg k3_).trans ?_; (first | rfl | exact eA_ix (by omega) | omega))))⟩⟩
  · have c318_ : x298.toInt ≥ 0 := en_k_lt_f c318
    refine At.enter rfl ?_
    refine r_aload_n e307 ?_
    refine q_getI (Sh.int hI301.1 kx_174 rfl) x299 e306 ?_
    refine r_sipush 400 rfl ?_
    refine r_ics 17 rfl (fun c321 => ?_) (fun c321 => ?_)
    · have c321_ : x299.toInt ≥ 400 := en_i_ge_t c321
      refine At.enter rfl ?_
      refine r_vret ?_
      have x322 := HI.eqI hI301 (p := 174) (b := 1) (e306)
      have x323 := HI.eqI hI0 (p := 174) (b := 1) (hv219)
      exact ⟨_, rfl, hI301, hF302, rfl, ⟨(by omega), fun hz => (by intro i i0 i1; exact (Decidable.em ((gI g0 174 1).toInt ≤ i ∧ i < (gI g0 174 1).toInt + 4)).elim (fun k4_ => by refine Eq.trans ?_ (if_pos k4_).symm; refine ((q313 (i) (by omega) (by omega))).trans ?_; exact (Decidable.em ((gI g0 174 1).toInt ≤ (i) ∧ (i) < x299.toInt)).elim (fun k5_ => by refine (if_pos k5_).trans ?_; (first | rfl | exact eA_ix (by omega) | omega)) (fun k5_ => by refine (if_neg k5_).trans ?_; (first | rfl | exact eA_ix (by omega) | omega))) (fun k4_ => by refine Eq.trans ?_ (if_neg k4_).symm; refine ((q313 (i) (by omega) (by omega))).trans ?_; exact (Decidable.em ((gI g0 174 1).toInt ≤ (i) ∧ (i) < x299.toInt)).elim (fun k6_ => by refine (if_pos k6_).trans ?_; (first | rfl | exact eA_ix (by omega) | omega)) (fun k6_ => by refine (if_neg k6_).trans ?_; (first | rfl | exact eA_ix (by omega) | omega))))⟩⟩
    · have c321_ : x299.toInt < 400 := en_i_ge_f c321
      refine At.enter rfl ?_
      refine r_aload_n e307 ?_
      refine q_getR (Sh.ref hI301.1 kx_174 rfl) ?_
      refine r_aload_n e307 ?_
      refine q_getI (Sh.int hI301.1 kx_174 rfl) x299 e306 ?_
      refine r_iload_n e308 ?_
      refine r_iload_n e309 ?_
      refine q_iushrO (fun v324 hv324 => ?_)
      refine r_sipush 255 rfl ?_
      refine q_iandO (fun v325 hv325 => ?_)
      refine q_iast (Sh.arr hI301.1 ka_175) (x299.toInt) rfl (by omega) ?_
      have hI326 := HI.wA0 hI301 ka_175 (p := 175) rfl rfl (x299.toInt) (v325)
      have hF327 := Fr.wA (p := 175) (j := x299.toInt) (v := v325) hF302 rfl
      refine r_aload_n e307 ?_
      refine r_dup rfl ?_
      refine q_getI (Sh.int hI326.1 kx_174 rfl) x299 ((gI_sW).trans e306) ?_
      refine r_iconst 1 rfl ?_
      refine q_iadd (x299.toInt + 1) rfl (by omega) (fun v328 hv328 => ?_)
      refine q_putI (Sh.int hI326.1 kx_174 rfl) rfl ?_
      have hI329 := HI.wI1 hI326 kx_174 rfl (p := 174) (b := 1) (v := v328) rfl (by dsimp only; omega)
      have hF330 := Fr.wI (p := 174) (b := 1) (v := v328) hF327 rfl
      refine q_iinc e309 (x298.toInt + (-8)) rfl (by omega) (fun v331 hv331 => ?_)
      refine r_goto ?_
      exact ih305 (v331.toInt + 8) _ _ ⟨v331, v328, by first | rfl | omega, hI329, hF330, (gI_sI_eq hI326.1 kx_174 rfl _), (w_p1 (by decide) (Or.inr rfl) e307), (w_p1 (by decide) (Or.inr rfl) e308), (w_e1 _ _ _), by omega, by omega, by omega, (by intro i i0 i1; exact (Decidable.em ((gI g0 174 1).toInt ≤ i ∧ i < v328.toInt)).elim (fun k7_ => by refine Eq.trans ?_ (if_pos k7_).symm; refine (eA_ti ((gA_sI))).trans ?_; exact (Decidable.em (i = x299.toInt)).elim (fun k8_ => by refine (eA_eqT hI301.1 ka_175 k8_ (by first | decide | omega) (by first | decide | omega)).trans ?_; (first | (rfl) | (omega) | (exact BYT.x (by assumption) hv325 (by omega) (by omega)))) (fun k8_ => by refine (eA_neT hI301.1 ka_175 k8_ (by first | decide | omega) (by omega)).trans ?_; refine ((q313 (i) (by omega) (by omega))).trans ?_; exact (Decidable.em ((gI g0 174 1).toInt ≤ (i) ∧ (i) < x299.toInt)).elim (fun k9_ => by refine (if_pos k9_).trans ?_; (first | rfl | exact eA_ix (by omega) | omega)) (fun k9_ => by refine (if_neg k9_).trans ?_; (first | rfl | exact eA_ix (by omega) | omega)))) (fun k7_ => by refine Eq.trans ?_ (if_neg k7_).symm; refine (eA_ti ((gA_sI))).trans ?_; exact (Decidable.em (i = x299.toInt)).elim (fun k10_ => by refine (eA_eqT hI301.1 ka_175 k10_ (by first | decide | omega) (by first | decide | omega)).trans ?_; (first | (rfl) | (omega) | (exact BYT.x (by assumption) hv325 (by omega) (by omega)))) (fun k10_ => by refine (eA_neT hI301.1 ka_175 k10_ (by first | decide | omega) (by omega)).trans ?_; refine ((q313 (i) (by omega) (by omega))).trans ?_; exact (Decidable.em ((gI g0 174 1).toInt ≤ (i) ∧ (i) < x299.toInt)).elim (fun k11_ => by refine (if_pos k11_).trans ?_; (first | rfl | exact eA_ix (by omega) | omega)) (fun k11_ => by refine (if_neg k11_).trans ?_; (first | rfl | exact eA_ix (by omega) | omega)))))⟩ ⟨by omega, by omega⟩

def F_X8_at_174 : List (Nat × Nat) := []
def A_X8_at_174 : List Nat := []
set_option maxRecDepth 100000 in
set_option maxHeartbeats 4000000 in
theorem T_X8_at_174 (d : Nat) {N : Nat} {g0 : List en_E} (hI0 : HI g0) (a1 : Int32) : Ev (d + 1) 94 [.ref 174, .int a1] (g0, N) (fun w h' => ∃ g', h' = (g', N) ∧ HI g' ∧ Fr F_X8_at_174 A_X8_at_174 g0 g' ∧ ∃ r : Int32, w = some (.int r) ∧ True ∧ ((r.toInt ≠ -1 → a1.toInt < (gI g0 174 1).toInt) ∧ (0 ≤ a1.toInt ∧ a1.toInt < (gI g0 174 1).toInt → r.toInt = (eA g0 175 a1.toInt).toInt))) := by
  have hF0 : Fr F_X8_at_174 A_X8_at_174 g0 g0 := Fr.rf
  refine Ev.mk rfl rfl ⟨Nat.le_of_ble_eq_true rfl, Or.inr (q_rc hI0.1 kx_174 rfl)⟩ ?_
  show At _ none _ _ (0, [(0, .ref 174), (1, .int a1)], [], (_, _)) _
  refine At.enter rfl ?_
  refine r_iload_n rfl ?_
  refine r_ifs 4 rfl (fun c15 => ?_) (fun c15 => ?_)
  · have c15_ : a1.toInt < 0 := en_k_lt_t c15
    refine At.enter rfl ?_
    refine r_iconst (-1) rfl ?_
    refine Ar.fall 29 rfl ?_
    refine At.enter rfl ?_
    refine r_ireti ?_
    have zv16 : ((-1) : Int32).toInt = (-1) := rfl
    obtain ⟨v17, hv17⟩ : ∃ v, gI g0 174 1 = v := ⟨_, rfl⟩
    have rv17 := RgF.at hI0.2.1 (p := 174) (b := 1) rfl
    rw [hv17] at rv17
    dsimp only at rv17
    have tv17 := congrArg Int32.toInt hv17
    have x18 := HI.eqI hI0 (p := 174) (b := 1) (hv17)
    exact ⟨_, rfl, hI0, hF0, _, rfl, trivial, ⟨by omega, by omega⟩⟩
  · have c15_ : a1.toInt ≥ 0 := en_k_lt_f c15
    refine At.enter rfl ?_
    refine r_iload_n rfl ?_
    refine r_aload_n rfl ?_
    obtain ⟨v19, hv19⟩ : ∃ v, gI g0 174 1 = v := ⟨_, rfl⟩
    have rv19 := RgF.at hI0.2.1 (p := 174) (b := 1) rfl
    rw [hv19] at rv19
    dsimp only at rv19
    refine q_getI (Sh.int hI0.1 kx_174 rfl) v19 hv19 ?_
    have bv21 := q_bnd a1
    have bv22 := q_bnd v19
    refine r_ics 12 rfl (fun c20 => ?_) (fun c20 => ?_)
    · have c20_ : a1.toInt ≥ v19.toInt := en_i_ge_t c20
      refine At.enter rfl ?_
      refine r_iconst (-1) rfl ?_
      refine Ar.fall 29 rfl ?_
      refine At.enter rfl ?_
      refine r_ireti ?_
      have zv23 : ((-1) : Int32).toInt = (-1) := rfl
      have x24 := HI.eqI hI0 (p := 174) (b := 1) (hv19)
      exact ⟨_, rfl, hI0, hF0, _, rfl, trivial, ⟨by omega, by omega⟩⟩
    · have c20_ : a1.toInt < v19.toInt := en_i_ge_f c20
      refine At.enter rfl ?_
      refine r_iload_n rfl ?_
      refine r_sipush 400 rfl ?_
      refine r_ics 19 rfl (fun c25 => ?_) (fun c25 => ?_)
      · have c25_ : a1.toInt ≥ 400 := en_i_ge_t c25
        exfalso; omega
      · have c25_ : a1.toInt < 400 := en_i_ge_f c25
        refine At.enter rfl ?_
        refine r_aload_n rfl ?_
        refine q_getR (Sh.ref hI0.1 kx_174 rfl) ?_
        refine r_iload_n rfl ?_
        obtain ⟨v26, hv26⟩ : ∃ v, eA g0 175 a1.toInt = v := ⟨_, rfl⟩
        refine q_iald (Sh.arr hI0.1 ka_175) a1.toInt rfl (by omega) v26 hv26 ?_
        refine r_goto ?_
        refine At.enter rfl ?_
        refine r_ireti ?_
        have x27 := HI.eqI hI0 (p := 174) (b := 1) (hv19)
        have y28 := congrArg Int32.toInt hv26
        exact ⟨_, rfl, hI0, hF0, _, rfl, trivial, ⟨by omega, by omega⟩⟩

def F_X9_standAfter_184 : List (Nat × Nat) := []
def A_X9_standAfter_184 : List Nat := []
set_option maxRecDepth 100000 in
set_option maxHeartbeats 4000000 in
theorem T_X9_standAfter_184 (d : Nat) {N : Nat} {g0 : List en_E} (hI0 : HI g0) (a1 : Int32) (a2 : Int32) : Ev (d + 3) 102 [.ref 184, .int a1, .int a2] (g0, N) (fun w h' => ∃ g', h' = (g', N) ∧ HI g' ∧ Fr F_X9_standAfter_184 A_X9_standAfter_184 g0 g' ∧ ∃ r : Int32, w = some (.int r) ∧ True ∧ (r.toInt = itI (NX g0) a2.toInt a1.toInt)) := by
  have hF0 : Fr F_X9_standAfter_184 A_X9_standAfter_184 g0 g0 := Fr.rf
  refine Ev.mk rfl rfl ⟨Nat.le_of_ble_eq_true rfl, Or.inr (q_rc hI0.1 kx_184 rfl)⟩ ?_
  show At _ none _ _ (0, [(0, .ref 184), (1, .int a1), (2, .int a2)], [], (_, _)) _
  refine At.enter rfl ?_
  refine r_iload_n rfl ?_
  refine r_istore_n ([(3, .int a1), (0, .ref 184), (1, .int a1), (2, .int a2)]) rfl ?_
  refine r_iconst 0 rfl ?_
  refine r_istore ([(4, .int 0), (3, .int a1), (0, .ref 184), (1, .int a1), (2, .int a2)]) rfl ?_
  refine Ar.fall 5 rfl ?_
  have z_960 : (0 : Int32).toInt = 0 := rfl
  refine w_loopI (fun n_ l_ g_ => ∃ x943 : Int32, ∃ x944 : Int32, n_ = 2147483647 - x944.toInt ∧ HI g_ ∧ Fr F_X9_standAfter_184 A_X9_standAfter_184 g0 g_ ∧ en_get 0 l_ = some (.ref 184) ∧ en_get 1 l_ = some (.int a1) ∧ en_get 2 l_ = some (.int a2) ∧ en_get 3 l_ = some (.int x943) ∧ en_get 4 l_ = some (.int x944) ∧ 0 ≤ x944.toInt ∧ (x943.toInt = itI (NX g0) x944.toInt a1.toInt) ∧ (0 ≤ x944.toInt) ∧ (x944.toInt ≤ a2.toInt ∨ x944.toInt = 0)) ?_ (2147483647 - 0) ⟨a1, 0, by first | rfl | omega, hI0, hF0, rfl, rfl, rfl, rfl, rfl, by decide, (itI_n _ (by first | decide | omega) _).symm, by omega, by omega⟩
  rintro n949 l948 g945 ⟨x943, x944, hm961, hI946, hF947, e951, e952, e953, e954, e955, r956, q957, q958, q959⟩ ih950
  refine At.enter rfl ?_
  refine r_iload e955 ?_
  refine r_iload_n e953 ?_
  have bv963 := q_bnd x944
  have bv964 := q_bnd a2
  refine r_ics 11 rfl (fun c962 => ?_) (fun c962 => ?_)
  · have c962_ : x944.toInt ≥ a2.toInt := en_i_ge_t c962
    refine At.enter rfl ?_
    refine r_iload_n e954 ?_
    refine r_ireti ?_
    exact ⟨_, rfl, hI946, hF947, _, rfl, trivial, (by first | exact (Decidable.em (a2.toInt ≤ 0)).elim (fun k => (by rw [itI_n _ k]; have z := itI_n (NX g0) (k := x944.toInt) (by omega) a1.toInt; omega)) (fun k => (by rw [show a2.toInt = x944.toInt from by omega]; omega)) | (have z := itI_e (NX.e g0) (i := x944.toInt) (k := a2.toInt) (s := a1.toInt) (by omega) (by omega); omega))⟩
  · have c962_ : x944.toInt < a2.toInt := en_i_ge_f c962
    refine At.enter rfl ?_
    refine r_iload_n e954 ?_
    refine r_iconst (-1) rfl ?_
    refine r_ics 16 rfl (fun c965 => ?_) (fun c965 => ?_)
    · have c965_ : x943.toInt = (-1) := en_i_eq_t c965
      refine At.enter rfl ?_
      refine r_iload_n e954 ?_
      refine r_ireti ?_
      exact ⟨_, rfl, hI946, hF947, _, rfl, trivial, (by first | exact (Decidable.em (a2.toInt ≤ 0)).elim (fun k => (by rw [itI_n _ k]; have z := itI_n (NX g0) (k := x944.toInt) (by omega) a1.toInt; omega)) (fun k => (by rw [show a2.toInt = x944.toInt from by omega]; omega)) | (have z := itI_e (NX.e g0) (i := x944.toInt) (k := a2.toInt) (s := a1.toInt) (by omega) (by omega); omega))⟩
    · have c965_ : x943.toInt ≠ (-1) := en_i_eq_f c965
      refine At.enter rfl ?_
      refine r_aload_n e951 ?_
      refine q_getR (Sh.ref hI946.1 kx_184 rfl) ?_
      refine r_iload_n e954 ?_
      refine r_callV 24 rfl [.ref 1, .int x943] [] (Nat.le_of_ble_eq_true rfl) rfl (T_X0_next_1 _ hI946 x943) ?_
      rintro _ _ ⟨g966, rfl, hI967, hF968, v969, rfl, hr970⟩
      refine At.sti ?_
      have hF971 := Fr.tr hF947 hF968 rfl rfl
      rw [NX.c ((hF947.2.1 2 (by decide))) ((hF947.1 1 0 (by decide)))] at hr970
      refine At.enter rfl ?_
      refine r_istore_n _ rfl ?_
      refine q_iinc (w_p1 (by decide) (Or.inr rfl) e955) (x944.toInt + 1) rfl (by omega) (fun v972 hv972 => ?_)
      refine r_goto ?_
      have bv973 := q_bnd v969
      have bv974 := q_bnd v972
      exact ih950 (2147483647 - v972.toInt) _ _ ⟨v969, v972, by first | rfl | omega, hI967, hF971, (w_p1 (by decide) (Or.inr rfl) (w_p1 (by decide) (Or.inr rfl) e951)), (w_p1 (by decide) (Or.inr rfl) (w_p1 (by decide) (Or.inr rfl) e952)), (w_p1 (by decide) (Or.inr rfl) (w_p1 (by decide) (Or.inr rfl) e953)), (w_p1 (by decide) (Or.inr rfl) (w_e1 _ _ _)), (w_e1 _ _ _), by omega, (by rw [show v972.toInt = x944.toInt + 1 from by omega, itI_s (NX g0) (by omega), ← q957]; omega), by omega, by omega⟩ ⟨by omega, by omega⟩

def F_X9_standOf_184 : List (Nat × Nat) := []
def A_X9_standOf_184 : List Nat := []
set_option maxRecDepth 100000 in
set_option maxHeartbeats 4000000 in
theorem T_X9_standOf_184 (d : Nat) {N : Nat} {g0 : List en_E} (hI0 : HI g0) (a1 : Int32) (a2 : Int32) : Ev (d + 4) 96 [.ref 184, .int a1, .int a2] (g0, N) (fun w h' => ∃ g', h' = (g', N) ∧ HI g' ∧ Fr F_X9_standOf_184 A_X9_standOf_184 g0 g' ∧ ∃ r : Int32, w = some (.int r) ∧ True ∧ ((0 ≤ a1.toInt ∧ a1.toInt < (gI g0 1 4).toInt) → (eA g0 5 (6 * a1.toInt + 2)).toInt ≠ -1 → a2.toInt ≠ -1 → WAYA (NX g0) 11 (eA g0 5 (6 * a1.toInt + 1)).toInt (eA g0 5 (6 * a1.toInt + 2)).toInt a2.toInt r.toInt)) := by
  have hF0 : Fr F_X9_standOf_184 A_X9_standOf_184 g0 g0 := Fr.rf
  refine Ev.mk rfl rfl ⟨Nat.le_of_ble_eq_true rfl, Or.inr (q_rc hI0.1 kx_184 rfl)⟩ ?_
  show At _ none _ _ (0, [(0, .ref 184), (1, .int a1), (2, .int a2)], [], (_, _)) _
  refine At.enter rfl ?_
  refine r_iload_n rfl ?_
  refine r_iconst 0 rfl ?_
  refine r_aload_n rfl ?_
  refine q_getR (Sh.ref hI0.1 kx_184 rfl) ?_
  refine r_iload_n rfl ?_
  refine r_callV 10 rfl [.ref 1, .int a1] [.int 0, .int a2] (Nat.le_of_ble_eq_true rfl) rfl (T_X0_handsOf_1 _ hI0 a1) ?_
  rintro _ _ ⟨g47, rfl, hI48, hF49, v50, rfl, hr51⟩
  refine At.sti ?_
  have hF52 := Fr.tr hF0 hF49 rfl rfl
  refine At.enter rfl ?_
  refine q_inlS 13 rfl [.int a2, .int 0, .int v50] [] (Nat.le_of_ble_eq_true rfl) rfl ?_
  refine Ev.mk rfl rfl ⟨Nat.le_of_ble_eq_true rfl, Or.inl rfl⟩ ?_
  show At _ none _ _ (0, [(0, .int a2), (1, .int 0), (2, .int v50)], [], (_, _)) _
  refine At.enter rfl ?_
  refine r_iload_n rfl ?_
  refine r_iload_n rfl ?_
  refine r_ics 5 rfl (fun c53 => ?_) (fun c53 => ?_)
  · have c53_ : a2.toInt < 0 := en_i_lt_t c53
    refine At.enter rfl ?_
    refine r_iconst 0 rfl ?_
    refine Ar.fall 15 rfl ?_
    refine At.enter rfl ?_
    refine q_iretz (by decide) ?_
    refine At.enter rfl ?_
    refine r_ift (by decide) ?_
    refine At.enter rfl ?_
    refine r_iconst (-1) rfl ?_
    refine Ar.fall 34 rfl ?_
    refine At.enter rfl ?_
    refine r_ireti ?_
    have zv54 : ((-1) : Int32).toInt = (-1) := rfl
    exact ⟨_, rfl, hI48, hF52, _, rfl, trivial, (fun h hw hi => WAYA.mk v50.toInt (hr51.2 h hw) (fun e => absurd e hi) (fun c => by omega) (fun c => by omega))⟩
  · have c53_ : a2.toInt ≥ 0 := en_i_lt_f c53
    refine At.enter rfl ?_
    refine r_iload_n rfl ?_
    refine r_iload_n rfl ?_
    have bv56 := q_bnd a2
    have bv57 := q_bnd v50
    refine r_ics 10 rfl (fun c55 => ?_) (fun c55 => ?_)
    · have c55_ : a2.toInt > v50.toInt := en_i_gt_t c55
      refine At.enter rfl ?_
      refine r_iconst 0 rfl ?_
      refine Ar.fall 15 rfl ?_
      refine At.enter rfl ?_
      refine q_iretz (by decide) ?_
      refine At.enter rfl ?_
      refine r_ift (by decide) ?_
      refine At.enter rfl ?_
      refine r_iconst (-1) rfl ?_
      refine Ar.fall 34 rfl ?_
      refine At.enter rfl ?_
      refine r_ireti ?_
      have zv58 : ((-1) : Int32).toInt = (-1) := rfl
      exact ⟨_, rfl, hI48, hF52, _, rfl, trivial, (fun h hw hi => WAYA.mk v50.toInt (hr51.2 h hw) (fun e => absurd e hi) (fun c => by omega) (fun c => by omega))⟩
    · have c55_ : a2.toInt ≤ v50.toInt := en_i_gt_f c55
      refine At.enter rfl ?_
      refine r_iconst 1 rfl ?_
      refine r_goto ?_
      refine At.enter rfl ?_
      refine q_iretz (by decide) ?_
      refine At.enter rfl ?_
      refine r_iff 16 rfl (by decide) ?_
      refine At.enter rfl ?_
      refine r_aload_n rfl ?_
      refine r_aload_n rfl ?_
      refine q_getR (Sh.ref hI48.1 kx_184 rfl) ?_
      refine r_iload_n rfl ?_
      refine r_iconst 1 rfl ?_
      refine r_callV 26 rfl [.ref 1, .int a1, .int 1] [.ref 184] (Nat.le_of_ble_eq_true rfl) rfl (T_X0_about_1 _ hI48 a1 1) ?_
      rintro _ _ ⟨g59, rfl, hI60, hF61, v62, rfl, hr63⟩
      refine At.sti ?_
      have hF64 := Fr.tr hF52 hF61 rfl rfl
      have zv65 : (1 : Int32).toInt = 1 := rfl
      have ab66_ := ABX.c ((hF49.2.1 5 (by decide))) ((hF49.1 1 4 (by decide))) hr63.2
      have ab66 : ABX g0 a1.toInt 1 v62.toInt := ab66_
      refine At.enter rfl ?_
      refine r_iload_n rfl ?_
      refine r_callV 30 rfl [.ref 184, .int v62, .int a2] [] (Nat.le_of_ble_eq_true rfl) rfl (T_X9_standAfter_184 _ hI60 v62 a2) ?_
      rintro _ _ ⟨g67, rfl, hI68, hF69, v70, rfl, hr71⟩
      refine At.sti ?_
      have hF72 := Fr.tr hF64 hF69 rfl rfl
      rw [NX.cI (((hF61.2.1 2 (by decide)).trans (hF49.2.1 2 (by decide)))) (((hF61.1 1 0 (by decide)).trans (hF49.1 1 0 (by decide))))] at hr71
      refine At.enter rfl ?_
      refine r_goto ?_
      refine At.enter rfl ?_
      refine r_ireti ?_
      exact ⟨_, rfl, hI68, hF72, _, rfl, trivial, (fun h hw hi => WAYA.mk v50.toInt (hr51.2 h hw) (fun e => absurd e hi) (fun c => by have e1 := ab66.1 ⟨h.1, h.2, by decide, by decide⟩; rw [← e1]; omega) (fun c => by omega))⟩

def F_X9_comersTo_184 : List (Nat × Nat) := []
def A_X9_comersTo_184 : List Nat := []
set_option maxRecDepth 100000 in
set_option maxHeartbeats 4000000 in
theorem T_X9_comersTo_184 (d : Nat) {N : Nat} {g0 : List en_E} (hI0 : HI g0) (a1 : Int32) (a2 : Int32) : Ev (d + 3) 97 [.ref 184, .int a1, .int a2] (g0, N) (fun w h' => ∃ g', h' = (g', N) ∧ HI g' ∧ Fr F_X9_comersTo_184 A_X9_comersTo_184 g0 g' ∧ ∃ r : Int32, w = some (.int r) ∧ True) := by
  have hF0 : Fr F_X9_comersTo_184 A_X9_comersTo_184 g0 g0 := Fr.rf
  refine Ev.mk rfl rfl ⟨Nat.le_of_ble_eq_true rfl, Or.inr (q_rc hI0.1 kx_184 rfl)⟩ ?_
  show At _ none _ _ (0, [(0, .ref 184), (1, .int a1), (2, .int a2)], [], (_, _)) _
  refine At.enter rfl ?_
  refine r_iconst 0 rfl ?_
  refine r_istore_n ([(3, .int 0), (0, .ref 184), (1, .int a1), (2, .int a2)]) rfl ?_
  refine r_iconst 0 rfl ?_
  refine r_istore ([(4, .int 0), (3, .int 0), (0, .ref 184), (1, .int a1), (2, .int a2)]) rfl ?_
  refine Ar.fall 5 rfl ?_
  have z_13438 : (0 : Int32).toInt = 0 := rfl
  have z_13439 : (0 : Int32).toInt = 0 := rfl
  refine w_loopI (fun n_ l_ g_ => ∃ x13424 : Int32, ∃ x13425 : Int32, n_ = 12 - x13425.toInt ∧ HI g_ ∧ Fr F_X9_comersTo_184 A_X9_comersTo_184 g0 g_ ∧ en_get 0 l_ = some (.ref 184) ∧ en_get 1 l_ = some (.int a1) ∧ en_get 2 l_ = some (.int a2) ∧ en_get 3 l_ = some (.int x13424) ∧ en_get 4 l_ = some (.int x13425) ∧ (0 ≤ x13425.toInt ∧ x13425.toInt ≤ 12)) ?_ (12 - 0) ⟨0, 0, by first | rfl | omega, hI0, hF0, rfl, rfl, rfl, rfl, rfl, by decide⟩
  rintro n13430 l13429 g13426 ⟨x13424, x13425, hm13440, hI13427, hF13428, e13432, e13433, e13434, e13435, e13436, r13437⟩ ih13431
  refine At.enter rfl ?_
  refine r_iload e13436 ?_
  refine r_aload_n e13432 ?_
  refine q_getR (Sh.ref hI13427.1 kx_184 rfl) ?_
  obtain ⟨v13441, hv13441⟩ : ∃ v, gI g0 1 0 = v := ⟨_, rfl⟩
  have rv13441 := RgF.at hI0.2.1 (p := 1) (b := 0) rfl
  rw [hv13441] at rv13441
  dsimp only at rv13441
  refine q_getI (Sh.int hI13427.1 kx_1 rfl) v13441 ((hF13428.1 1 0 (by decide)).trans hv13441) ?_
  have bv13443 := q_bnd x13425
  have bv13444 := q_bnd v13441
  refine r_ics 17 rfl (fun c13442 => ?_) (fun c13442 => ?_)
  · have c13442_ : x13425.toInt ≥ v13441.toInt := en_i_ge_t c13442
    refine At.enter rfl ?_
    refine r_iload_n e13435 ?_
    refine r_ireti ?_
    exact ⟨_, rfl, hI13427, hF13428, _, rfl, trivial⟩
  · have c13442_ : x13425.toInt < v13441.toInt := en_i_ge_f c13442
    refine At.enter rfl ?_
    refine r_iload e13436 ?_
    refine r_istore _ rfl ?_
    refine r_iconst 0 rfl ?_
    refine r_istore _ rfl ?_
    refine Ar.fall 24 rfl ?_
    have z_13849 : (0 : Int32).toInt = 0 := rfl
    refine w_loopI (fun n_ l_ g_ => ∃ x13832 : Int32, ∃ x13833 : Int32, n_ = 12 - x13833.toInt ∧ HI g_ ∧ Fr F_X9_comersTo_184 A_X9_comersTo_184 g0 g_ ∧ en_get 0 l_ = some (.ref 184) ∧ en_get 1 l_ = some (.int a1) ∧ en_get 2 l_ = some (.int a2) ∧ en_get 3 l_ = some (.int x13424) ∧ en_get 4 l_ = some (.int x13425) ∧ en_get 5 l_ = some (.int x13832) ∧ en_get 6 l_ = some (.int x13833) ∧ ((-1) ≤ x13832.toInt ∧ x13832.toInt ≤ 11) ∧ (0 ≤ x13833.toInt ∧ x13833.toInt ≤ 12)) ?_ (12 - 0) ⟨x13425, 0, by first | rfl | omega, hI13427, hF13428, (w_p1 (by decide) (Or.inr rfl) (w_p1 (by decide) (Or.inr rfl) e13432)), (w_p1 (by decide) (Or.inr rfl) (w_p1 (by decide) (Or.inr rfl) e13433)), (w_p1 (by decide) (Or.inr rfl) (w_p1 (by decide) (Or.inr rfl) e13434)), (w_p1 (by decide) (Or.inr rfl) (w_p1 (by decide) (Or.inr rfl) e13435)), (w_p1 (by decide) (Or.inr rfl) (w_p1 (by decide) (Or.inr rfl) e13436)), (w_p1 (by decide) (Or.inr rfl) (w_e1 _ _ _)), (w_e1 _ _ _), by omega, by decide⟩
    rintro n13838 l13837 g13834 ⟨x13832, x13833, hm13850, hI13835, hF13836, e13840, e13841, e13842, e13843, e13844, e13845, e13846, r13847, r13848⟩ ih13839
    refine At.enter rfl ?_
    refine r_iload e13846 ?_
    refine r_bipush 12 rfl ?_
    refine r_ics 31 rfl (fun c13851 => ?_) (fun c13851 => ?_)
    · have c13851_ : x13833.toInt ≥ 12 := en_i_ge_t c13851
      refine At.enter rfl ?_
      refine r_iload e13845 ?_
      refine r_iload_n e13841 ?_
      refine r_ics 75 rfl (fun c13852 => ?_) (fun c13852 => ?_)
      · have c13852_ : x13832.toInt ≠ a1.toInt := en_i_ne_t c13852
        refine At.enter rfl ?_
        refine q_iinc e13844 (x13425.toInt + 1) rfl (by omega) (fun v13853 hv13853 => ?_)
        refine r_goto ?_
        have bv13854 := q_bnd x13424
        exact ih13431 (12 - v13853.toInt) _ _ ⟨x13424, v13853, by first | rfl | omega, hI13835, hF13836, (w_p1 (by decide) (Or.inr rfl) e13840), (w_p1 (by decide) (Or.inr rfl) e13841), (w_p1 (by decide) (Or.inr rfl) e13842), (w_p1 (by decide) (Or.inr rfl) e13843), (w_e1 _ _ _), by omega⟩ ⟨by omega, by omega⟩
      · have c13852_ : x13832.toInt = a1.toInt := en_i_ne_f c13852
        refine At.enter rfl ?_
        refine r_iload_n e13842 ?_
        refine r_iload_n e13841 ?_
        refine q_inlS 80 rfl [.int a2, .int a1] [] (Nat.le_of_ble_eq_true rfl) rfl ?_
        refine Ev.mk rfl rfl ⟨Nat.le_of_ble_eq_true rfl, Or.inl rfl⟩ ?_
        show At _ none _ _ (0, [(0, .int a2), (1, .int a1)], [], (_, _)) _
        refine At.enter rfl ?_
        refine r_iload_n rfl ?_
        refine r_iload_n rfl ?_
        refine q_ishrO (fun v13855 hv13855 => ?_)
        refine r_iconst 1 rfl ?_
        refine q_iandO (fun v13856 hv13856 => ?_)
        refine r_ifs 8 rfl (fun c13857 => ?_) (fun c13857 => ?_)
        · have c13857_ : v13856.toInt = 0 := en_k_eq_t c13857
          refine At.enter rfl ?_
          refine r_iconst 0 rfl ?_
          refine Ar.fall 13 rfl ?_
          refine At.enter rfl ?_
          refine q_iretz (by decide) ?_
          refine At.enter rfl ?_
          refine r_iff 83 rfl (by decide) ?_
          refine At.enter rfl ?_
          refine r_iload_n e13843 ?_
          refine r_iconst 1 rfl ?_
          refine r_iload e13844 ?_
          refine q_ishlO (fun v13858 hv13858 => ?_)
          refine q_iorO (fun v13859 hv13859 => ?_)
          refine r_istore_n _ rfl ?_
          refine Ar.fall 90 rfl ?_
          refine At.enter rfl ?_
          refine q_iinc (w_p1 (by decide) (Or.inr rfl) e13844) (x13425.toInt + 1) rfl (by omega) (fun v13860 hv13860 => ?_)
          refine r_goto ?_
          have bv13861 := q_bnd v13859
          exact ih13431 (12 - v13860.toInt) _ _ ⟨v13859, v13860, by first | rfl | omega, hI13835, hF13836, (w_p1 (by decide) (Or.inr rfl) (w_p1 (by decide) (Or.inr rfl) e13840)), (w_p1 (by decide) (Or.inr rfl) (w_p1 (by decide) (Or.inr rfl) e13841)), (w_p1 (by decide) (Or.inr rfl) (w_p1 (by decide) (Or.inr rfl) e13842)), (w_p1 (by decide) (Or.inr rfl) (w_e1 _ _ _)), (w_e1 _ _ _), by omega⟩ ⟨by omega, by omega⟩
        · have c13857_ : v13856.toInt ≠ 0 := en_k_eq_f c13857
          refine At.enter rfl ?_
          refine r_iconst 1 rfl ?_
          refine r_goto ?_
          refine At.enter rfl ?_
          refine q_iretz (by decide) ?_
          refine At.enter rfl ?_
          refine r_ift (by decide) ?_
          refine At.enter rfl ?_
          refine q_iinc e13844 (x13425.toInt + 1) rfl (by omega) (fun v13862 hv13862 => ?_)
          refine r_goto ?_
          have bv13863 := q_bnd x13424
          exact ih13431 (12 - v13862.toInt) _ _ ⟨x13424, v13862, by first | rfl | omega, hI13835, hF13836, (w_p1 (by decide) (Or.inr rfl) e13840), (w_p1 (by decide) (Or.inr rfl) e13841), (w_p1 (by decide) (Or.inr rfl) e13842), (w_p1 (by decide) (Or.inr rfl) e13843), (w_e1 _ _ _), by omega⟩ ⟨by omega, by omega⟩
    · have c13851_ : x13833.toInt < 12 := en_i_ge_f c13851
      refine At.enter rfl ?_
      refine r_iload e13845 ?_
      refine r_iconst (-1) rfl ?_
      refine r_ics 37 rfl (fun c13864 => ?_) (fun c13864 => ?_)
      · have c13864_ : x13832.toInt = (-1) := en_i_eq_t c13864
        refine At.enter rfl ?_
        refine r_iload e13845 ?_
        refine r_iload_n e13841 ?_
        refine r_ics 75 rfl (fun c13865 => ?_) (fun c13865 => ?_)
        · have c13865_ : x13832.toInt ≠ a1.toInt := en_i_ne_t c13865
          refine At.enter rfl ?_
          refine q_iinc e13844 (x13425.toInt + 1) rfl (by omega) (fun v13866 hv13866 => ?_)
          refine r_goto ?_
          have bv13867 := q_bnd x13424
          exact ih13431 (12 - v13866.toInt) _ _ ⟨x13424, v13866, by first | rfl | omega, hI13835, hF13836, (w_p1 (by decide) (Or.inr rfl) e13840), (w_p1 (by decide) (Or.inr rfl) e13841), (w_p1 (by decide) (Or.inr rfl) e13842), (w_p1 (by decide) (Or.inr rfl) e13843), (w_e1 _ _ _), by omega⟩ ⟨by omega, by omega⟩
        · have c13865_ : x13832.toInt = a1.toInt := en_i_ne_f c13865
          refine At.enter rfl ?_
          refine r_iload_n e13842 ?_
          refine r_iload_n e13841 ?_
          refine q_inlS 80 rfl [.int a2, .int a1] [] (Nat.le_of_ble_eq_true rfl) rfl ?_
          refine Ev.mk rfl rfl ⟨Nat.le_of_ble_eq_true rfl, Or.inl rfl⟩ ?_
          show At _ none _ _ (0, [(0, .int a2), (1, .int a1)], [], (_, _)) _
          refine At.enter rfl ?_
          refine r_iload_n rfl ?_
          refine r_iload_n rfl ?_
          refine q_ishrO (fun v13868 hv13868 => ?_)
          refine r_iconst 1 rfl ?_
          refine q_iandO (fun v13869 hv13869 => ?_)
          refine r_ifs 8 rfl (fun c13870 => ?_) (fun c13870 => ?_)
          · have c13870_ : v13869.toInt = 0 := en_k_eq_t c13870
            refine At.enter rfl ?_
            refine r_iconst 0 rfl ?_
            refine Ar.fall 13 rfl ?_
            refine At.enter rfl ?_
            refine q_iretz (by decide) ?_
            refine At.enter rfl ?_
            refine r_iff 83 rfl (by decide) ?_
            refine At.enter rfl ?_
            refine r_iload_n e13843 ?_
            refine r_iconst 1 rfl ?_
            refine r_iload e13844 ?_
            refine q_ishlO (fun v13871 hv13871 => ?_)
            refine q_iorO (fun v13872 hv13872 => ?_)
            refine r_istore_n _ rfl ?_
            refine Ar.fall 90 rfl ?_
            refine At.enter rfl ?_
            refine q_iinc (w_p1 (by decide) (Or.inr rfl) e13844) (x13425.toInt + 1) rfl (by omega) (fun v13873 hv13873 => ?_)
            refine r_goto ?_
            have bv13874 := q_bnd v13872
            exact ih13431 (12 - v13873.toInt) _ _ ⟨v13872, v13873, by first | rfl | omega, hI13835, hF13836, (w_p1 (by decide) (Or.inr rfl) (w_p1 (by decide) (Or.inr rfl) e13840)), (w_p1 (by decide) (Or.inr rfl) (w_p1 (by decide) (Or.inr rfl) e13841)), (w_p1 (by decide) (Or.inr rfl) (w_p1 (by decide) (Or.inr rfl) e13842)), (w_p1 (by decide) (Or.inr rfl) (w_e1 _ _ _)), (w_e1 _ _ _), by omega⟩ ⟨by omega, by omega⟩
          · have c13870_ : v13869.toInt ≠ 0 := en_k_eq_f c13870
            refine At.enter rfl ?_
            refine r_iconst 1 rfl ?_
            refine r_goto ?_
            refine At.enter rfl ?_
            refine q_iretz (by decide) ?_
            refine At.enter rfl ?_
            refine r_ift (by decide) ?_
            refine At.enter rfl ?_
            refine q_iinc e13844 (x13425.toInt + 1) rfl (by omega) (fun v13875 hv13875 => ?_)
            refine r_goto ?_
            have bv13876 := q_bnd x13424
            exact ih13431 (12 - v13875.toInt) _ _ ⟨x13424, v13875, by first | rfl | omega, hI13835, hF13836, (w_p1 (by decide) (Or.inr rfl) e13840), (w_p1 (by decide) (Or.inr rfl) e13841), (w_p1 (by decide) (Or.inr rfl) e13842), (w_p1 (by decide) (Or.inr rfl) e13843), (w_e1 _ _ _), by omega⟩ ⟨by omega, by omega⟩
      · have c13864_ : x13832.toInt ≠ (-1) := en_i_eq_f c13864
        refine At.enter rfl ?_
        refine r_iload e13845 ?_
        refine r_iload_n e13841 ?_
        refine r_ics 43 rfl (fun c13877 => ?_) (fun c13877 => ?_)
        · have c13877_ : x13832.toInt = a1.toInt := en_i_eq_t c13877
          refine At.enter rfl ?_
          refine r_iload e13845 ?_
          refine r_iload_n e13841 ?_
          refine r_ics 75 rfl (fun c13878 => ?_) (fun c13878 => ?_)
          · have c13878_ : x13832.toInt ≠ a1.toInt := en_i_ne_t c13878
            refine At.enter rfl ?_
            refine q_iinc e13844 (x13425.toInt + 1) rfl (by omega) (fun v13879 hv13879 => ?_)
            refine r_goto ?_
            have bv13880 := q_bnd x13424
            exact ih13431 (12 - v13879.toInt) _ _ ⟨x13424, v13879, by first | rfl | omega, hI13835, hF13836, (w_p1 (by decide) (Or.inr rfl) e13840), (w_p1 (by decide) (Or.inr rfl) e13841), (w_p1 (by decide) (Or.inr rfl) e13842), (w_p1 (by decide) (Or.inr rfl) e13843), (w_e1 _ _ _), by omega⟩ ⟨by omega, by omega⟩
          · have c13878_ : x13832.toInt = a1.toInt := en_i_ne_f c13878
            refine At.enter rfl ?_
            refine r_iload_n e13842 ?_
            refine r_iload_n e13841 ?_
            refine q_inlS 80 rfl [.int a2, .int a1] [] (Nat.le_of_ble_eq_true rfl) rfl ?_
            refine Ev.mk rfl rfl ⟨Nat.le_of_ble_eq_true rfl, Or.inl rfl⟩ ?_
            show At _ none _ _ (0, [(0, .int a2), (1, .int a1)], [], (_, _)) _
            refine At.enter rfl ?_
            refine r_iload_n rfl ?_
            refine r_iload_n rfl ?_
            refine q_ishrO (fun v13881 hv13881 => ?_)
            refine r_iconst 1 rfl ?_
            refine q_iandO (fun v13882 hv13882 => ?_)
            refine r_ifs 8 rfl (fun c13883 => ?_) (fun c13883 => ?_)
            · have c13883_ : v13882.toInt = 0 := en_k_eq_t c13883
              refine At.enter rfl ?_
              refine r_iconst 0 rfl ?_
              refine Ar.fall 13 rfl ?_
              refine At.enter rfl ?_
              refine q_iretz (by decide) ?_
              refine At.enter rfl ?_
              refine r_iff 83 rfl (by decide) ?_
              refine At.enter rfl ?_
              refine r_iload_n e13843 ?_
              refine r_iconst 1 rfl ?_
              refine r_iload e13844 ?_
              refine q_ishlO (fun v13884 hv13884 => ?_)
              refine q_iorO (fun v13885 hv13885 => ?_)
              refine r_istore_n _ rfl ?_
              refine Ar.fall 90 rfl ?_
              refine At.enter rfl ?_
              refine q_iinc (w_p1 (by decide) (Or.inr rfl) e13844) (x13425.toInt + 1) rfl (by omega) (fun v13886 hv13886 => ?_)
              refine r_goto ?_
              have bv13887 := q_bnd v13885
              exact ih13431 (12 - v13886.toInt) _ _ ⟨v13885, v13886, by first | rfl | omega, hI13835, hF13836, (w_p1 (by decide) (Or.inr rfl) (w_p1 (by decide) (Or.inr rfl) e13840)), (w_p1 (by decide) (Or.inr rfl) (w_p1 (by decide) (Or.inr rfl) e13841)), (w_p1 (by decide) (Or.inr rfl) (w_p1 (by decide) (Or.inr rfl) e13842)), (w_p1 (by decide) (Or.inr rfl) (w_e1 _ _ _)), (w_e1 _ _ _), by omega⟩ ⟨by omega, by omega⟩
            · have c13883_ : v13882.toInt ≠ 0 := en_k_eq_f c13883
              refine At.enter rfl ?_
              refine r_iconst 1 rfl ?_
              refine r_goto ?_
              refine At.enter rfl ?_
              refine q_iretz (by decide) ?_
              refine At.enter rfl ?_
              refine r_ift (by decide) ?_
              refine At.enter rfl ?_
              refine q_iinc e13844 (x13425.toInt + 1) rfl (by omega) (fun v13888 hv13888 => ?_)
              refine r_goto ?_
              have bv13889 := q_bnd x13424
              exact ih13431 (12 - v13888.toInt) _ _ ⟨x13424, v13888, by first | rfl | omega, hI13835, hF13836, (w_p1 (by decide) (Or.inr rfl) e13840), (w_p1 (by decide) (Or.inr rfl) e13841), (w_p1 (by decide) (Or.inr rfl) e13842), (w_p1 (by decide) (Or.inr rfl) e13843), (w_e1 _ _ _), by omega⟩ ⟨by omega, by omega⟩
        · have c13877_ : x13832.toInt ≠ a1.toInt := en_i_eq_f c13877
          refine At.enter rfl ?_
          refine r_iload_n e13842 ?_
          refine r_iload e13845 ?_
          refine q_inlS 49 rfl [.int a2, .int x13832] [] (Nat.le_of_ble_eq_true rfl) rfl ?_
          refine Ev.mk rfl rfl ⟨Nat.le_of_ble_eq_true rfl, Or.inl rfl⟩ ?_
          show At _ none _ _ (0, [(0, .int a2), (1, .int x13832)], [], (_, _)) _
          refine At.enter rfl ?_
          refine r_iload_n rfl ?_
          refine r_iload_n rfl ?_
          refine q_ishrO (fun v13890 hv13890 => ?_)
          refine r_iconst 1 rfl ?_
          refine q_iandO (fun v13891 hv13891 => ?_)
          refine r_ifs 8 rfl (fun c13892 => ?_) (fun c13892 => ?_)
          · have c13892_ : v13891.toInt = 0 := en_k_eq_t c13892
            refine At.enter rfl ?_
            refine r_iconst 0 rfl ?_
            refine Ar.fall 13 rfl ?_
            refine At.enter rfl ?_
            refine q_iretz (by decide) ?_
            refine At.enter rfl ?_
            refine r_iff 52 rfl (by decide) ?_
            refine At.enter rfl ?_
            refine r_aload_n e13840 ?_
            refine q_getR (Sh.ref hI13835.1 kx_184 rfl) ?_
            refine r_iload e13845 ?_
            refine r_callV 61 rfl [.ref 1, .int x13832] [] (Nat.le_of_ble_eq_true rfl) rfl (T_X0_next_1 _ hI13835 x13832) ?_
            rintro _ _ ⟨g13893, rfl, hI13894, hF13895, v13896, rfl, hr13897⟩
            refine At.sti ?_
            have hF13898 := Fr.tr hF13836 hF13895 rfl rfl
            rw [NX.c ((hF13836.2.1 2 (by decide))) ((hF13836.1 1 0 (by decide)))] at hr13897
            refine At.enter rfl ?_
            refine r_istore _ rfl ?_
            refine q_iinc (w_p1 (by decide) (Or.inr rfl) e13846) (x13833.toInt + 1) rfl (by omega) (fun v13899 hv13899 => ?_)
            refine r_goto ?_
            exact ih13839 (12 - v13899.toInt) _ _ ⟨v13896, v13899, by first | rfl | omega, hI13894, hF13898, (w_p1 (by decide) (Or.inr rfl) (w_p1 (by decide) (Or.inr rfl) e13840)), (w_p1 (by decide) (Or.inr rfl) (w_p1 (by decide) (Or.inr rfl) e13841)), (w_p1 (by decide) (Or.inr rfl) (w_p1 (by decide) (Or.inr rfl) e13842)), (w_p1 (by decide) (Or.inr rfl) (w_p1 (by decide) (Or.inr rfl) e13843)), (w_p1 (by decide) (Or.inr rfl) (w_p1 (by decide) (Or.inr rfl) e13844)), (w_p1 (by decide) (Or.inr rfl) (w_e1 _ _ _)), (w_e1 _ _ _), by omega, by omega⟩ ⟨by omega, by omega⟩
          · have c13892_ : v13891.toInt ≠ 0 := en_k_eq_f c13892
            refine At.enter rfl ?_
            refine r_iconst 1 rfl ?_
            refine r_goto ?_
            refine At.enter rfl ?_
            refine q_iretz (by decide) ?_
            refine At.enter rfl ?_
            refine r_ift (by decide) ?_
            refine At.enter rfl ?_
            refine r_iload e13845 ?_
            refine r_iload_n e13841 ?_
            refine r_ics 75 rfl (fun c13900 => ?_) (fun c13900 => ?_)
            · have c13900_ : x13832.toInt ≠ a1.toInt := en_i_ne_t c13900
              refine At.enter rfl ?_
              refine q_iinc e13844 (x13425.toInt + 1) rfl (by omega) (fun v13901 hv13901 => ?_)
              refine r_goto ?_
              have bv13902 := q_bnd x13424
              exact ih13431 (12 - v13901.toInt) _ _ ⟨x13424, v13901, by first | rfl | omega, hI13835, hF13836, (w_p1 (by decide) (Or.inr rfl) e13840), (w_p1 (by decide) (Or.inr rfl) e13841), (w_p1 (by decide) (Or.inr rfl) e13842), (w_p1 (by decide) (Or.inr rfl) e13843), (w_e1 _ _ _), by omega⟩ ⟨by omega, by omega⟩
            · have c13900_ : x13832.toInt = a1.toInt := en_i_ne_f c13900
              refine At.enter rfl ?_
              refine r_iload_n e13842 ?_
              refine r_iload_n e13841 ?_
              refine q_inlS 80 rfl [.int a2, .int a1] [] (Nat.le_of_ble_eq_true rfl) rfl ?_
              refine Ev.mk rfl rfl ⟨Nat.le_of_ble_eq_true rfl, Or.inl rfl⟩ ?_
              show At _ none _ _ (0, [(0, .int a2), (1, .int a1)], [], (_, _)) _
              refine At.enter rfl ?_
              refine r_iload_n rfl ?_
              refine r_iload_n rfl ?_
              refine q_ishrO (fun v13903 hv13903 => ?_)
              refine r_iconst 1 rfl ?_
              refine q_iandO (fun v13904 hv13904 => ?_)
              refine r_ifs 8 rfl (fun c13905 => ?_) (fun c13905 => ?_)
              · have c13905_ : v13904.toInt = 0 := en_k_eq_t c13905
                refine At.enter rfl ?_
                refine r_iconst 0 rfl ?_
                refine Ar.fall 13 rfl ?_
                refine At.enter rfl ?_
                refine q_iretz (by decide) ?_
                refine At.enter rfl ?_
                refine r_iff 83 rfl (by decide) ?_
                refine At.enter rfl ?_
                refine r_iload_n e13843 ?_
                refine r_iconst 1 rfl ?_
                refine r_iload e13844 ?_
                refine q_ishlO (fun v13906 hv13906 => ?_)
                refine q_iorO (fun v13907 hv13907 => ?_)
                refine r_istore_n _ rfl ?_
                refine Ar.fall 90 rfl ?_
                refine At.enter rfl ?_
                refine q_iinc (w_p1 (by decide) (Or.inr rfl) e13844) (x13425.toInt + 1) rfl (by omega) (fun v13908 hv13908 => ?_)
                refine r_goto ?_
                have bv13909 := q_bnd v13907
                exact ih13431 (12 - v13908.toInt) _ _ ⟨v13907, v13908, by first | rfl | omega, hI13835, hF13836, (w_p1 (by decide) (Or.inr rfl) (w_p1 (by decide) (Or.inr rfl) e13840)), (w_p1 (by decide) (Or.inr rfl) (w_p1 (by decide) (Or.inr rfl) e13841)), (w_p1 (by decide) (Or.inr rfl) (w_p1 (by decide) (Or.inr rfl) e13842)), (w_p1 (by decide) (Or.inr rfl) (w_e1 _ _ _)), (w_e1 _ _ _), by omega⟩ ⟨by omega, by omega⟩
              · have c13905_ : v13904.toInt ≠ 0 := en_k_eq_f c13905
                refine At.enter rfl ?_
                refine r_iconst 1 rfl ?_
                refine r_goto ?_
                refine At.enter rfl ?_
                refine q_iretz (by decide) ?_
                refine At.enter rfl ?_
                refine r_ift (by decide) ?_
                refine At.enter rfl ?_
                refine q_iinc e13844 (x13425.toInt + 1) rfl (by omega) (fun v13910 hv13910 => ?_)
                refine r_goto ?_
                have bv13911 := q_bnd x13424
                exact ih13431 (12 - v13910.toInt) _ _ ⟨x13424, v13910, by first | rfl | omega, hI13835, hF13836, (w_p1 (by decide) (Or.inr rfl) e13840), (w_p1 (by decide) (Or.inr rfl) e13841), (w_p1 (by decide) (Or.inr rfl) e13842), (w_p1 (by decide) (Or.inr rfl) e13843), (w_e1 _ _ _), by omega⟩ ⟨by omega, by omega⟩

def F_X9_fitsSigns_184 : List (Nat × Nat) := []
def A_X9_fitsSigns_184 : List Nat := []
set_option maxRecDepth 100000 in
set_option maxHeartbeats 4000000 in
theorem T_X9_fitsSigns_184 (d : Nat) {N : Nat} {g0 : List en_E} (hI0 : HI g0) (a1 : Int32) : Ev (d + 4) 99 [.ref 184, .int a1] (g0, N) (fun w h' => ∃ g', h' = (g', N) ∧ HI g' ∧ Fr F_X9_fitsSigns_184 A_X9_fitsSigns_184 g0 g' ∧ ∃ r : Int32, w = some (.int r) ∧ (0 ≤ r.toInt ∧ r.toInt ≤ 1) ∧ (BL (FITX g0 a1.toInt) r.toInt)) := by
  have hF0 : Fr F_X9_fitsSigns_184 A_X9_fitsSigns_184 g0 g0 := Fr.rf
  refine Ev.mk rfl rfl ⟨Nat.le_of_ble_eq_true rfl, Or.inr (q_rc hI0.1 kx_184 rfl)⟩ ?_
  show At _ none _ _ (0, [(0, .ref 184), (1, .int a1)], [], (_, _)) _
  refine At.enter rfl ?_
  refine r_iconst 0 rfl ?_
  refine r_istore_n ([(2, .int 0), (0, .ref 184), (1, .int a1)]) rfl ?_
  refine Ar.fall 2 rfl ?_
  have z_431 : (0 : Int32).toInt = 0 := rfl
  refine w_loopI (fun n_ l_ g_ => ∃ x418 : Int32, n_ = 8 - x418.toInt ∧ HI g_ ∧ Fr F_X9_fitsSigns_184 A_X9_fitsSigns_184 g0 g_ ∧ en_get 0 l_ = some (.ref 184) ∧ en_get 1 l_ = some (.int a1) ∧ en_get 2 l_ = some (.int x418) ∧ (0 ≤ x418.toInt ∧ x418.toInt ≤ 8) ∧ (∀ k : Int, 0 ≤ k → k < x418.toInt → itI (NX g0) (eA g0 15 k).toInt a1.toInt = (eA g0 14 k).toInt) ∧ (0 ≤ x418.toInt)) ?_ (8 - 0) ⟨0, by first | rfl | omega, hI0, hF0, rfl, rfl, rfl, by decide, (fun k h0 h1 => absurd h1 (by omega)), by omega⟩
  rintro n423 l422 g419 ⟨x418, hm432, hI420, hF421, e425, e426, e427, r428, q429, q430⟩ ih424
  refine At.enter rfl ?_
  refine r_iload_n e427 ?_
  refine r_aload_n e425 ?_
  refine q_getR (Sh.ref hI420.1 kx_184 rfl) ?_
  obtain ⟨v433, hv433⟩ : ∃ v, gI g0 1 12 = v := ⟨_, rfl⟩
  have rv433 := RgF.at hI0.2.1 (p := 1) (b := 12) rfl
  rw [hv433] at rv433
  dsimp only at rv433
  refine q_getI (Sh.int hI420.1 kx_1 rfl) v433 ((hF421.1 1 12 (by decide)).trans hv433) ?_
  have bv435 := q_bnd x418
  have bv436 := q_bnd v433
  refine r_ics 13 rfl (fun c434 => ?_) (fun c434 => ?_)
  · have c434_ : x418.toInt ≥ v433.toInt := en_i_ge_t c434
    refine At.enter rfl ?_
    refine r_iconst 1 rfl ?_
    refine r_iretz (by decide) ?_
    have zv437 : (1 : Int32).toInt = 1 := rfl
    have x438 := HI.eqI hI0 (p := 1) (b := 12) (hv433)
    exact ⟨_, rfl, hI420, hF421, _, rfl, by decide, (FITX.mk (fun k h0 h1 => q429 k h0 (by omega)) (by omega))⟩
  · have c434_ : x418.toInt < v433.toInt := en_i_ge_f c434
    refine At.enter rfl ?_
    refine r_iload_n e427 ?_
    refine r_bipush 8 rfl ?_
    refine r_ics 19 rfl (fun c439 => ?_) (fun c439 => ?_)
    · have c439_ : x418.toInt ≥ 8 := en_i_ge_t c439
      exfalso; omega
    · have c439_ : x418.toInt < 8 := en_i_ge_f c439
      refine At.enter rfl ?_
      refine r_aload_n e425 ?_
      refine r_iload_n e426 ?_
      refine r_aload_n e425 ?_
      refine q_getR (Sh.ref hI420.1 kx_184 rfl) ?_
      refine q_getR (Sh.ref hI420.1 kx_1 rfl) ?_
      refine r_iload_n e427 ?_
      obtain ⟨v440, hv440⟩ : ∃ v, eA g0 15 x418.toInt = v := ⟨_, rfl⟩
      refine q_iald (Sh.arr hI420.1 ka_15) x418.toInt rfl (by omega) v440 ((eA_c (hF421.2.1 15 (by decide))).trans hv440) ?_
      refine r_callV 33 rfl [.ref 184, .int a1, .int v440] [] (Nat.le_of_ble_eq_true rfl) rfl (T_X9_standAfter_184 _ hI420 a1 v440) ?_
      rintro _ _ ⟨g441, rfl, hI442, hF443, v444, rfl, hr445⟩
      refine At.sti ?_
      have hF446 := Fr.tr hF421 hF443 rfl rfl
      rw [NX.cI ((hF421.2.1 2 (by decide))) ((hF421.1 1 0 (by decide)))] at hr445
      refine At.enter rfl ?_
      refine r_aload_n e425 ?_
      refine q_getR (Sh.ref hI442.1 kx_184 rfl) ?_
      refine q_getR (Sh.ref hI442.1 kx_1 rfl) ?_
      refine r_iload_n e427 ?_
      obtain ⟨v447, hv447⟩ : ∃ v, eA g0 14 x418.toInt = v := ⟨_, rfl⟩
      refine q_iald (Sh.arr hI442.1 ka_14) x418.toInt rfl (by omega) v447 ((eA_c ((hF443.2.1 14 (by decide)).trans (hF421.2.1 14 (by decide)))).trans hv447) ?_
      refine r_ics 45 rfl (fun c448 => ?_) (fun c448 => ?_)
      · have c448_ : v444.toInt = v447.toInt := en_i_eq_t c448
        refine At.enter rfl ?_
        refine q_iinc e427 (x418.toInt + 1) rfl (by omega) (fun v449 hv449 => ?_)
        refine r_goto ?_
        exact ih424 (8 - v449.toInt) _ _ ⟨v449, by first | rfl | omega, hI442, hF446, (w_p1 (by decide) (Or.inr rfl) e425), (w_p1 (by decide) (Or.inr rfl) e426), (w_e1 _ _ _), by omega, (fun k h0 h1 => (Decidable.em (k = x418.toInt)).elim (fun e => by rw [e, hv440, hv447]; omega) (fun e => q429 k h0 (by omega))), by omega⟩ ⟨by omega, by omega⟩
      · have c448_ : v444.toInt ≠ v447.toInt := en_i_eq_f c448
        refine At.enter rfl ?_
        refine r_iconst 0 rfl ?_
        refine r_iretz (by decide) ?_
        have zv450 : (0 : Int32).toInt = 0 := rfl
        have x451 := HI.eqI hI0 (p := 1) (b := 12) (hv433)
        exact ⟨_, rfl, hI442, hF446, _, rfl, by decide, (FITX.no x418.toInt (by omega) (by omega) (by rw [hv440, hv447]; omega) (by omega))⟩

def F_X9_suspects_184 : List (Nat × Nat) := []
def A_X9_suspects_184 : List Nat := []
set_option maxRecDepth 100000 in
set_option maxHeartbeats 4000000 in
theorem T_X9_suspects_184 (d : Nat) {N : Nat} {g0 : List en_E} (hI0 : HI g0) : Ev (d + 5) 98 [.ref 184] (g0, N) (fun w h' => ∃ g', h' = (g', N) ∧ HI g' ∧ Fr F_X9_suspects_184 A_X9_suspects_184 g0 g' ∧ ∃ r : Int32, w = some (.int r) ∧ True ∧ (r.toInt = (ACI (FITX g0) (gI g0 1 0).toInt).toInt)) := by
  have hF0 : Fr F_X9_suspects_184 A_X9_suspects_184 g0 g0 := Fr.rf
  refine Ev.mk rfl rfl ⟨Nat.le_of_ble_eq_true rfl, Or.inr (q_rc hI0.1 kx_184 rfl)⟩ ?_
  show At _ none _ _ (0, [(0, .ref 184)], [], (_, _)) _
  refine At.enter rfl ?_
  refine r_iconst 0 rfl ?_
  refine r_istore_n ([(1, .int 0), (0, .ref 184)]) rfl ?_
  refine r_iconst 0 rfl ?_
  refine r_istore_n ([(2, .int 0), (1, .int 0), (0, .ref 184)]) rfl ?_
  refine Ar.fall 4 rfl ?_
  have z_569 : (0 : Int32).toInt = 0 := rfl
  have z_570 : (0 : Int32).toInt = 0 := rfl
  obtain ⟨v571, hv571⟩ : ∃ v, gI g0 1 0 = v := ⟨_, rfl⟩
  have rv571 := RgF.at hI0.2.1 (p := 1) (b := 0) rfl
  rw [hv571] at rv571
  dsimp only at rv571
  have tv571 := congrArg Int32.toInt hv571
  refine w_loopI (fun n_ l_ g_ => ∃ x554 : Int32, ∃ x555 : Int32, n_ = 12 - x555.toInt ∧ HI g_ ∧ Fr F_X9_suspects_184 A_X9_suspects_184 g0 g_ ∧ en_get 0 l_ = some (.ref 184) ∧ en_get 1 l_ = some (.int x554) ∧ en_get 2 l_ = some (.int x555) ∧ (0 ≤ x555.toInt ∧ x555.toInt ≤ 12) ∧ (x554.toInt = (ACI (FITX g0) x555.toInt).toInt) ∧ (0 ≤ x555.toInt) ∧ (x555.toInt ≤ (gI g0 1 0).toInt)) ?_ (12 - 0) ⟨0, 0, by first | rfl | omega, hI0, hF0, rfl, rfl, rfl, by decide, ((by first | rfl | omega : _ = (0 : Int)).trans (ACI.z _ (by first | decide | omega))), by omega, by omega⟩
  rintro n560 l559 g556 ⟨x554, x555, hm572, hI557, hF558, e562, e563, e564, r565, q566, q567, q568⟩ ih561
  refine At.enter rfl ?_
  refine r_iload_n e564 ?_
  refine r_aload_n e562 ?_
  refine q_getR (Sh.ref hI557.1 kx_184 rfl) ?_
  refine q_getI (Sh.int hI557.1 kx_1 rfl) v571 ((hF558.1 1 0 (by decide)).trans hv571) ?_
  have bv574 := q_bnd x555
  have bv575 := q_bnd v571
  refine r_ics 15 rfl (fun c573 => ?_) (fun c573 => ?_)
  · have c573_ : x555.toInt ≥ v571.toInt := en_i_ge_t c573
    refine At.enter rfl ?_
    refine r_iload_n e563 ?_
    refine r_ireti ?_
    have x576 := HI.eqI hI0 (p := 1) (b := 0) (hv571)
    exact ⟨_, rfl, hI557, hF558, _, rfl, trivial, (by rw [show (gI g0 1 0).toInt = x555.toInt from by omega]; exact q566)⟩
  · have c573_ : x555.toInt < v571.toInt := en_i_ge_f c573
    refine At.enter rfl ?_
    refine r_aload_n e562 ?_
    refine r_iload_n e564 ?_
    refine r_callV 20 rfl [.ref 184, .int x555] [] (Nat.le_of_ble_eq_true rfl) rfl (T_X9_fitsSigns_184 _ hI557 x555) ?_
    rintro _ _ ⟨g577, rfl, hI578, hF579, v580, rfl, hr581⟩
    refine At.sti ?_
    have hF582 := Fr.tr hF558 hF579 rfl rfl
    refine At.enter rfl ?_
    refine r_ifs 23 rfl (fun c583 => ?_) (fun c583 => ?_)
    · have c583_ : v580.toInt = 0 := en_k_eq_t c583
      refine At.enter rfl ?_
      refine q_iinc e564 (x555.toInt + 1) rfl (by omega) (fun v584 hv584 => ?_)
      refine r_goto ?_
      have bv585 := q_bnd x554
      exact ih561 (12 - v584.toInt) _ _ ⟨x554, v584, by first | rfl | omega, hI578, hF582, (w_p1 (by decide) (Or.inr rfl) e562), (w_p1 (by decide) (Or.inr rfl) e563), (w_e1 _ _ _), by omega, (ACI.no (by omega) (show v584.toInt = x555.toInt + 1 from by omega) (fun f => BL.no hr581.2 (by omega) (((FITX.c (s := x555.toInt) ((hF558.2.1 2 (by decide))) ((hF558.2.1 14 (by decide))) ((hF558.2.1 15 (by decide))) ((hF558.1 1 0 (by decide))) ((hF558.1 1 12 (by decide))))).mpr f)) q566), by omega, by omega⟩ ⟨by omega, by omega⟩
    · have c583_ : v580.toInt ≠ 0 := en_k_eq_f c583
      refine At.enter rfl ?_
      refine r_iload_n e563 ?_
      refine r_iconst 1 rfl ?_
      refine r_iload_n e564 ?_
      refine q_ishlO (fun v586 hv586 => ?_)
      refine q_iorO (fun v587 hv587 => ?_)
      refine r_istore_n _ rfl ?_
      refine Ar.fall 29 rfl ?_
      refine At.enter rfl ?_
      refine q_iinc (w_p1 (by decide) (Or.inr rfl) e564) (x555.toInt + 1) rfl (by omega) (fun v588 hv588 => ?_)
      refine r_goto ?_
      have bv589 := q_bnd v587
      exact ih561 (12 - v588.toInt) _ _ ⟨v587, v588, by first | rfl | omega, hI578, hF582, (w_p1 (by decide) (Or.inr rfl) (w_p1 (by decide) (Or.inr rfl) e562)), (w_p1 (by decide) (Or.inr rfl) (w_e1 _ _ _)), (w_e1 _ _ _), by omega, (ACI.yes (i := x555) (by omega) (show v588.toInt = x555.toInt + 1 from by omega) (((FITX.c (s := x555.toInt) ((hF558.2.1 2 (by decide))) ((hF558.2.1 14 (by decide))) ((hF558.2.1 15 (by decide))) ((hF558.1 1 0 (by decide))) ((hF558.1 1 12 (by decide))))).mp (BL.yes hr581.2 (by omega))) rfl hv587 (by assumption) q566), by omega, by omega⟩ ⟨by omega, by omega⟩

def F_X9_meeting_184 : List (Nat × Nat) := []
def A_X9_meeting_184 : List Nat := []
set_option maxRecDepth 100000 in
set_option maxHeartbeats 4000000 in
theorem T_X9_meeting_184 (d : Nat) {N : Nat} {g0 : List en_E} (hI0 : HI g0) (a1 : Int32) (a2 : Int32) (a3 : Int32) : Ev (d + 3) 100 [.ref 184, .int a1, .int a2, .int a3] (g0, N) (fun w h' => ∃ g', h' = (g', N) ∧ HI g' ∧ Fr F_X9_meeting_184 A_X9_meeting_184 g0 g' ∧ ∃ r : Int32, w = some (.int r) ∧ True ∧ (MEET (NX g0) 144 a1.toInt a2.toInt a3.toInt r.toInt)) := by
  have hF0 : Fr F_X9_meeting_184 A_X9_meeting_184 g0 g0 := Fr.rf
  refine Ev.mk rfl rfl ⟨Nat.le_of_ble_eq_true rfl, Or.inr (q_rc hI0.1 kx_184 rfl)⟩ ?_
  show At _ none _ _ (0, [(0, .ref 184), (1, .int a1), (2, .int a2), (3, .int a3)], [], (_, _)) _
  refine At.enter rfl ?_
  refine r_iload_n rfl ?_
  refine r_istore ([(4, .int a1), (0, .ref 184), (1, .int a1), (2, .int a2), (3, .int a3)]) rfl ?_
  refine r_iload_n rfl ?_
  refine r_istore ([(5, .int a2), (4, .int a1), (0, .ref 184), (1, .int a1), (2, .int a2), (3, .int a3)]) rfl ?_
  refine r_iconst 0 rfl ?_
  refine r_istore ([(6, .int 0), (5, .int a2), (4, .int a1), (0, .ref 184), (1, .int a1), (2, .int a2), (3, .int a3)]) rfl ?_
  refine Ar.fall 9 rfl ?_
  have z_1160 : (0 : Int32).toInt = 0 := rfl
  refine w_loopI (fun n_ l_ g_ => ∃ x1139 : Int32, ∃ x1140 : Int32, ∃ x1141 : Int32, n_ = 145 - x1141.toInt ∧ HI g_ ∧ Fr F_X9_meeting_184 A_X9_meeting_184 g0 g_ ∧ en_get 0 l_ = some (.ref 184) ∧ en_get 1 l_ = some (.int a1) ∧ en_get 2 l_ = some (.int a2) ∧ en_get 3 l_ = some (.int a3) ∧ en_get 4 l_ = some (.int x1139) ∧ en_get 5 l_ = some (.int x1140) ∧ en_get 6 l_ = some (.int x1141) ∧ (0 ≤ x1141.toInt ∧ x1141.toInt ≤ 145) ∧ (x1139.toInt = itI (NX g0) x1141.toInt a1.toInt) ∧ (x1140.toInt = itI (NX g0) x1141.toInt a2.toInt) ∧ (∀ j : Int, 0 ≤ j → j < x1141.toInt → ¬ MT (NX g0) a1.toInt a2.toInt j) ∧ (0 ≤ x1141.toInt)) ?_ (145 - 0) ⟨a1, a2, 0, by first | rfl | omega, hI0, hF0, rfl, rfl, rfl, rfl, rfl, rfl, rfl, by decide, (itI_n _ (by first | decide | omega) _).symm, (itI_n _ (by first | decide | omega) _).symm, (fun j h0 h1 => absurd h1 (by omega)), by omega⟩
  rintro n1146 l1145 g1142 ⟨x1139, x1140, x1141, hm1161, hI1143, hF1144, e1148, e1149, e1150, e1151, e1152, e1153, e1154, r1155, q1156, q1157, q1158, q1159⟩ ih1147
  refine At.enter rfl ?_
  refine r_iload e1154 ?_
  refine r_sipush 144 rfl ?_
  refine r_ics 17 rfl (fun c1162 => ?_) (fun c1162 => ?_)
  · have c1162_ : x1141.toInt > 144 := en_i_gt_t c1162
    refine At.enter rfl ?_
    refine r_iconst (-1) rfl ?_
    refine r_ireti ?_
    have zv1163 : ((-1) : Int32).toInt = (-1) := rfl
    exact ⟨_, rfl, hI1143, hF1144, _, rfl, trivial, (by first | exact MEET.a x1141.toInt (by omega) (by omega) (by rw [← q1156, ← q1157]; omega) (by rw [← q1156]; omega) q1158 (by omega) (by rw [← q1156]; omega) | exact MEET.n (NX.e g0) q1158 (by rw [← q1156, ← q1157]; omega) (by omega))⟩
  · have c1162_ : x1141.toInt ≤ 144 := en_i_gt_f c1162
    refine At.enter rfl ?_
    refine r_iload e1152 ?_
    refine r_iconst (-1) rfl ?_
    refine r_ics 23 rfl (fun c1164 => ?_) (fun c1164 => ?_)
    · have c1164_ : x1139.toInt = (-1) := en_i_eq_t c1164
      refine At.enter rfl ?_
      refine r_iconst (-1) rfl ?_
      refine r_ireti ?_
      have zv1165 : ((-1) : Int32).toInt = (-1) := rfl
      exact ⟨_, rfl, hI1143, hF1144, _, rfl, trivial, (by first | exact MEET.a x1141.toInt (by omega) (by omega) (by rw [← q1156, ← q1157]; omega) (by rw [← q1156]; omega) q1158 (by omega) (by rw [← q1156]; omega) | exact MEET.n (NX.e g0) q1158 (by rw [← q1156, ← q1157]; omega) (by omega))⟩
    · have c1164_ : x1139.toInt ≠ (-1) := en_i_eq_f c1164
      refine At.enter rfl ?_
      refine r_iload e1153 ?_
      refine r_iconst (-1) rfl ?_
      refine r_ics 29 rfl (fun c1166 => ?_) (fun c1166 => ?_)
      · have c1166_ : x1140.toInt = (-1) := en_i_eq_t c1166
        refine At.enter rfl ?_
        refine r_iconst (-1) rfl ?_
        refine r_ireti ?_
        have zv1167 : ((-1) : Int32).toInt = (-1) := rfl
        exact ⟨_, rfl, hI1143, hF1144, _, rfl, trivial, (by first | exact MEET.a x1141.toInt (by omega) (by omega) (by rw [← q1156, ← q1157]; omega) (by rw [← q1156]; omega) q1158 (by omega) (by rw [← q1156]; omega) | exact MEET.n (NX.e g0) q1158 (by rw [← q1156, ← q1157]; omega) (by omega))⟩
      · have c1166_ : x1140.toInt ≠ (-1) := en_i_eq_f c1166
        refine At.enter rfl ?_
        refine r_iload e1152 ?_
        refine r_iload e1153 ?_
        refine r_ics 36 rfl (fun c1168 => ?_) (fun c1168 => ?_)
        · have c1168_ : x1139.toInt ≠ x1140.toInt := en_i_ne_t c1168
          refine At.enter rfl ?_
          refine r_aload_n e1148 ?_
          refine q_getR (Sh.ref hI1143.1 kx_184 rfl) ?_
          refine r_iload e1152 ?_
          refine r_callV 57 rfl [.ref 1, .int x1139] [] (Nat.le_of_ble_eq_true rfl) rfl (T_X0_next_1 _ hI1143 x1139) ?_
          rintro _ _ ⟨g1169, rfl, hI1170, hF1171, v1172, rfl, hr1173⟩
          refine At.sti ?_
          have hF1174 := Fr.tr hF1144 hF1171 rfl rfl
          rw [NX.c ((hF1144.2.1 2 (by decide))) ((hF1144.1 1 0 (by decide)))] at hr1173
          refine At.enter rfl ?_
          refine r_istore _ rfl ?_
          refine r_aload_n (w_p1 (by decide) (Or.inr rfl) e1148) ?_
          refine q_getR (Sh.ref hI1170.1 kx_184 rfl) ?_
          refine r_iload (w_p1 (by decide) (Or.inr rfl) e1153) ?_
          refine r_callV 68 rfl [.ref 1, .int x1140] [] (Nat.le_of_ble_eq_true rfl) rfl (T_X0_next_1 _ hI1170 x1140) ?_
          rintro _ _ ⟨g1175, rfl, hI1176, hF1177, v1178, rfl, hr1179⟩
          refine At.sti ?_
          have hF1180 := Fr.tr hF1174 hF1177 rfl rfl
          rw [NX.c (((hF1171.2.1 2 (by decide)).trans (hF1144.2.1 2 (by decide)))) (((hF1171.1 1 0 (by decide)).trans (hF1144.1 1 0 (by decide))))] at hr1179
          refine At.enter rfl ?_
          refine r_istore _ rfl ?_
          refine q_iinc (w_p1 (by decide) (Or.inr rfl) (w_p1 (by decide) (Or.inr rfl) e1154)) (x1141.toInt + 1) rfl (by omega) (fun v1181 hv1181 => ?_)
          refine r_goto ?_
          have bv1182 := q_bnd v1172
          have bv1183 := q_bnd v1178
          exact ih1147 (145 - v1181.toInt) _ _ ⟨v1172, v1178, v1181, by first | rfl | omega, hI1176, hF1180, (w_p1 (by decide) (Or.inr rfl) (w_p1 (by decide) (Or.inr rfl) (w_p1 (by decide) (Or.inr rfl) e1148))), (w_p1 (by decide) (Or.inr rfl) (w_p1 (by decide) (Or.inr rfl) (w_p1 (by decide) (Or.inr rfl) e1149))), (w_p1 (by decide) (Or.inr rfl) (w_p1 (by decide) (Or.inr rfl) (w_p1 (by decide) (Or.inr rfl) e1150))), (w_p1 (by decide) (Or.inr rfl) (w_p1 (by decide) (Or.inr rfl) (w_p1 (by decide) (Or.inr rfl) e1151))), (w_p1 (by decide) (Or.inr rfl) (w_p1 (by decide) (Or.inr rfl) (w_e1 _ _ _))), (w_p1 (by decide) (Or.inr rfl) (w_e1 _ _ _)), (w_e1 _ _ _), by omega, (by rw [show v1181.toInt = x1141.toInt + 1 from by omega, itI_s (NX g0) (by omega), ← q1156]; omega), (by rw [show v1181.toInt = x1141.toInt + 1 from by omega, itI_s (NX g0) (by omega), ← q1157]; omega), (MT.step q1158 (by rw [← q1156, ← q1157]; omega) (show v1181.toInt = x1141.toInt + 1 from by omega)), by omega⟩ ⟨by omega, by omega⟩
        · have c1168_ : x1139.toInt = x1140.toInt := en_i_ne_f c1168
          refine At.enter rfl ?_
          refine r_iload_n e1151 ?_
          refine r_ifs 40 rfl (fun c1184 => ?_) (fun c1184 => ?_)
          · have c1184_ : a3.toInt ≠ 0 := en_k_ne_t c1184
            refine At.enter rfl ?_
            refine r_iload e1152 ?_
            refine Ar.fall 47 rfl ?_
            refine At.enter rfl ?_
            refine r_ireti ?_
            exact ⟨_, rfl, hI1143, hF1144, _, rfl, trivial, (by first | exact MEET.a x1141.toInt (by omega) (by omega) (by rw [← q1156, ← q1157]; omega) (by rw [← q1156]; omega) q1158 (by omega) (by rw [← q1156]; omega) | exact MEET.n (NX.e g0) q1158 (by rw [← q1156, ← q1157]; omega) (by omega))⟩
          · have c1184_ : a3.toInt = 0 := en_k_ne_f c1184
            refine At.enter rfl ?_
            refine r_iload e1154 ?_
            refine r_goto ?_
            refine At.enter rfl ?_
            refine r_ireti ?_
            exact ⟨_, rfl, hI1143, hF1144, _, rfl, trivial, (by first | exact MEET.a x1141.toInt (by omega) (by omega) (by rw [← q1156, ← q1157]; omega) (by rw [← q1156]; omega) q1158 (by omega) (by rw [← q1156]; omega) | exact MEET.n (NX.e g0) q1158 (by rw [← q1156, ← q1157]; omega) (by omega))⟩

def F_X9_minutesInPieces_184 : List (Nat × Nat) := []
def A_X9_minutesInPieces_184 : List Nat := []
set_option maxRecDepth 100000 in
set_option maxHeartbeats 4000000 in
theorem T_X9_minutesInPieces_184 (d : Nat) {N : Nat} {g0 : List en_E} (hI0 : HI g0) (a1 : Int32) : Ev (d + 4) 101 [.ref 184, .int a1] (g0, N) (fun w h' => ∃ g', h' = (g', N) ∧ HI g' ∧ Fr F_X9_minutesInPieces_184 A_X9_minutesInPieces_184 g0 g' ∧ ∃ r : Int32, w = some (.int r) ∧ True ∧ ((0 ≤ a1.toInt ∧ a1.toInt < (gI g0 1 4).toInt) → (eA g0 5 (6 * a1.toInt + 2)).toInt ≠ -1 → PCE (NX g0) (SX g0) 11 (eA g0 5 (6 * a1.toInt + 1)).toInt (eA g0 5 (6 * a1.toInt + 2)).toInt (eA g0 5 (6 * a1.toInt + 0)).toInt r)) := by
  have hF0 : Fr F_X9_minutesInPieces_184 A_X9_minutesInPieces_184 g0 g0 := Fr.rf
  refine Ev.mk rfl rfl ⟨Nat.le_of_ble_eq_true rfl, Or.inr (q_rc hI0.1 kx_184 rfl)⟩ ?_
  show At _ none _ _ (0, [(0, .ref 184), (1, .int a1)], [], (_, _)) _
  refine At.enter rfl ?_
  refine r_aload_n rfl ?_
  refine q_getR (Sh.ref hI0.1 kx_184 rfl) ?_
  refine r_iload_n rfl ?_
  refine r_callV 8 rfl [.ref 1, .int a1] [] (Nat.le_of_ble_eq_true rfl) rfl (T_X0_handsOf_1 _ hI0 a1) ?_
  rintro _ _ ⟨g1175, rfl, hI1176, hF1177, v1178, rfl, hr1179⟩
  refine At.sti ?_
  have hF1180 := Fr.tr hF0 hF1177 rfl rfl
  refine At.enter rfl ?_
  refine r_istore_n ([(2, .int v1178), (0, .ref 184), (1, .int a1)]) rfl ?_
  refine r_aload_n rfl ?_
  refine q_getR (Sh.ref hI1176.1 kx_184 rfl) ?_
  refine r_iload_n rfl ?_
  refine r_iconst 1 rfl ?_
  refine r_callV 18 rfl [.ref 1, .int a1, .int 1] [] (Nat.le_of_ble_eq_true rfl) rfl (T_X0_about_1 _ hI1176 a1 1) ?_
  rintro _ _ ⟨g1181, rfl, hI1182, hF1183, v1184, rfl, hr1185⟩
  refine At.sti ?_
  have hF1186 := Fr.tr hF1180 hF1183 rfl rfl
  have zv1187 : (1 : Int32).toInt = 1 := rfl
  have ab1188_ := ABX.c ((hF1177.2.1 5 (by decide))) ((hF1177.1 1 4 (by decide))) hr1185.2
  have ab1188 : ABX g0 a1.toInt 1 v1184.toInt := ab1188_
  refine At.enter rfl ?_
  refine r_istore_n ([(3, .int v1184), (2, .int v1178), (0, .ref 184), (1, .int a1)]) rfl ?_
  refine r_bipush 9 rfl ?_
  refine r_istore ([(4, .int 9), (3, .int v1184), (2, .int v1178), (0, .ref 184), (1, .int a1)]) rfl ?_
  refine r_iconst 0 rfl ?_
  refine r_istore ([(5, .int 0), (4, .int 9), (3, .int v1184), (2, .int v1178), (0, .ref 184), (1, .int a1)]) rfl ?_
  refine Ar.fall 26 rfl ?_
  have z_1701 : (9 : Int32).toInt = 9 := rfl
  have z_1702 : (0 : Int32).toInt = 0 := rfl
  refine w_loopI (fun n_ l_ g_ => ∃ x1680 : Int32, ∃ x1681 : Int32, ∃ x1682 : Int32, n_ = 11 - x1682.toInt ∧ HI g_ ∧ Fr F_X9_minutesInPieces_184 A_X9_minutesInPieces_184 g0 g_ ∧ en_get 0 l_ = some (.ref 184) ∧ en_get 1 l_ = some (.int a1) ∧ en_get 2 l_ = some (.int v1178) ∧ en_get 3 l_ = some (.int x1680) ∧ en_get 4 l_ = some (.int x1681) ∧ en_get 5 l_ = some (.int x1682) ∧ x1681.toInt ≤ 9 ∧ (0 ≤ x1682.toInt ∧ x1682.toInt ≤ 11) ∧ (x1680.toInt = itI (NX g0) x1682.toInt v1184.toInt) ∧ (x1681.toInt = LSI (NX g0) (SX g0) x1682.toInt v1184.toInt) ∧ (0 ≤ x1682.toInt) ∧ (x1682.toInt ≤ v1178.toInt ∨ x1682.toInt = 0)) ?_ (11 - 0) ⟨v1184, 9, 0, by first | rfl | omega, hI1182, hF1186, rfl, rfl, rfl, rfl, rfl, rfl, by decide, by decide, (itI_n _ (by first | decide | omega) _).symm, (LSI.z _ _ _ (by first | decide | omega)), by omega, by omega⟩
  rintro n1687 l1686 g1683 ⟨x1680, x1681, x1682, hm1703, hI1684, hF1685, e1689, e1690, e1691, e1692, e1693, e1694, r1695, r1696, q1697, q1698, q1699, q1700⟩ ih1688
  refine At.enter rfl ?_
  refine r_iload e1694 ?_
  refine r_iload_n e1691 ?_
  have bv1705 := q_bnd x1682
  have bv1706 := q_bnd v1178
  refine r_ics 32 rfl (fun c1704 => ?_) (fun c1704 => ?_)
  · have c1704_ : x1682.toInt ≥ v1178.toInt := en_i_ge_t c1704
    refine At.enter rfl ?_
    refine r_iload_n e1691 ?_
    refine r_ifs 78 rfl (fun c1707 => ?_) (fun c1707 => ?_)
    · have c1707_ : v1178.toInt ≤ 0 := en_k_le_t c1707
      refine At.enter rfl ?_
      refine r_iload_n e1691 ?_
      refine r_ireti ?_
      obtain ⟨v1708, hv1708⟩ : ∃ v, gI g0 1 0 = v := ⟨_, rfl⟩
      have rv1708 := RgF.at hI0.2.1 (p := 1) (b := 0) rfl
      rw [hv1708] at rv1708
      dsimp only at rv1708
      have tv1708 := congrArg Int32.toInt hv1708
      have x1709 := HI.eqI hI0 (p := 1) (b := 0) (hv1708)
      exact ⟨_, rfl, hI1684, hF1685, _, rfl, trivial, (fun h hw => by have e1 := ab1188.1 ⟨h.1, h.2, by decide, by decide⟩; have wf := hr1179.2 h hw; rw [← e1] at wf; rw [← e1]; first | (exact PCE.few v1178 wf (by omega) (by omega)) | (exact PCE.low v1178 x1681 wf (by rw [show v1178.toInt = x1682.toInt from by omega]; exact q1698) (by omega) (by omega)) | ((exfalso; have z := WAYF.stand wf hw (by omega) (by omega) q1697; omega)))⟩
    · have c1707_ : v1178.toInt > 0 := en_k_le_f c1707
      refine At.enter rfl ?_
      refine r_iload e1693 ?_
      refine r_iconst 1 rfl ?_
      refine r_ics 84 rfl (fun c1710 => ?_) (fun c1710 => ?_)
      · have c1710_ : x1681.toInt ≥ 1 := en_i_ge_t c1710
        refine At.enter rfl ?_
        refine r_iload_n e1691 ?_
        refine r_aload_n e1689 ?_
        refine q_getR (Sh.ref hI1684.1 kx_184 rfl) ?_
        refine r_iload_n e1690 ?_
        refine r_iconst 0 rfl ?_
        refine r_callV 96 rfl [.ref 1, .int a1, .int 0] [.int v1178] (Nat.le_of_ble_eq_true rfl) rfl (T_X0_about_1 _ hI1684 a1 0) ?_
        rintro _ _ ⟨g1711, rfl, hI1712, hF1713, v1714, rfl, hr1715⟩
        refine At.sti ?_
        have hF1716 := Fr.tr hF1685 hF1713 rfl rfl
        have zv1717 : (0 : Int32).toInt = 0 := rfl
        have ab1718_ := ABX.c ((hF1685.2.1 5 (by decide))) ((hF1685.1 1 4 (by decide))) hr1715.2
        have ab1718 : ABX g0 a1.toInt 0 v1714.toInt := ab1718_
        refine At.enter rfl ?_
        refine r_iload e1693 ?_
        refine q_iaddO (fun v1719 ov1719 => ?_)
        refine r_iconst 1 rfl ?_
        refine q_isubO (fun v1720 ov1720 => ?_)
        refine r_iload e1693 ?_
        refine q_idivO (by omega) (fun v1721 ov1721 => ?_)
        refine q_iaddO (fun v1722 ov1722 => ?_)
        refine r_iconst 1 rfl ?_
        refine q_isubO (fun v1723 ov1723 => ?_)
        refine r_ireti ?_
        obtain ⟨v1724, hv1724⟩ : ∃ v, gI g0 1 0 = v := ⟨_, rfl⟩
        have rv1724 := RgF.at hI0.2.1 (p := 1) (b := 0) rfl
        rw [hv1724] at rv1724
        dsimp only at rv1724
        have tv1724 := congrArg Int32.toInt hv1724
        have x1725 := HI.eqI hI0 (p := 1) (b := 0) (hv1724)
        exact ⟨_, rfl, hI1712, hF1716, _, rfl, trivial, (fun h hw => by have e1 := ab1188.1 ⟨h.1, h.2, by decide, by decide⟩; have wf := hr1179.2 h hw; rw [← e1] at wf; rw [← e1]; first | (exact PCE.few v1178 wf (by omega) (by omega)) | (exact PCE.low v1178 x1681 wf (by rw [show v1178.toInt = x1682.toInt from by omega]; exact q1698) (by omega) (by omega)) | (exact PCE.mk v1178 x1681 v1714 wf (by rw [show v1178.toInt = x1682.toInt from by omega]; exact q1698) (by omega) (by omega) (ab1718.1 ⟨h.1, h.2, by decide, by decide⟩) (by rw [ov1723, ov1722, ov1721, ov1720, ov1719])) | ((exfalso; have z := WAYF.stand wf hw (by omega) (by omega) q1697; omega)))⟩
      · have c1710_ : x1681.toInt < 1 := en_i_ge_f c1710
        refine At.enter rfl ?_
        refine r_iload_n e1691 ?_
        refine r_ireti ?_
        obtain ⟨v1726, hv1726⟩ : ∃ v, gI g0 1 0 = v := ⟨_, rfl⟩
        have rv1726 := RgF.at hI0.2.1 (p := 1) (b := 0) rfl
        rw [hv1726] at rv1726
        dsimp only at rv1726
        have tv1726 := congrArg Int32.toInt hv1726
        have x1727 := HI.eqI hI0 (p := 1) (b := 0) (hv1726)
        exact ⟨_, rfl, hI1684, hF1685, _, rfl, trivial, (fun h hw => by have e1 := ab1188.1 ⟨h.1, h.2, by decide, by decide⟩; have wf := hr1179.2 h hw; rw [← e1] at wf; rw [← e1]; first | (exact PCE.few v1178 wf (by omega) (by omega)) | (exact PCE.low v1178 x1681 wf (by rw [show v1178.toInt = x1682.toInt from by omega]; exact q1698) (by omega) (by omega)) | ((exfalso; have z := WAYF.stand wf hw (by omega) (by omega) q1697; omega)))⟩
  · have c1704_ : x1682.toInt < v1178.toInt := en_i_ge_f c1704
    refine At.enter rfl ?_
    refine r_aload_n e1689 ?_
    refine q_getR (Sh.ref hI1684.1 kx_184 rfl) ?_
    refine r_iload_n e1692 ?_
    refine q_inlV 40 rfl [.ref 1, .int x1680] [] (Nat.le_of_ble_eq_true rfl) rfl ?_
    refine Ev.mk rfl rfl ⟨Nat.le_of_ble_eq_true rfl, Or.inr (q_rc hI1684.1 kx_1 rfl)⟩ ?_
    show At _ none _ _ (0, [(0, .ref 1), (1, .int x1680)], [], (_, _)) _
    refine At.enter rfl ?_
    refine r_iload_n rfl ?_
    refine r_ifs 4 rfl (fun c1728 => ?_) (fun c1728 => ?_)
    · have c1728_ : x1680.toInt < 0 := en_k_lt_t c1728
      refine At.enter rfl ?_
      refine r_iconst 0 rfl ?_
      refine Ar.fall 17 rfl ?_
      refine At.enter rfl ?_
      refine q_iretz (by decide) ?_
      refine At.enter rfl ?_
      refine r_ift (by decide) ?_
      refine At.enter rfl ?_
      refine r_iload_n e1691 ?_
      refine r_ifs 78 rfl (fun c1729 => ?_) (fun c1729 => ?_)
      · have c1729_ : v1178.toInt ≤ 0 := en_k_le_t c1729
        exfalso; omega
      · have c1729_ : v1178.toInt > 0 := en_k_le_f c1729
        refine At.enter rfl ?_
        refine r_iload e1693 ?_
        refine r_iconst 1 rfl ?_
        refine r_ics 84 rfl (fun c1730 => ?_) (fun c1730 => ?_)
        · have c1730_ : x1681.toInt ≥ 1 := en_i_ge_t c1730
          refine At.enter rfl ?_
          refine r_iload_n e1691 ?_
          refine r_aload_n e1689 ?_
          refine q_getR (Sh.ref hI1684.1 kx_184 rfl) ?_
          refine r_iload_n e1690 ?_
          refine r_iconst 0 rfl ?_
          refine r_callV 96 rfl [.ref 1, .int a1, .int 0] [.int v1178] (Nat.le_of_ble_eq_true rfl) rfl (T_X0_about_1 _ hI1684 a1 0) ?_
          rintro _ _ ⟨g1731, rfl, hI1732, hF1733, v1734, rfl, hr1735⟩
          refine At.sti ?_
          have hF1736 := Fr.tr hF1685 hF1733 rfl rfl
          have zv1737 : (0 : Int32).toInt = 0 := rfl
          have ab1738_ := ABX.c ((hF1685.2.1 5 (by decide))) ((hF1685.1 1 4 (by decide))) hr1735.2
          have ab1738 : ABX g0 a1.toInt 0 v1734.toInt := ab1738_
          refine At.enter rfl ?_
          refine r_iload e1693 ?_
          refine q_iaddO (fun v1739 ov1739 => ?_)
          refine r_iconst 1 rfl ?_
          refine q_isubO (fun v1740 ov1740 => ?_)
          refine r_iload e1693 ?_
          refine q_idivO (by omega) (fun v1741 ov1741 => ?_)
          refine q_iaddO (fun v1742 ov1742 => ?_)
          refine r_iconst 1 rfl ?_
          refine q_isubO (fun v1743 ov1743 => ?_)
          refine r_ireti ?_
          obtain ⟨v1744, hv1744⟩ : ∃ v, gI g0 1 0 = v := ⟨_, rfl⟩
          have rv1744 := RgF.at hI0.2.1 (p := 1) (b := 0) rfl
          rw [hv1744] at rv1744
          dsimp only at rv1744
          have tv1744 := congrArg Int32.toInt hv1744
          have x1745 := HI.eqI hI0 (p := 1) (b := 0) (hv1744)
          exact ⟨_, rfl, hI1732, hF1736, _, rfl, trivial, (fun h hw => by have e1 := ab1188.1 ⟨h.1, h.2, by decide, by decide⟩; have wf := hr1179.2 h hw; rw [← e1] at wf; rw [← e1]; first | (exact PCE.few v1178 wf (by omega) (by omega)) | (exact PCE.low v1178 x1681 wf (by rw [show v1178.toInt = x1682.toInt from by omega]; exact q1698) (by omega) (by omega)) | (exact PCE.mk v1178 x1681 v1734 wf (by rw [show v1178.toInt = x1682.toInt from by omega]; exact q1698) (by omega) (by omega) (ab1738.1 ⟨h.1, h.2, by decide, by decide⟩) (by rw [ov1743, ov1742, ov1741, ov1740, ov1739])) | ((exfalso; have z := WAYF.stand wf hw (by omega) (by omega) q1697; omega)))⟩
        · have c1730_ : x1681.toInt < 1 := en_i_ge_f c1730
          refine At.enter rfl ?_
          refine r_iload_n e1691 ?_
          refine r_ireti ?_
          obtain ⟨v1746, hv1746⟩ : ∃ v, gI g0 1 0 = v := ⟨_, rfl⟩
          have rv1746 := RgF.at hI0.2.1 (p := 1) (b := 0) rfl
          rw [hv1746] at rv1746
          dsimp only at rv1746
          have tv1746 := congrArg Int32.toInt hv1746
          have x1747 := HI.eqI hI0 (p := 1) (b := 0) (hv1746)
          exact ⟨_, rfl, hI1684, hF1685, _, rfl, trivial, (fun h hw => by have e1 := ab1188.1 ⟨h.1, h.2, by decide, by decide⟩; have wf := hr1179.2 h hw; rw [← e1] at wf; rw [← e1]; first | (exact PCE.few v1178 wf (by omega) (by omega)) | (exact PCE.low v1178 x1681 wf (by rw [show v1178.toInt = x1682.toInt from by omega]; exact q1698) (by omega) (by omega)) | ((exfalso; have z := WAYF.stand wf hw (by omega) (by omega) q1697; omega)))⟩
    · have c1728_ : x1680.toInt ≥ 0 := en_k_lt_f c1728
      refine At.enter rfl ?_
      refine r_iload_n rfl ?_
      refine r_aload_n rfl ?_
      obtain ⟨v1748, hv1748⟩ : ∃ v, gI g0 1 0 = v := ⟨_, rfl⟩
      have rv1748 := RgF.at hI0.2.1 (p := 1) (b := 0) rfl
      rw [hv1748] at rv1748
      dsimp only at rv1748
      refine q_getI (Sh.int hI1684.1 kx_1 rfl) v1748 ((hF1685.1 1 0 (by decide)).trans hv1748) ?_
      have bv1750 := q_bnd x1680
      have bv1751 := q_bnd v1748
      refine r_ics 12 rfl (fun c1749 => ?_) (fun c1749 => ?_)
      · have c1749_ : x1680.toInt ≥ v1748.toInt := en_i_ge_t c1749
        refine At.enter rfl ?_
        refine r_iconst 0 rfl ?_
        refine Ar.fall 17 rfl ?_
        refine At.enter rfl ?_
        refine q_iretz (by decide) ?_
        refine At.enter rfl ?_
        refine r_ift (by decide) ?_
        refine At.enter rfl ?_
        refine r_iload_n e1691 ?_
        refine r_ifs 78 rfl (fun c1752 => ?_) (fun c1752 => ?_)
        · have c1752_ : v1178.toInt ≤ 0 := en_k_le_t c1752
          exfalso; omega
        · have c1752_ : v1178.toInt > 0 := en_k_le_f c1752
          refine At.enter rfl ?_
          refine r_iload e1693 ?_
          refine r_iconst 1 rfl ?_
          refine r_ics 84 rfl (fun c1753 => ?_) (fun c1753 => ?_)
          · have c1753_ : x1681.toInt ≥ 1 := en_i_ge_t c1753
            refine At.enter rfl ?_
            refine r_iload_n e1691 ?_
            refine r_aload_n e1689 ?_
            refine q_getR (Sh.ref hI1684.1 kx_184 rfl) ?_
            refine r_iload_n e1690 ?_
            refine r_iconst 0 rfl ?_
            refine r_callV 96 rfl [.ref 1, .int a1, .int 0] [.int v1178] (Nat.le_of_ble_eq_true rfl) rfl (T_X0_about_1 _ hI1684 a1 0) ?_
            rintro _ _ ⟨g1754, rfl, hI1755, hF1756, v1757, rfl, hr1758⟩
            refine At.sti ?_
            have hF1759 := Fr.tr hF1685 hF1756 rfl rfl
            have zv1760 : (0 : Int32).toInt = 0 := rfl
            have ab1761_ := ABX.c ((hF1685.2.1 5 (by decide))) ((hF1685.1 1 4 (by decide))) hr1758.2
            have ab1761 : ABX g0 a1.toInt 0 v1757.toInt := ab1761_
            refine At.enter rfl ?_
            refine r_iload e1693 ?_
            refine q_iaddO (fun v1762 ov1762 => ?_)
            refine r_iconst 1 rfl ?_
            refine q_isubO (fun v1763 ov1763 => ?_)
            refine r_iload e1693 ?_
            refine q_idivO (by omega) (fun v1764 ov1764 => ?_)
            refine q_iaddO (fun v1765 ov1765 => ?_)
            refine r_iconst 1 rfl ?_
            refine q_isubO (fun v1766 ov1766 => ?_)
            refine r_ireti ?_
            have x1767 := HI.eqI hI0 (p := 1) (b := 0) (hv1748)
            exact ⟨_, rfl, hI1755, hF1759, _, rfl, trivial, (fun h hw => by have e1 := ab1188.1 ⟨h.1, h.2, by decide, by decide⟩; have wf := hr1179.2 h hw; rw [← e1] at wf; rw [← e1]; first | (exact PCE.few v1178 wf (by omega) (by omega)) | (exact PCE.low v1178 x1681 wf (by rw [show v1178.toInt = x1682.toInt from by omega]; exact q1698) (by omega) (by omega)) | (exact PCE.mk v1178 x1681 v1757 wf (by rw [show v1178.toInt = x1682.toInt from by omega]; exact q1698) (by omega) (by omega) (ab1761.1 ⟨h.1, h.2, by decide, by decide⟩) (by rw [ov1766, ov1765, ov1764, ov1763, ov1762])) | ((exfalso; have z := WAYF.stand wf hw (by omega) (by omega) q1697; omega)))⟩
          · have c1753_ : x1681.toInt < 1 := en_i_ge_f c1753
            refine At.enter rfl ?_
            refine r_iload_n e1691 ?_
            refine r_ireti ?_
            have x1768 := HI.eqI hI0 (p := 1) (b := 0) (hv1748)
            exact ⟨_, rfl, hI1684, hF1685, _, rfl, trivial, (fun h hw => by have e1 := ab1188.1 ⟨h.1, h.2, by decide, by decide⟩; have wf := hr1179.2 h hw; rw [← e1] at wf; rw [← e1]; first | (exact PCE.few v1178 wf (by omega) (by omega)) | (exact PCE.low v1178 x1681 wf (by rw [show v1178.toInt = x1682.toInt from by omega]; exact q1698) (by omega) (by omega)) | ((exfalso; have z := WAYF.stand wf hw (by omega) (by omega) q1697; omega)))⟩
      · have c1749_ : x1680.toInt < v1748.toInt := en_i_ge_f c1749
        refine At.enter rfl ?_
        refine r_iconst 1 rfl ?_
        refine r_goto ?_
        refine At.enter rfl ?_
        refine q_iretz (by decide) ?_
        refine At.enter rfl ?_
        refine r_iff 43 rfl (by decide) ?_
        refine At.enter rfl ?_
        refine r_iload e1693 ?_
        refine r_aload_n e1689 ?_
        refine q_getR (Sh.ref hI1684.1 kx_184 rfl) ?_
        refine q_getR (Sh.ref hI1684.1 kx_1 rfl) ?_
        refine r_iload_n e1692 ?_
        obtain ⟨v1769, hv1769⟩ : ∃ v, eA g0 3 x1680.toInt = v := ⟨_, rfl⟩
        refine q_iald (Sh.arr hI1684.1 ka_3) x1680.toInt rfl (by omega) v1769 ((eA_c (hF1685.2.1 3 (by decide))).trans hv1769) ?_
        refine q_mmin rfl (Nat.le_of_ble_eq_true rfl) (fun v1770 hv1770 => ?_)
        refine r_istore _ rfl ?_
        refine r_aload_n (w_p1 (by decide) (Or.inr rfl) e1689) ?_
        refine q_getR (Sh.ref hI1684.1 kx_184 rfl) ?_
        refine r_iload_n (w_p1 (by decide) (Or.inr rfl) e1692) ?_
        refine r_callV 67 rfl [.ref 1, .int x1680] [] (Nat.le_of_ble_eq_true rfl) rfl (T_X0_next_1 _ hI1684 x1680) ?_
        rintro _ _ ⟨g1771, rfl, hI1772, hF1773, v1774, rfl, hr1775⟩
        refine At.sti ?_
        have hF1776 := Fr.tr hF1685 hF1773 rfl rfl
        rw [NX.c ((hF1685.2.1 2 (by decide))) ((hF1685.1 1 0 (by decide)))] at hr1775
        refine At.enter rfl ?_
        refine r_istore_n _ rfl ?_
        refine q_iinc (w_p1 (by decide) (Or.inr rfl) (w_p1 (by decide) (Or.inr rfl) e1694)) (x1682.toInt + 1) rfl (by omega) (fun v1777 hv1777 => ?_)
        refine r_goto ?_
        have bv1778 := q_bnd v1774
        have bv1779 := q_bnd v1770
        exact ih1688 (11 - v1777.toInt) _ _ ⟨v1774, v1770, v1777, by first | rfl | omega, hI1772, hF1776, (w_p1 (by decide) (Or.inr rfl) (w_p1 (by decide) (Or.inr rfl) (w_p1 (by decide) (Or.inr rfl) e1689))), (w_p1 (by decide) (Or.inr rfl) (w_p1 (by decide) (Or.inr rfl) (w_p1 (by decide) (Or.inr rfl) e1690))), (w_p1 (by decide) (Or.inr rfl) (w_p1 (by decide) (Or.inr rfl) (w_p1 (by decide) (Or.inr rfl) e1691))), (w_p1 (by decide) (Or.inr rfl) (w_e1 _ _ _)), (w_p1 (by decide) (Or.inr rfl) (w_p1 (by decide) (Or.inr rfl) (w_e1 _ _ _))), (w_e1 _ _ _), by omega, by omega, (by rw [show v1777.toInt = x1682.toInt + 1 from by omega, itI_s (NX g0) (by omega), ← q1697]; omega), (LSI.step (x := v1769.toInt) (by omega) (show v1777.toInt = x1682.toInt + 1 from by omega) q1698 (by rw [← q1697]; exact congrArg Int32.toInt hv1769) ⟨by omega, by omega, by omega⟩), by omega, by omega⟩ ⟨by omega, by omega⟩
