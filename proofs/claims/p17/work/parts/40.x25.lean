def F_X8_append_174 : List (Nat × Nat) := [(174, 1)]
def A_X8_append_174 : List Nat := [175]
set_option maxRecDepth 100000 in
set_option maxHeartbeats 4000000 in
theorem T_X8_append_174 (d : Nat) {N : Nat} {g0 : List en_E} (hI0 : HI g0) (a1 : Int32) : Ev (d + 1) 93 [.ref 174, .int a1] (g0, N) (fun w h' => ∃ g', h' = (g', N) ∧ HI g' ∧ Fr F_X8_append_174 A_X8_append_174 g0 g' ∧ w = none ∧ (((gI g0 174 1).toInt ≤ 396 → (gI g' 174 1).toInt = (gI g0 174 1).toInt + 4) ∧ ((gI g0 174 1).toInt ≤ 396 → (∀ i : Int, 0 ≤ i → i < 400 → (eA g' 175 (i)).toInt = if (gI g0 174 1).toInt ≤ i ∧ i < (gI g0 174 1).toInt + 4 then BYT a1 (i - (gI g0 174 1).toInt) else (eA g0 175 (i)).toInt)))) := by
  have hF0 : Fr F_X8_append_174 A_X8_append_174 g0 g0 := Fr.rf
  refine Ev.mk rfl rfl ⟨Nat.le_of_ble_eq_true rfl, Or.inr (q_rc hI0.1 kx_174 rfl)⟩ ?_
  show At _ none _ _ (0, [(0, .ref 174), (1, .int a1)], [], (_, _)) _
  refine At.enter rfl ?_
  refine r_bipush 24 rfl ?_
  refine r_istore_n ([(2, .int 24), (0, .ref 174), (1, .int a1)]) rfl ?_
  refine Ar.fall 3 rfl ?_
  obtain ⟨v219, hv219⟩ : ∃ v, gI g0 174 1 = v := ⟨_, rfl⟩
  have rv219 := RgF.at hI0.2.1 (p := 174) (b := 1) rfl
  rw [hv219] at rv219
  dsimp only at rv219
  have tv219 := congrArg Int32.toInt hv219
  have z_314 : (24 : Int32).toInt = 24 := rfl
  have x315 := HI.eqI hI0 (p := 174) (b := 1) (hv219)
  refine w_loopI (fun n_ l_ g_ => ∃ x298 : Int32, ∃ x299 : Int32, n_ = x298.toInt + 8 ∧ HI g_ ∧ Fr F_X8_append_174 A_X8_append_174 g0 g_ ∧ gI g_ 174 1 = x299 ∧ en_get 0 l_ = some (.ref 174) ∧ en_get 1 l_ = some (.int a1) ∧ en_get 2 l_ = some (.int x298) ∧ ((-8) ≤ x298.toInt ∧ x298.toInt ≤ 24) ∧ (0 ≤ x299.toInt ∧ x299.toInt ≤ 400) ∧ (8 * x299.toInt + x298.toInt = 8 * (gI g0 174 1).toInt + 24) ∧ (∀ i : Int, 0 ≤ i → i < 400 → (eA g_ 175 (i)).toInt = if (gI g0 174 1).toInt ≤ i ∧ i < x299.toInt then BYT a1 (i - (gI g0 174 1).toInt) else (eA g0 175 (i)).toInt)) ?_ (24 + 8) ⟨24, v219, by first | rfl | omega, hI0, hF0, hv219, rfl, rfl, rfl, by decide, by omega, by omega, (by intro i i0 i1; refine Eq.trans ?_ (if_neg (show ¬ ((gI g0 174 1).toInt ≤ i ∧ i < v219.toInt) from by omega)).symm; (first | rfl | exact eA_ix (by omega) | omega))⟩
  rintro n304 l303 g300 ⟨x298, x299, hm316, hI301, hF302, e306, e307, e308, e309, r310, r311, q312, q313⟩ ih305
  have tv317 := congrArg Int32.toInt e306
  refine At.enter rfl ?_
  refine r_iload_n e309 ?_
  refine r_ifs 7 rfl (fun c318 => ?_) (fun c318 => ?_)
  · have c318_ : x298.toInt < 0 := en_k_lt_t c318
    refine At.enter rfl ?_
    refine r_vret ?_
    have x319 := HI.eqI hI301 (p := 174) (b := 1) (e306)
    have x320 := HI.eqI hI0 (p := 174) (b := 1) (hv219)
    exact ⟨_, rfl, hI301, hF302, rfl, ⟨(by omega), fun hz => (by intro i i0 i1; exact (Decidable.em ((gI g0 174 1).toInt ≤ i ∧ i < (gI g0 174 1).toInt + 4)).elim (fun k1_ => by refine Eq.trans ?_ (if_pos k1_).symm; refine ((q313 (i) (by omega) (by omega))).trans ?_; exact (Decidable.em ((gI g0 174 1).toInt ≤ (i) ∧ (i) < x299.toInt)).elim (fun k2_ => by refine (if_pos k2_).trans ?_; (first | rfl | exact eA_ix (by omega) | omega)) (fun k2_ => by refine (if_neg k2_).trans ?_; (first | rfl | exact eA_ix (by omega) | omega))) (fun k1_ => by refine Eq.trans ?_ (if_neg k1_).symm; refine ((q313 (i) (by omega) (by omega))).trans ?_; exact (Decidable.em ((gI g0 174 1).toInt ≤ (i) ∧ (i) < x299.toInt)).elim (fun k3_ => by refine (if_pos k3_).trans ?_; (first | rfl | exact eA_ix (by omega) | omega)) (fun k3_ => by refine (if_neg k3_).trans ?_; (first | rfl | exact eA_ix (by omega) | omega))))⟩⟩
  · have c318_ : x298.toInt ≥ 0 := en_k_lt_f c318
    refine At.enter rfl ?_
    refine r_aload_n e307 ?_
    refine q_getI (Sh.int hI301.1 kx_174 rfl) x299 e306 ?_
    refine r_sipush 400 rfl ?_
    refine r_ics 17 rfl (fun c321 => ?_) (fun c321 => ?_)
    · have c321_ : x299.toInt ≥ 400 := en_i_ge_t c321
      refine At.enter rfl ?_
      refine r_vret ?_
      have x322 := HI.eqI hI301 (p := 174) (b := 1) (e306)
      have x323 := HI.eqI hI0 (p := 174) (b := 1) (hv219)
      exact ⟨_, rfl, hI301, hF302, rfl, ⟨(by omega), fun hz => (by intro i i0 i1; exact (Decidable.em ((gI g0 174 1).toInt ≤ i ∧ i < (gI g0 174 1).toInt + 4)).elim (fun k4_ => by refine Eq.trans ?_ (if_pos k4_).symm; refine ((q313 (i) (by omega) (by omega))).trans ?_; exact (Decidable.em ((gI g0 174 1).toInt ≤ (i) ∧ (i) < x299.toInt)).elim (fun k5_ => by refine (if_pos k5_).trans ?_; (first | rfl | exact eA_ix (by omega) | omega)) (fun k5_ => by refine (if_neg k5_).trans ?_; (first | rfl | exact eA_ix (by omega) | omega))) (fun k4_ => by refine Eq.trans ?_ (if_neg k4_).symm; refine ((q313 (i) (by omega) (by omega))).trans ?_; exact (Decidable.em ((gI g0 174 1).toInt ≤ (i) ∧ (i) < x299.toInt)).elim (fun k6_ => by refine (if_pos k6_).trans ?_; (first | rfl | exact eA_ix (by omega) | omega)) (fun k6_ => by refine (if_neg k6_).trans ?_; (first | rfl | exact eA_ix (by omega) | omega))))⟩⟩
    · have c321_ : x299.toInt < 400 := en_i_ge_f c321
      refine At.enter rfl ?_
      refine r_aload_n e307 ?_
      refine q_getR (Sh.ref hI301.1 kx_174 rfl) ?_
      refine r_aload_n e307 ?_
      refine q_getI (Sh.int hI301.1 kx_174 rfl) x299 e306 ?_
      refine r_iload_n e308 ?_
      refine r_iload_n e309 ?_
      refine q_iushrO (fun v324 hv324 => ?_)
      refine r_sipush 255 rfl ?_
      refine q_iandO (fun v325 hv325 => ?_)
      refine q_iast (Sh.arr hI301.1 ka_175) (x299.toInt) rfl (by omega) ?_
      have hI326 := HI.wA0 hI301 ka_175 (p := 175) rfl rfl (x299.toInt) (v325)
      have hF327 := Fr.wA (p := 175) (j := x299.toInt) (v := v325) hF302 rfl
      refine r_aload_n e307 ?_
      refine r_dup rfl ?_
      refine q_getI (Sh.int hI326.1 kx_174 rfl) x299 ((gI_sW).trans e306) ?_
      refine r_iconst 1 rfl ?_
      refine q_iadd (x299.toInt + 1) rfl (by omega) (fun v328 hv328 => ?_)
      refine q_putI (Sh.int hI326.1 kx_174 rfl) rfl ?_
      have hI329 := HI.wI1 hI326 kx_174 rfl (p := 174) (b := 1) (v := v328) rfl (by dsimp only; omega)
      have hF330 := Fr.wI (p := 174) (b := 1) (v := v328) hF327 rfl
      refine q_iinc e309 (x298.toInt + (-8)) rfl (by omega) (fun v331 hv331 => ?_)
      refine r_goto ?_
      exact ih305 (v331.toInt + 8) _ _ ⟨v331, v328, by first | rfl | omega, hI329, hF330, (gI_sI_eq hI326.1 kx_174 rfl _), (w_p1 (by decide) (Or.inr rfl) e307), (w_p1 (by decide) (Or.inr rfl) e308), (w_e1 _ _ _), by omega, by omega, by omega, (by intro i i0 i1; exact (Decidable.em ((gI g0 174 1).toInt ≤ i ∧ i < v328.toInt)).elim (fun k7_ => by refine Eq.trans ?_ (if_pos k7_).symm; refine (eA_ti ((gA_sI))).trans ?_; exact (Decidable.em (i = x299.toInt)).elim (fun k8_ => by refine (eA_eqT hI301.1 ka_175 k8_ (by first | decide | omega) (by first | decide | omega)).trans ?_; (first | (rfl) | (omega) | (exact BYT.x (by assumption) hv325 (by omega) (by omega)))) (fun k8_ => by refine (eA_neT hI301.1 ka_175 k8_ (by first | decide | omega) (by omega)).trans ?_; refine ((q313 (i) (by omega) (by omega))).trans ?_; exact (Decidable.em ((gI g0 174 1).toInt ≤ (i) ∧ (i) < x299.toInt)).elim (fun k9_ => by refine (if_pos k9_).trans ?_; (first | rfl | exact eA_ix (by omega) | omega)) (fun k9_ => by refine (if_neg k9_).trans ?_; (first | rfl | exact eA_ix (by omega) | omega)))) (fun k7_ => by refine Eq.trans ?_ (if_neg k7_).symm; refine (eA_ti ((gA_sI))).trans ?_; exact (Decidable.em (i = x299.toInt)).elim (fun k10_ => by refine (eA_eqT hI301.1 ka_175 k10_ (by first | decide | omega) (by first | decide | omega)).trans ?_; (first | (rfl) | (omega) | (exact BYT.x (by assumption) hv325 (by omega) (by omega)))) (fun k10_ => by refine (eA_neT hI301.1 ka_175 k10_ (by first | decide | omega) (by omega)).trans ?_; refine ((q313 (i) (by omega) (by omega))).trans ?_; exact (Decidable.em ((gI g0 174 1).toInt ≤ (i) ∧ (i) < x299.toInt)).elim (fun k11_ => by refine (if_pos k11_).trans ?_; (first | rfl | exact eA_ix (by omega) | omega)) (fun k11_ => by refine (if_neg k11_).trans ?_; (first | rfl | exact eA_ix (by omega) | omega)))))⟩ ⟨by omega, by omega⟩

def F_X8_at_174 : List (Nat × Nat) := []
def A_X8_at_174 : List Nat := []
set_option maxRecDepth 100000 in
set_option maxHeartbeats 4000000 in
theorem T_X8_at_174 (d : Nat) {N : Nat} {g0 : List en_E} (hI0 : HI g0) (a1 : Int32) : Ev (d + 1) 94 [.ref 174, .int a1] (g0, N) (fun w h' => ∃ g', h' = (g', N) ∧ HI g' ∧ Fr F_X8_at_174 A_X8_at_174 g0 g' ∧ ∃ r : Int32, w = some (.int r) ∧ True ∧ ((r.toInt ≠ -1 → a1.toInt < (gI g0 174 1).toInt) ∧ (0 ≤ a1.toInt ∧ a1.toInt < (gI g0 174 1).toInt → r.toInt = (eA g0 175 a1.toInt).toInt))) := by
  have hF0 : Fr F_X8_at_174 A_X8_at_174 g0 g0 := Fr.rf
  refine Ev.mk rfl rfl ⟨Nat.le_of_ble_eq_true rfl, Or.inr (q_rc hI0.1 kx_174 rfl)⟩ ?_
  show At _ none _ _ (0, [(0, .ref 174), (1, .int a1)], [], (_, _)) _
  refine At.enter rfl ?_
  refine r_iload_n rfl ?_
  refine r_ifs 4 rfl (fun c15 => ?_) (fun c15 => ?_)
  · have c15_ : a1.toInt < 0 := en_k_lt_t c15
    refine At.enter rfl ?_
    refine r_iconst (-1) rfl ?_
    refine Ar.fall 29 rfl ?_
    refine At.enter rfl ?_
    refine r_ireti ?_
    have zv16 : ((-1) : Int32).toInt = (-1) := rfl
    obtain ⟨v17, hv17⟩ : ∃ v, gI g0 174 1 = v := ⟨_, rfl⟩
    have rv17 := RgF.at hI0.2.1 (p := 174) (b := 1) rfl
    rw [hv17] at rv17
    dsimp only at rv17
    have tv17 := congrArg Int32.toInt hv17
    have x18 := HI.eqI hI0 (p := 174) (b := 1) (hv17)
    exact ⟨_, rfl, hI0, hF0, _, rfl, trivial, ⟨by omega, by omega⟩⟩
  · have c15_ : a1.toInt ≥ 0 := en_k_lt_f c15
    refine At.enter rfl ?_
    refine r_iload_n rfl ?_
    refine r_aload_n rfl ?_
    obtain ⟨v19, hv19⟩ : ∃ v, gI g0 174 1 = v := ⟨_, rfl⟩
    have rv19 := RgF.at hI0.2.1 (p := 174) (b := 1) rfl
    rw [hv19] at rv19
    dsimp only at rv19
    refine q_getI (Sh.int hI0.1 kx_174 rfl) v19 hv19 ?_
    have bv21 := q_bnd a1
    have bv22 := q_bnd v19
    refine r_ics 12 rfl (fun c20 => ?_) (fun c20 => ?_)
    · have c20_ : a1.toInt ≥ v19.toInt := en_i_ge_t c20
      refine At.enter rfl ?_
      refine r_iconst (-1) rfl ?_
      refine Ar.fall 29 rfl ?_
      refine At.enter rfl ?_
      refine r_ireti ?_
      have zv23 : ((-1) : Int32).toInt = (-1) := rfl
      have x24 := HI.eqI hI0 (p := 174) (b := 1) (hv19)
      exact ⟨_, rfl, hI0, hF0, _, rfl, trivial, ⟨by omega, by omega⟩⟩
    · have c20_ : a1.toInt < v19.toInt := en_i_ge_f c20
      refine At.enter rfl ?_
      refine r_iload_n rfl ?_
      refine r_sipush 400 rfl ?_
      refine r_ics 19 rfl (fun c25 => ?_) (fun c25 => ?_)
      · have c25_ : a1.toInt ≥ 400 := en_i_ge_t c25
        exfalso; omega
      · have c25_ : a1.toInt < 400 := en_i_ge_f c25
        refine At.enter rfl ?_
        refine r_aload_n rfl ?_
        refine q_getR (Sh.ref hI0.1 kx_174 rfl) ?_
        refine r_iload_n rfl ?_
        obtain ⟨v26, hv26⟩ : ∃ v, eA g0 175 a1.toInt = v := ⟨_, rfl⟩
        refine q_iald (Sh.arr hI0.1 ka_175) a1.toInt rfl (by omega) v26 hv26 ?_
        refine r_goto ?_
        refine At.enter rfl ?_
        refine r_ireti ?_
        have x27 := HI.eqI hI0 (p := 174) (b := 1) (hv19)
        have y28 := congrArg Int32.toInt hv26
        exact ⟨_, rfl, hI0, hF0, _, rfl, trivial, ⟨by omega, by omega⟩⟩

def F_X9_standAfter_184 : List (Nat × Nat) := []
def A_X9_standAfter_184 : List Nat := []
set_option maxRecDepth 100000 in
set_option maxHeartbeats 4000000 in
theorem T_X9_standAfter_184 (d : Nat) {N : Nat} {g0 : List en_E} (hI0 : HI g0) (a1 : Int32) (a2 : Int32) : Ev (d + 3) 102 [.ref 184, .int a1, .int a2] (g0, N) (fun w h' => ∃ g', h' = (g', N) ∧ HI g' ∧ Fr F_X9_standAfter_184 A_X9_standAfter_184 g0 g' ∧ ∃ r : Int32, w = some (.int r) ∧ True ∧ (r.toInt = itI (NX g0) a2.toInt a1.toInt)) := by
  have hF0 : Fr F_X9_standAfter_184 A_X9_standAfter_184 g0 g0 := Fr.rf
  refine Ev.mk rfl rfl ⟨Nat.le_of_ble_eq_true rfl, Or.inr (q_rc hI0.1 kx_184 rfl)⟩ ?_
  show At _ none _ _ (0, [(0, .ref 184), (1, .int a1), (2, .int a2)], [], (_, _)) _
  refine At.enter rfl ?_
  refine r_iload_n rfl ?_
  refine r_istore_n ([(3, .int a1), (0, .ref 184), (1, .int a1), (2, .int a2)]) rfl ?_
  refine r_iconst 0 rfl ?_
  refine r_istore ([(4, .int 0), (3, .int a1), (0, .ref 184), (1, .int a1), (2, .int a2)]) rfl ?_
  refine Ar.fall 5 rfl ?_
  have z_960 : (0 : Int32).toInt = 0 := rfl
  refine w_loopI (fun n_ l_ g_ => ∃ x943 : Int32, ∃ x944 : Int32, n_ = 2147483647 - x944.toInt ∧ HI g_ ∧ Fr F_X9_standAfter_184 A_X9_standAfter_184 g0 g_ ∧ en_get 0 l_ = some (.ref 184) ∧ en_get 1 l_ = some (.int a1) ∧ en_get 2 l_ = some (.int a2) ∧ en_get 3 l_ = some (.int x943) ∧ en_get 4 l_ = some (.int x944) ∧ 0 ≤ x944.toInt ∧ (x943.toInt = itI (NX g0) x944.toInt a1.toInt) ∧ (0 ≤ x944.toInt) ∧ (x944.toInt ≤ a2.toInt ∨ x944.toInt = 0)) ?_ (2147483647 - 0) ⟨a1, 0, by first | rfl | omega, hI0, hF0, rfl, rfl, rfl, rfl, rfl, by decide, (itI_n _ (by first | decide | omega) _).symm, by omega, by omega⟩
  rintro n949 l948 g945 ⟨x943, x944, hm961, hI946, hF947, e951, e952, e953, e954, e955, r956, q957, q958, q959⟩ ih950
  refine At.enter rfl ?_
  refine r_iload e955 ?_
  refine r_iload_n e953 ?_
  have bv963 := q_bnd x944
  have bv964 := q_bnd a2
  refine r_ics 11 rfl (fun c962 => ?_) (fun c962 => ?_)
  · have c962_ : x944.toInt ≥ a2.toInt := en_i_ge_t c962
    refine At.enter rfl ?_
    refine r_iload_n e954 ?_
    refine r_ireti ?_
    exact ⟨_, rfl, hI946, hF947, _, rfl, trivial, (by first | exact (Decidable.em (a2.toInt ≤ 0)).elim (fun k => (by rw [itI_n _ k]; have z := itI_n (NX g0) (k := x944.toInt) (by omega) a1.toInt; omega)) (fun k => (by rw [show a2.toInt = x944.toInt from by omega]; omega)) | (have z := itI_e (NX.e g0) (i := x944.toInt) (k := a2.toInt) (s := a1.toInt) (by omega) (by omega); omega))⟩
  · have c962_ : x944.toInt < a2.toInt := en_i_ge_f c962
    refine At.enter rfl ?_
    refine r_iload_n e954 ?_
    refine r_iconst (-1) rfl ?_
    refine r_ics 16 rfl (fun c965 => ?_) (fun c965 => ?_)
    · have c965_ : x943.toInt = (-1) := en_i_eq_t c965
      refine At.enter rfl ?_
      refine r_iload_n e954 ?_
      refine r_ireti ?_
      exact ⟨_, rfl, hI946, hF947, _, rfl, trivial, (by first | exact (Decidable.em (a2.toInt ≤ 0)).elim (fun k => (by rw [itI_n _ k]; have z := itI_n (NX g0) (k := x944.toInt) (by omega) a1.toInt; omega)) (fun k => (by rw [show a2.toInt = x944.toInt from by omega]; omega)) | (have z := itI_e (NX.e g0) (i := x944.toInt) (k := a2.toInt) (s := a1.toInt) (by omega) (by omega); omega))⟩
    · have c965_ : x943.toInt ≠ (-1) := en_i_eq_f c965
      refine At.enter rfl ?_
      refine r_aload_n e951 ?_
      refine q_getR (Sh.ref hI946.1 kx_184 rfl) ?_
      refine r_iload_n e954 ?_
      refine r_callV 24 rfl [.ref 1, .int x943] [] (Nat.le_of_ble_eq_true rfl) rfl (T_X0_next_1 _ hI946 x943) ?_
      rintro _ _ ⟨g966, rfl, hI967, hF968, v969, rfl, hr970⟩
      refine At.sti ?_
      have hF971 := Fr.tr hF947 hF968 rfl rfl
      rw [NX.c ((hF947.2.1 2 (by decide))) ((hF947.1 1 0 (by decide)))] at hr970
      refine At.enter rfl ?_
      refine r_istore_n _ rfl ?_
      refine q_iinc (w_p1 (by decide) (Or.inr rfl) e955) (x944.toInt + 1) rfl (by omega) (fun v972 hv972 => ?_)
      refine r_goto ?_
      have bv973 := q_bnd v969
      have bv974 := q_bnd v972
      exact ih950 (2147483647 - v972.toInt) _ _ ⟨v969, v972, by first | rfl | omega, hI967, hF971, (w_p1 (by decide) (Or.inr rfl) (w_p1 (by decide) (Or.inr rfl) e951)), (w_p1 (by decide) (Or.inr rfl) (w_p1 (by decide) (Or.inr rfl) e952)), (w_p1 (by decide) (Or.inr rfl) (w_p1 (by decide) (Or.inr rfl) e953)), (w_p1 (by decide) (Or.inr rfl) (w_e1 _ _ _)), (w_e1 _ _ _), by omega, (by rw [show v972.toInt = x944.toInt + 1 from by omega, itI_s (NX g0) (by omega), ← q957]; omega), by omega, by omega⟩ ⟨by omega, by omega⟩

def F_X9_standOf_184 : List (Nat × Nat) := []
def A_X9_standOf_184 : List Nat := []
set_option maxRecDepth 100000 in
set_option maxHeartbeats 4000000 in
theorem T_X9_standOf_184 (d : Nat) {N : Nat} {g0 : List en_E} (hI0 : HI g0) (a1 : Int32) (a2 : Int32) : Ev (d + 4) 96 [.ref 184, .int a1, .int a2] (g0, N) (fun w h' => ∃ g', h' = (g', N) ∧ HI g' ∧ Fr F_X9_standOf_184 A_X9_standOf_184 g0 g' ∧ ∃ r : Int32, w = some (.int r) ∧ True ∧ ((0 ≤ a1.toInt ∧ a1.toInt < (gI g0 1 4).toInt) → (eA g0 5 (6 * a1.toInt + 2)).toInt ≠ -1 → a2.toInt ≠ -1 → WAYA (NX g0) 11 (eA g0 5 (6 * a1.toInt + 1)).toInt (eA g0 5 (6 * a1.toInt + 2)).toInt a2.toInt r.toInt)) := by
  have hF0 : Fr F_X9_standOf_184 A_X9_standOf_184 g0 g0 := Fr.rf
  refine Ev.mk rfl rfl ⟨Nat.le_of_ble_eq_true rfl, Or.inr (q_rc hI0.1 kx_184 rfl)⟩ ?_
  show At _ none _ _ (0, [(0, .ref 184), (1, .int a1), (2, .int a2)], [], (_, _)) _
  refine At.enter rfl ?_
  refine r_iload_n rfl ?_
  refine r_iconst 0 rfl ?_
  refine r_aload_n rfl ?_
  refine q_getR (Sh.ref hI0.1 kx_184 rfl) ?_
  refine r_iload_n rfl ?_
  refine r_callV 10 rfl [.ref 1, .int a1] [.int 0, .int a2] (Nat.le_of_ble_eq_true rfl) rfl (T_X0_handsOf_1 _ hI0 a1) ?_
  rintro _ _ ⟨g47, rfl, hI48, hF49, v50, rfl, hr51⟩
  refine At.sti ?_
  have hF52 := Fr.tr hF0 hF49 rfl rfl
  refine At.enter rfl ?_
  refine q_inlS 13 rfl [.int a2, .int 0, .int v50] [] (Nat.le_of_ble_eq_true rfl) rfl ?_
  refine Ev.mk rfl rfl ⟨Nat.le_of_ble_eq_true rfl, Or.inl rfl⟩ ?_
  show At _ none _ _ (0, [(0, .int a2), (1, .int 0), (2, .int v50)], [], (_, _)) _
  refine At.enter rfl ?_
  refine r_iload_n rfl ?_
  refine r_iload_n rfl ?_
  refine r_ics 5 rfl (fun c53 => ?_) (fun c53 => ?_)
  · have c53_ : a2.toInt < 0 := en_i_lt_t c53
    refine At.enter rfl ?_
    refine r_iconst 0 rfl ?_
    refine Ar.fall 15 rfl ?_
    refine At.enter rfl ?_
    refine q_iretz (by decide) ?_
    refine At.enter rfl ?_
    refine r_ift (by decide) ?_
    refine At.enter rfl ?_
    refine r_iconst (-1) rfl ?_
    refine Ar.fall 34 rfl ?_
    refine At.enter rfl ?_
    refine r_ireti ?_
    have zv54 : ((-1) : Int32).toInt = (-1) := rfl
    exact ⟨_, rfl, hI48, hF52, _, rfl, trivial, (fun h hw hi => WAYA.mk v50.toInt (hr51.2 h hw) (fun e => absurd e hi) (fun c => by omega) (fun c => by omega))⟩
  · have c53_ : a2.toInt ≥ 0 := en_i_lt_f c53
    refine At.enter rfl ?_
    refine r_iload_n rfl ?_
    refine r_iload_n rfl ?_
    have bv56 := q_bnd a2
    have bv57 := q_bnd v50
    refine r_ics 10 rfl (fun c55 => ?_) (fun c55 => ?_)
    · have c55_ : a2.toInt > v50.toInt := en_i_gt_t c55
      refine At.enter rfl ?_
      refine r_iconst 0 rfl ?_
      refine Ar.fall 15 rfl ?_
      refine At.enter rfl ?_
      refine q_iretz (by decide) ?_
      refine At.enter rfl ?_
      refine r_ift (by decide) ?_
      refine At.enter rfl ?_
      refine r_iconst (-1) rfl ?_
      refine Ar.fall 34 rfl ?_
      refine At.enter rfl ?_
      refine r_ireti ?_
      have zv58 : ((-1) : Int32).toInt = (-1) := rfl
      exact ⟨_, rfl, hI48, hF52, _, rfl, trivial, (fun h hw hi => WAYA.mk v50.toInt (hr51.2 h hw) (fun e => absurd e hi) (fun c => by omega) (fun c => by omega))⟩
    · have c55_ : a2.toInt ≤ v50.toInt := en_i_gt_f c55
      refine At.enter rfl ?_
      refine r_iconst 1 rfl ?_
      refine r_goto ?_
      refine At.enter rfl ?_
      refine q_iretz (by decide) ?_
      refine At.enter rfl ?_
      refine r_iff 16 rfl (by decide) ?_
      refine At.enter rfl ?_
      refine r_aload_n rfl ?_
      refine r_aload_n rfl ?_
      refine q_getR (Sh.ref hI48.1 kx_184 rfl) ?_
      refine r_iload_n rfl ?_
      refine r_iconst 1 rfl ?_
      refine r_callV 26 rfl [.ref 1, .int a1, .int 1] [.ref 184] (Nat.le_of_ble_eq_true rfl) rfl (T_X0_about_1 _ hI48 a1 1) ?_
      rintro _ _ ⟨g59, rfl, hI60, hF61, v62, rfl, hr63⟩
      refine At.sti ?_
      have hF64 := Fr.tr hF52 hF61 rfl rfl
      have zv65 : (1 : Int32).toInt = 1 := rfl
      have ab66_ := ABX.c ((hF49.2.1 5 (by decide))) ((hF49.1 1 4 (by decide))) hr63.2
      have ab66 : ABX g0 a1.toInt 1 v62.toInt := ab66_
      refine At.enter rfl ?_
      refine r_iload_n rfl ?_
      refine r_callV 30 rfl [.ref 184, .int v62, .int a2] [] (Nat.le_of_ble_eq_true rfl) rfl (T_X9_standAfter_184 _ hI60 v62 a2) ?_
      rintro _ _ ⟨g67, rfl, hI68, hF69, v70, rfl, hr71⟩
      refine At.sti ?_
      have hF72 := Fr.tr hF64 hF69 rfl rfl
      rw [NX.cI (((hF61.2.1 2 (by decide)).trans (hF49.2.1 2 (by decide)))) (((hF61.1 1 0 (by decide)).trans (hF49.1 1 0 (by decide))))] at hr71
      refine At.enter rfl ?_
      refine r_goto ?_
      refine At.enter rfl ?_
      refine r_ireti ?_
      exact ⟨_, rfl, hI68, hF72, _, rfl, trivial, (fun h hw hi => WAYA.mk v50.toInt (hr51.2 h hw) (fun e => absurd e hi) (fun c => by have e1 := ab66.1 ⟨h.1, h.2, by decide, by decide⟩; rw [← e1]; omega) (fun c => by omega))⟩

def F_X9_comersTo_184 : List (Nat × Nat) := []
def A_X9_comersTo_184 : List Nat := []
set_option maxRecDepth 100000 in
set_option maxHeartbeats 4000000 in
theorem T_X9_comersTo_184 (d : Nat) {N : Nat} {g0 : List en_E} (hI0 : HI g0) (a1 : Int32) (h_a1 : 0 ≤ a1.toInt ∧ a1.toInt ≤ 11) (a2 : Int32) : Ev (d + 3) 97 [.ref 184, .int a1, .int a2] (g0, N) (fun w h' => ∃ g', h' = (g', N) ∧ HI g' ∧ Fr F_X9_comersTo_184 A_X9_comersTo_184 g0 g' ∧ ∃ r : Int32, w = some (.int r) ∧ True ∧ (r.toInt = (ACI (RCI (NX g0) (hbI a2) a1.toInt 12) (gI g0 1 0).toInt).toInt)) := by
  have hF0 : Fr F_X9_comersTo_184 A_X9_comersTo_184 g0 g0 := Fr.rf
  refine Ev.mk rfl rfl ⟨Nat.le_of_ble_eq_true rfl, Or.inr (q_rc hI0.1 kx_184 rfl)⟩ ?_
  show At _ none _ _ (0, [(0, .ref 184), (1, .int a1), (2, .int a2)], [], (_, _)) _
  refine At.enter rfl ?_
  refine r_iconst 0 rfl ?_
  refine r_istore_n ([(3, .int 0), (0, .ref 184), (1, .int a1), (2, .int a2)]) rfl ?_
  refine r_iconst 0 rfl ?_
  refine r_istore ([(4, .int 0), (3, .int 0), (0, .ref 184), (1, .int a1), (2, .int a2)]) rfl ?_
  refine Ar.fall 5 rfl ?_
  have z_15387 : (0 : Int32).toInt = 0 := rfl
  have z_15388 : (0 : Int32).toInt = 0 := rfl
  obtain ⟨v15389, hv15389⟩ : ∃ v, gI g0 1 0 = v := ⟨_, rfl⟩
  have rv15389 := RgF.at hI0.2.1 (p := 1) (b := 0) rfl
  rw [hv15389] at rv15389
  dsimp only at rv15389
  have tv15389 := congrArg Int32.toInt hv15389
  refine w_loopI (fun n_ l_ g_ => ∃ x15370 : Int32, ∃ x15371 : Int32, n_ = 12 - x15371.toInt ∧ HI g_ ∧ Fr F_X9_comersTo_184 A_X9_comersTo_184 g0 g_ ∧ en_get 0 l_ = some (.ref 184) ∧ en_get 1 l_ = some (.int a1) ∧ en_get 2 l_ = some (.int a2) ∧ en_get 3 l_ = some (.int x15370) ∧ en_get 4 l_ = some (.int x15371) ∧ (0 ≤ x15371.toInt ∧ x15371.toInt ≤ 12) ∧ (x15370.toInt = (ACI (RCI (NX g0) (hbI a2) a1.toInt 12) x15371.toInt).toInt) ∧ (0 ≤ x15371.toInt) ∧ (x15371.toInt ≤ (gI g0 1 0).toInt)) ?_ (12 - 0) ⟨0, 0, by first | rfl | omega, hI0, hF0, rfl, rfl, rfl, rfl, rfl, by decide, ((by first | rfl | omega : _ = (0 : Int)).trans (ACI.z _ (by first | decide | omega))), by omega, by omega⟩
  rintro n15376 l15375 g15372 ⟨x15370, x15371, hm15390, hI15373, hF15374, e15378, e15379, e15380, e15381, e15382, r15383, q15384, q15385, q15386⟩ ih15377
  refine At.enter rfl ?_
  refine r_iload e15382 ?_
  refine r_aload_n e15378 ?_
  refine q_getR (Sh.ref hI15373.1 kx_184 rfl) ?_
  refine q_getI (Sh.int hI15373.1 kx_1 rfl) v15389 ((hF15374.1 1 0 (by decide)).trans hv15389) ?_
  have bv15392 := q_bnd x15371
  have bv15393 := q_bnd v15389
  refine r_ics 17 rfl (fun c15391 => ?_) (fun c15391 => ?_)
  · have c15391_ : x15371.toInt ≥ v15389.toInt := en_i_ge_t c15391
    refine At.enter rfl ?_
    refine r_iload_n e15381 ?_
    refine r_ireti ?_
    have x15394 := HI.eqI hI0 (p := 1) (b := 0) (hv15389)
    exact ⟨_, rfl, hI15373, hF15374, _, rfl, trivial, (by rw [show (gI g0 1 0).toInt = x15371.toInt from by omega]; exact q15384)⟩
  · have c15391_ : x15371.toInt < v15389.toInt := en_i_ge_f c15391
    refine At.enter rfl ?_
    refine r_iload e15382 ?_
    refine r_istore _ rfl ?_
    refine r_iconst 0 rfl ?_
    refine r_istore _ rfl ?_
    refine Ar.fall 24 rfl ?_
    have z_15858 : (0 : Int32).toInt = 0 := rfl
    refine w_loopI (fun n_ l_ g_ => ∃ x15838 : Int32, ∃ x15839 : Int32, n_ = 12 - x15839.toInt ∧ HI g_ ∧ Fr F_X9_comersTo_184 A_X9_comersTo_184 g0 g_ ∧ en_get 0 l_ = some (.ref 184) ∧ en_get 1 l_ = some (.int a1) ∧ en_get 2 l_ = some (.int a2) ∧ en_get 3 l_ = some (.int x15370) ∧ en_get 4 l_ = some (.int x15371) ∧ en_get 5 l_ = some (.int x15838) ∧ en_get 6 l_ = some (.int x15839) ∧ ((-1) ≤ x15838.toInt ∧ x15838.toInt ≤ 11) ∧ (0 ≤ x15839.toInt ∧ x15839.toInt ≤ 12) ∧ (RCI (NX g0) (hbI a2) a1.toInt (12 - x15839.toInt) x15838.toInt ↔ RCI (NX g0) (hbI a2) a1.toInt 12 x15371.toInt) ∧ (0 ≤ x15839.toInt) ∧ (x15839.toInt ≤ 12)) ?_ (12 - 0) ⟨x15371, 0, by first | rfl | omega, hI15373, hF15374, (w_p1 (by decide) (Or.inr rfl) (w_p1 (by decide) (Or.inr rfl) e15378)), (w_p1 (by decide) (Or.inr rfl) (w_p1 (by decide) (Or.inr rfl) e15379)), (w_p1 (by decide) (Or.inr rfl) (w_p1 (by decide) (Or.inr rfl) e15380)), (w_p1 (by decide) (Or.inr rfl) (w_p1 (by decide) (Or.inr rfl) e15381)), (w_p1 (by decide) (Or.inr rfl) (w_p1 (by decide) (Or.inr rfl) e15382)), (w_p1 (by decide) (Or.inr rfl) (w_e1 _ _ _)), (w_e1 _ _ _), by omega, by decide, Iff.rfl, by omega, by omega⟩
    rintro n15844 l15843 g15840 ⟨x15838, x15839, hm15859, hI15841, hF15842, e15846, e15847, e15848, e15849, e15850, e15851, e15852, r15853, r15854, q15855, q15856, q15857⟩ ih15845
    refine At.enter rfl ?_
    refine r_iload e15852 ?_
    refine r_bipush 12 rfl ?_
    refine r_ics 31 rfl (fun c15860 => ?_) (fun c15860 => ?_)
    · have c15860_ : x15839.toInt ≥ 12 := en_i_ge_t c15860
      refine At.enter rfl ?_
      refine r_iload e15851 ?_
      refine r_iload_n e15847 ?_
      refine r_ics 75 rfl (fun c15861 => ?_) (fun c15861 => ?_)
      · have c15861_ : x15838.toInt ≠ a1.toInt := en_i_ne_t c15861
        refine At.enter rfl ?_
        refine q_iinc e15850 (x15371.toInt + 1) rfl (by omega) (fun v15862 hv15862 => ?_)
        refine r_goto ?_
        have bv15863 := q_bnd x15370
        exact ih15377 (12 - v15862.toInt) _ _ ⟨x15370, v15862, by first | rfl | omega, hI15841, hF15842, (w_p1 (by decide) (Or.inr rfl) e15846), (w_p1 (by decide) (Or.inr rfl) e15847), (w_p1 (by decide) (Or.inr rfl) e15848), (w_p1 (by decide) (Or.inr rfl) e15849), (w_e1 _ _ _), by omega, (ACI.no (by omega) (show v15862.toInt = x15371.toInt + 1 from by omega) (fun f => by (first | (have z := q15855.mpr f; rw [show x15838.toInt = -1 from by omega] at z; exact RCI.none (by omega) z) | (have z := q15855.mpr f; rw [show 12 - x15839.toInt = 0 from by omega] at z; have z2 := (RCI.z.mp z).1; omega))) q15384), by omega, by omega⟩ ⟨by omega, by omega⟩
      · have c15861_ : x15838.toInt = a1.toInt := en_i_ne_f c15861
        refine At.enter rfl ?_
        refine r_iload_n e15848 ?_
        refine r_iload_n e15847 ?_
        refine r_callS 80 rfl [.int a2, .int a1] [] (Nat.le_of_ble_eq_true rfl) rfl (T_X10_hasBit_hb _ hI15841 a2 a1) ?_
        rintro _ _ ⟨g15864, rfl, hI15865, hF15866, v15867, rfl, hr15868⟩
        refine At.sti ?_
        have hF15869 := Fr.tr hF15842 hF15866 rfl rfl
        refine At.enter rfl ?_
        refine r_ifs 83 rfl (fun c15870 => ?_) (fun c15870 => ?_)
        · have c15870_ : v15867.toInt ≠ 0 := en_k_ne_t c15870
          refine At.enter rfl ?_
          refine q_iinc e15850 (x15371.toInt + 1) rfl (by omega) (fun v15871 hv15871 => ?_)
          refine r_goto ?_
          have bv15872 := q_bnd x15370
          exact ih15377 (12 - v15871.toInt) _ _ ⟨x15370, v15871, by first | rfl | omega, hI15865, hF15869, (w_p1 (by decide) (Or.inr rfl) e15846), (w_p1 (by decide) (Or.inr rfl) e15847), (w_p1 (by decide) (Or.inr rfl) e15848), (w_p1 (by decide) (Or.inr rfl) e15849), (w_e1 _ _ _), by omega, (ACI.no (by omega) (show v15871.toInt = x15371.toInt + 1 from by omega) (fun f => by (first | (have z := q15855.mpr f; rw [show x15838.toInt = -1 from by omega] at z; exact RCI.none (by omega) z) | (have z := q15855.mpr f; rw [show x15838.toInt = a1.toInt from by omega] at z; exact RCI.hb (BL.yes hr15868.2 (by omega)) z) | (have z := q15855.mpr f; rw [show 12 - x15839.toInt = 0 from by omega] at z; have z2 := (RCI.z.mp z).1; omega))) q15384), by omega, by omega⟩ ⟨by omega, by omega⟩
        · have c15870_ : v15867.toInt = 0 := en_k_ne_f c15870
          refine At.enter rfl ?_
          refine r_iload_n e15849 ?_
          refine r_iconst 1 rfl ?_
          refine r_iload e15850 ?_
          refine q_ishlO (fun v15873 hv15873 => ?_)
          refine q_iorO (fun v15874 hv15874 => ?_)
          refine r_istore_n _ rfl ?_
          refine Ar.fall 90 rfl ?_
          refine At.enter rfl ?_
          refine q_iinc (w_p1 (by decide) (Or.inr rfl) e15850) (x15371.toInt + 1) rfl (by omega) (fun v15875 hv15875 => ?_)
          refine r_goto ?_
          have bv15876 := q_bnd v15874
          exact ih15377 (12 - v15875.toInt) _ _ ⟨v15874, v15875, by first | rfl | omega, hI15865, hF15869, (w_p1 (by decide) (Or.inr rfl) (w_p1 (by decide) (Or.inr rfl) e15846)), (w_p1 (by decide) (Or.inr rfl) (w_p1 (by decide) (Or.inr rfl) e15847)), (w_p1 (by decide) (Or.inr rfl) (w_p1 (by decide) (Or.inr rfl) e15848)), (w_p1 (by decide) (Or.inr rfl) (w_e1 _ _ _)), (w_e1 _ _ _), by omega, (ACI.yes (i := x15371) (by omega) (show v15875.toInt = x15371.toInt + 1 from by omega) (q15855.mp ((RCI.want (by omega) (by omega) (show x15838.toInt = a1.toInt from by omega)).mpr (by rw [show x15838.toInt = a1.toInt from by omega]; exact BL.no hr15868.2 (by omega)))) rfl hv15874 (by assumption) q15384), by omega, by omega⟩ ⟨by omega, by omega⟩
    · have c15860_ : x15839.toInt < 12 := en_i_ge_f c15860
      refine At.enter rfl ?_
      refine r_iload e15851 ?_
      refine r_iconst (-1) rfl ?_
      refine r_ics 37 rfl (fun c15877 => ?_) (fun c15877 => ?_)
      · have c15877_ : x15838.toInt = (-1) := en_i_eq_t c15877
        refine At.enter rfl ?_
        refine r_iload e15851 ?_
        refine r_iload_n e15847 ?_
        refine r_ics 75 rfl (fun c15878 => ?_) (fun c15878 => ?_)
        · have c15878_ : x15838.toInt ≠ a1.toInt := en_i_ne_t c15878
          refine At.enter rfl ?_
          refine q_iinc e15850 (x15371.toInt + 1) rfl (by omega) (fun v15879 hv15879 => ?_)
          refine r_goto ?_
          have bv15880 := q_bnd x15370
          exact ih15377 (12 - v15879.toInt) _ _ ⟨x15370, v15879, by first | rfl | omega, hI15841, hF15842, (w_p1 (by decide) (Or.inr rfl) e15846), (w_p1 (by decide) (Or.inr rfl) e15847), (w_p1 (by decide) (Or.inr rfl) e15848), (w_p1 (by decide) (Or.inr rfl) e15849), (w_e1 _ _ _), by omega, (ACI.no (by omega) (show v15879.toInt = x15371.toInt + 1 from by omega) (fun f => by (first | (have z := q15855.mpr f; rw [show x15838.toInt = -1 from by omega] at z; exact RCI.none (by omega) z) | (have z := q15855.mpr f; rw [show 12 - x15839.toInt = 0 from by omega] at z; have z2 := (RCI.z.mp z).1; omega))) q15384), by omega, by omega⟩ ⟨by omega, by omega⟩
        · have c15878_ : x15838.toInt = a1.toInt := en_i_ne_f c15878
          exfalso; omega
      · have c15877_ : x15838.toInt ≠ (-1) := en_i_eq_f c15877
        refine At.enter rfl ?_
        refine r_iload e15851 ?_
        refine r_iload_n e15847 ?_
        refine r_ics 43 rfl (fun c15881 => ?_) (fun c15881 => ?_)
        · have c15881_ : x15838.toInt = a1.toInt := en_i_eq_t c15881
          refine At.enter rfl ?_
          refine r_iload e15851 ?_
          refine r_iload_n e15847 ?_
          refine r_ics 75 rfl (fun c15882 => ?_) (fun c15882 => ?_)
          · have c15882_ : x15838.toInt ≠ a1.toInt := en_i_ne_t c15882
            refine At.enter rfl ?_
            refine q_iinc e15850 (x15371.toInt + 1) rfl (by omega) (fun v15883 hv15883 => ?_)
            refine r_goto ?_
            have bv15884 := q_bnd x15370
            exact ih15377 (12 - v15883.toInt) _ _ ⟨x15370, v15883, by first | rfl | omega, hI15841, hF15842, (w_p1 (by decide) (Or.inr rfl) e15846), (w_p1 (by decide) (Or.inr rfl) e15847), (w_p1 (by decide) (Or.inr rfl) e15848), (w_p1 (by decide) (Or.inr rfl) e15849), (w_e1 _ _ _), by omega, (ACI.no (by omega) (show v15883.toInt = x15371.toInt + 1 from by omega) (fun f => by (first | (have z := q15855.mpr f; rw [show x15838.toInt = -1 from by omega] at z; exact RCI.none (by omega) z) | (have z := q15855.mpr f; rw [show 12 - x15839.toInt = 0 from by omega] at z; have z2 := (RCI.z.mp z).1; omega))) q15384), by omega, by omega⟩ ⟨by omega, by omega⟩
          · have c15882_ : x15838.toInt = a1.toInt := en_i_ne_f c15882
            refine At.enter rfl ?_
            refine r_iload_n e15848 ?_
            refine r_iload_n e15847 ?_
            refine r_callS 80 rfl [.int a2, .int a1] [] (Nat.le_of_ble_eq_true rfl) rfl (T_X10_hasBit_hb _ hI15841 a2 a1) ?_
            rintro _ _ ⟨g15885, rfl, hI15886, hF15887, v15888, rfl, hr15889⟩
            refine At.sti ?_
            have hF15890 := Fr.tr hF15842 hF15887 rfl rfl
            refine At.enter rfl ?_
            refine r_ifs 83 rfl (fun c15891 => ?_) (fun c15891 => ?_)
            · have c15891_ : v15888.toInt ≠ 0 := en_k_ne_t c15891
              refine At.enter rfl ?_
              refine q_iinc e15850 (x15371.toInt + 1) rfl (by omega) (fun v15892 hv15892 => ?_)
              refine r_goto ?_
              have bv15893 := q_bnd x15370
              exact ih15377 (12 - v15892.toInt) _ _ ⟨x15370, v15892, by first | rfl | omega, hI15886, hF15890, (w_p1 (by decide) (Or.inr rfl) e15846), (w_p1 (by decide) (Or.inr rfl) e15847), (w_p1 (by decide) (Or.inr rfl) e15848), (w_p1 (by decide) (Or.inr rfl) e15849), (w_e1 _ _ _), by omega, (ACI.no (by omega) (show v15892.toInt = x15371.toInt + 1 from by omega) (fun f => by (first | (have z := q15855.mpr f; rw [show x15838.toInt = -1 from by omega] at z; exact RCI.none (by omega) z) | (have z := q15855.mpr f; rw [show x15838.toInt = a1.toInt from by omega] at z; exact RCI.hb (BL.yes hr15889.2 (by omega)) z) | (have z := q15855.mpr f; rw [show 12 - x15839.toInt = 0 from by omega] at z; have z2 := (RCI.z.mp z).1; omega))) q15384), by omega, by omega⟩ ⟨by omega, by omega⟩
            · have c15891_ : v15888.toInt = 0 := en_k_ne_f c15891
              refine At.enter rfl ?_
              refine r_iload_n e15849 ?_
              refine r_iconst 1 rfl ?_
              refine r_iload e15850 ?_
              refine q_ishlO (fun v15894 hv15894 => ?_)
              refine q_iorO (fun v15895 hv15895 => ?_)
              refine r_istore_n _ rfl ?_
              refine Ar.fall 90 rfl ?_
              refine At.enter rfl ?_
              refine q_iinc (w_p1 (by decide) (Or.inr rfl) e15850) (x15371.toInt + 1) rfl (by omega) (fun v15896 hv15896 => ?_)
              refine r_goto ?_
              have bv15897 := q_bnd v15895
              exact ih15377 (12 - v15896.toInt) _ _ ⟨v15895, v15896, by first | rfl | omega, hI15886, hF15890, (w_p1 (by decide) (Or.inr rfl) (w_p1 (by decide) (Or.inr rfl) e15846)), (w_p1 (by decide) (Or.inr rfl) (w_p1 (by decide) (Or.inr rfl) e15847)), (w_p1 (by decide) (Or.inr rfl) (w_p1 (by decide) (Or.inr rfl) e15848)), (w_p1 (by decide) (Or.inr rfl) (w_e1 _ _ _)), (w_e1 _ _ _), by omega, (ACI.yes (i := x15371) (by omega) (show v15896.toInt = x15371.toInt + 1 from by omega) (q15855.mp ((RCI.want (by omega) (by omega) (show x15838.toInt = a1.toInt from by omega)).mpr (by rw [show x15838.toInt = a1.toInt from by omega]; exact BL.no hr15889.2 (by omega)))) rfl hv15895 (by assumption) q15384), by omega, by omega⟩ ⟨by omega, by omega⟩
        · have c15881_ : x15838.toInt ≠ a1.toInt := en_i_eq_f c15881
          refine At.enter rfl ?_
          refine r_iload_n e15848 ?_
          refine r_iload e15851 ?_
          refine r_callS 49 rfl [.int a2, .int x15838] [] (Nat.le_of_ble_eq_true rfl) rfl (T_X10_hasBit_hb _ hI15841 a2 x15838) ?_
          rintro _ _ ⟨g15898, rfl, hI15899, hF15900, v15901, rfl, hr15902⟩
          refine At.sti ?_
          have hF15903 := Fr.tr hF15842 hF15900 rfl rfl
          refine At.enter rfl ?_
          refine r_ifs 52 rfl (fun c15904 => ?_) (fun c15904 => ?_)
          · have c15904_ : v15901.toInt ≠ 0 := en_k_ne_t c15904
            refine At.enter rfl ?_
            refine r_iload e15851 ?_
            refine r_iload_n e15847 ?_
            refine r_ics 75 rfl (fun c15905 => ?_) (fun c15905 => ?_)
            · have c15905_ : x15838.toInt ≠ a1.toInt := en_i_ne_t c15905
              refine At.enter rfl ?_
              refine q_iinc e15850 (x15371.toInt + 1) rfl (by omega) (fun v15906 hv15906 => ?_)
              refine r_goto ?_
              have bv15907 := q_bnd x15370
              exact ih15377 (12 - v15906.toInt) _ _ ⟨x15370, v15906, by first | rfl | omega, hI15899, hF15903, (w_p1 (by decide) (Or.inr rfl) e15846), (w_p1 (by decide) (Or.inr rfl) e15847), (w_p1 (by decide) (Or.inr rfl) e15848), (w_p1 (by decide) (Or.inr rfl) e15849), (w_e1 _ _ _), by omega, (ACI.no (by omega) (show v15906.toInt = x15371.toInt + 1 from by omega) (fun f => by (first | (have z := q15855.mpr f; rw [show x15838.toInt = -1 from by omega] at z; exact RCI.none (by omega) z) | (have z := q15855.mpr f; rw [show x15838.toInt = x15838.toInt from by omega] at z; exact RCI.hb (BL.yes hr15902.2 (by omega)) z) | (have z := q15855.mpr f; rw [show 12 - x15839.toInt = 0 from by omega] at z; have z2 := (RCI.z.mp z).1; omega))) q15384), by omega, by omega⟩ ⟨by omega, by omega⟩
            · have c15905_ : x15838.toInt = a1.toInt := en_i_ne_f c15905
              refine At.enter rfl ?_
              refine r_iload_n e15848 ?_
              refine r_iload_n e15847 ?_
              refine r_callS 80 rfl [.int a2, .int a1] [] (Nat.le_of_ble_eq_true rfl) rfl (T_X10_hasBit_hb _ hI15899 a2 a1) ?_
              rintro _ _ ⟨g15908, rfl, hI15909, hF15910, v15911, rfl, hr15912⟩
              refine At.sti ?_
              have hF15913 := Fr.tr hF15903 hF15910 rfl rfl
              refine At.enter rfl ?_
              refine r_ifs 83 rfl (fun c15914 => ?_) (fun c15914 => ?_)
              · have c15914_ : v15911.toInt ≠ 0 := en_k_ne_t c15914
                refine At.enter rfl ?_
                refine q_iinc e15850 (x15371.toInt + 1) rfl (by omega) (fun v15915 hv15915 => ?_)
                refine r_goto ?_
                have bv15916 := q_bnd x15370
                exact ih15377 (12 - v15915.toInt) _ _ ⟨x15370, v15915, by first | rfl | omega, hI15909, hF15913, (w_p1 (by decide) (Or.inr rfl) e15846), (w_p1 (by decide) (Or.inr rfl) e15847), (w_p1 (by decide) (Or.inr rfl) e15848), (w_p1 (by decide) (Or.inr rfl) e15849), (w_e1 _ _ _), by omega, (ACI.no (by omega) (show v15915.toInt = x15371.toInt + 1 from by omega) (fun f => by (first | (have z := q15855.mpr f; rw [show x15838.toInt = -1 from by omega] at z; exact RCI.none (by omega) z) | (have z := q15855.mpr f; rw [show x15838.toInt = a1.toInt from by omega] at z; exact RCI.hb (BL.yes hr15912.2 (by omega)) z) | (have z := q15855.mpr f; rw [show 12 - x15839.toInt = 0 from by omega] at z; have z2 := (RCI.z.mp z).1; omega))) q15384), by omega, by omega⟩ ⟨by omega, by omega⟩
              · have c15914_ : v15911.toInt = 0 := en_k_ne_f c15914
                refine At.enter rfl ?_
                refine r_iload_n e15849 ?_
                refine r_iconst 1 rfl ?_
                refine r_iload e15850 ?_
                refine q_ishlO (fun v15917 hv15917 => ?_)
                refine q_iorO (fun v15918 hv15918 => ?_)
                refine r_istore_n _ rfl ?_
                refine Ar.fall 90 rfl ?_
                refine At.enter rfl ?_
                refine q_iinc (w_p1 (by decide) (Or.inr rfl) e15850) (x15371.toInt + 1) rfl (by omega) (fun v15919 hv15919 => ?_)
                refine r_goto ?_
                have bv15920 := q_bnd v15918
                exact ih15377 (12 - v15919.toInt) _ _ ⟨v15918, v15919, by first | rfl | omega, hI15909, hF15913, (w_p1 (by decide) (Or.inr rfl) (w_p1 (by decide) (Or.inr rfl) e15846)), (w_p1 (by decide) (Or.inr rfl) (w_p1 (by decide) (Or.inr rfl) e15847)), (w_p1 (by decide) (Or.inr rfl) (w_p1 (by decide) (Or.inr rfl) e15848)), (w_p1 (by decide) (Or.inr rfl) (w_e1 _ _ _)), (w_e1 _ _ _), by omega, (ACI.yes (i := x15371) (by omega) (show v15919.toInt = x15371.toInt + 1 from by omega) (q15855.mp ((RCI.want (by omega) (by omega) (show x15838.toInt = a1.toInt from by omega)).mpr (by rw [show x15838.toInt = a1.toInt from by omega]; exact BL.no hr15912.2 (by omega)))) rfl hv15918 (by assumption) q15384), by omega, by omega⟩ ⟨by omega, by omega⟩
          · have c15904_ : v15901.toInt = 0 := en_k_ne_f c15904
            refine At.enter rfl ?_
            refine r_aload_n e15846 ?_
            refine q_getR (Sh.ref hI15899.1 kx_184 rfl) ?_
            refine r_iload e15851 ?_
            refine r_callV 61 rfl [.ref 1, .int x15838] [] (Nat.le_of_ble_eq_true rfl) rfl (T_X0_next_1 _ hI15899 x15838) ?_
            rintro _ _ ⟨g15921, rfl, hI15922, hF15923, v15924, rfl, hr15925⟩
            refine At.sti ?_
            have hF15926 := Fr.tr hF15903 hF15923 rfl rfl
            rw [NX.c (((hF15900.2.1 2 (by decide)).trans (hF15842.2.1 2 (by decide)))) (((hF15900.1 1 0 (by decide)).trans (hF15842.1 1 0 (by decide))))] at hr15925
            refine At.enter rfl ?_
            refine r_istore _ rfl ?_
            refine q_iinc (w_p1 (by decide) (Or.inr rfl) e15852) (x15839.toInt + 1) rfl (by omega) (fun v15927 hv15927 => ?_)
            refine r_goto ?_
            exact ih15845 (12 - v15927.toInt) _ _ ⟨v15924, v15927, by first | rfl | omega, hI15922, hF15926, (w_p1 (by decide) (Or.inr rfl) (w_p1 (by decide) (Or.inr rfl) e15846)), (w_p1 (by decide) (Or.inr rfl) (w_p1 (by decide) (Or.inr rfl) e15847)), (w_p1 (by decide) (Or.inr rfl) (w_p1 (by decide) (Or.inr rfl) e15848)), (w_p1 (by decide) (Or.inr rfl) (w_p1 (by decide) (Or.inr rfl) e15849)), (w_p1 (by decide) (Or.inr rfl) (w_p1 (by decide) (Or.inr rfl) e15850)), (w_p1 (by decide) (Or.inr rfl) (w_e1 _ _ _)), (w_e1 _ _ _), by omega, by omega, (by rw [show v15924.toInt = NX g0 x15838.toInt from by omega]; exact (RCI.step (by omega) (by omega) (BL.no hr15902.2 (by omega)) (by omega) (by omega)).symm.trans q15855), by omega, by omega⟩ ⟨by omega, by omega⟩
