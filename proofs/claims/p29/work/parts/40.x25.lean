def F_X8_append_174 : List (Nat × Nat) := [(174, 1)]
def A_X8_append_174 : List Nat := [175]
set_option maxRecDepth 100000 in
set_option maxHeartbeats 4000000 in
theorem T_X8_append_174 (d : Nat) {N : Nat} {g0 : List en_E} (hI0 : HI g0) (a1 : Int32) : Ev (d + 1) 93 [.ref 174, .int a1] (g0, N) (fun w h' => ∃ g', h' = (g', N) ∧ HI g' ∧ Fr F_X8_append_174 A_X8_append_174 g0 g' ∧ w = none ∧ (((gI g0 174 1).toInt ≤ 396 → (gI g' 174 1).toInt = (gI g0 174 1).toInt + 4) ∧ ((gI g0 174 1).toInt ≤ 396 → (∀ i : Int, 0 ≤ i → i < 400 → (eA g' 175 (i)).toInt = if (gI g0 174 1).toInt ≤ i ∧ i < (gI g0 174 1).toInt + 4 then BYT a1 (i - (gI g0 174 1).toInt) else (eA g0 175 (i)).toInt)))) := by
  have hF0 : Fr F_X8_append_174 A_X8_append_174 g0 g0 := Fr.rf
  refine Ev.mk rfl rfl ⟨Nat.le_of_ble_eq_true rfl, Or.inr (q_rc hI0.1 kx_174 rfl)⟩ ?_
  show At _ none _ _ (0, [(0, .ref 174), (1, .int a1)], [], (_, _)) _
  refine At.enter rfl ?_
  refine r_bipush 24 rfl ?_
  refine r_istore_n ([(2, .int 24), (0, .ref 174), (1, .int a1)]) rfl ?_
  refine Ar.fall 3 rfl ?_
  obtain ⟨v219, hv219⟩ : ∃ v, gI g0 174 1 = v := ⟨_, rfl⟩
  have rv219 := RgF.at hI0.2.1 (p := 174) (b := 1) rfl
  rw [hv219] at rv219
  dsimp only at rv219
  have tv219 := congrArg Int32.toInt hv219
  have z_314 : (24 : Int32).toInt = 24 := rfl
  refine w_loopI (fun n_ l_ g_ => ∃ x298 : Int32, ∃ x299 : Int32, n_ = x298.toInt + 8 ∧ HI g_ ∧ Fr F_X8_append_174 A_X8_append_174 g0 g_ ∧ gI g_ 174 1 = x299 ∧ en_get 0 l_ = some (.ref 174) ∧ en_get 1 l_ = some (.int a1) ∧ en_get 2 l_ = some (.int x298) ∧ ((-8) ≤ x298.toInt ∧ x298.toInt ≤ 24) ∧ (0 ≤ x299.toInt ∧ x299.toInt ≤ 400) ∧ (8 * x299.toInt + x298.toInt = 8 * (gI g0 174 1).toInt + 24) ∧ (∀ i : Int, 0 ≤ i → i < 400 → (eA g_ 175 (i)).toInt = if (gI g0 174 1).toInt ≤ i ∧ i < x299.toInt then BYT a1 (i - (gI g0 174 1).toInt) else (eA g0 175 (i)).toInt)) ?_ (24 + 8) ⟨24, v219, by first | rfl | omega, hI0, hF0, hv219, rfl, rfl, rfl, by decide, by omega, by omega, (by intro i i0 i1; refine Eq.trans ?_ (if_neg (show ¬ ((gI g0 174 1).toInt ≤ i ∧ i < v219.toInt) from by omega)).symm; (first | with_reducible rfl | omega | exact eA_ix (by omega) | rfl))⟩
  rintro n304 l303 g300 ⟨x298, x299, hm316, hI301, hF302, e306, e307, e308, e309, r310, r311, q312, q313⟩ ih305
  have tv317 := congrArg Int32.toInt e306
  refine At.enter rfl ?_
  refine r_iload_n e309 ?_
  refine r_ifs 7 rfl (fun c318 => ?_) (fun c318 => ?_)
  · have c318_ : x298.toInt < 0 := en_k_lt_t c318
    refine At.enter rfl ?_
    refine r_vret ?_
    have x319 := HI.eqI hI301 (p := 174) (b := 1) (e306)
    exact ⟨_, rfl, hI301, hF302, rfl, ⟨(by omega), fun hz => (by intro i i0 i1; exact (Decidable.em ((gI g0 174 1).toInt ≤ i ∧ i < (gI g0 174 1).toInt + 4)).elim (fun k1_ => by refine Eq.trans ?_ (if_pos k1_).symm; refine ((q313 (i) (by first | exact i0 | omega) (by first | exact i1 | omega))).trans ?_; exact (Decidable.em ((gI g0 174 1).toInt ≤ (i) ∧ (i) < x299.toInt)).elim (fun k2_ => by refine (if_pos k2_).trans ?_; (first | with_reducible rfl | omega | exact eA_ix (by omega) | rfl)) (fun k2_ => by refine (if_neg k2_).trans ?_; (first | with_reducible rfl | omega | exact eA_ix (by omega) | rfl))) (fun k1_ => by refine Eq.trans ?_ (if_neg k1_).symm; refine ((q313 (i) (by first | exact i0 | omega) (by first | exact i1 | omega))).trans ?_; exact (Decidable.em ((gI g0 174 1).toInt ≤ (i) ∧ (i) < x299.toInt)).elim (fun k3_ => by refine (if_pos k3_).trans ?_; (first | with_reducible rfl | omega | exact eA_ix (by omega) | rfl)) (fun k3_ => by refine (if_neg k3_).trans ?_; (first | with_reducible rfl | omega | exact eA_ix (by omega) | rfl))))⟩⟩
  · have c318_ : x298.toInt ≥ 0 := en_k_lt_f c318
    refine At.enter rfl ?_
    refine r_aload_n e307 ?_
    refine q_getI (Sh.int hI301.1 kx_174 rfl) x299 e306 ?_
    refine r_sipush 400 rfl ?_
    refine r_ics 17 rfl (fun c321 => ?_) (fun c321 => ?_)
    · have c321_ : x299.toInt ≥ 400 := en_i_ge_t c321
      refine At.enter rfl ?_
      refine r_vret ?_
      have x322 := HI.eqI hI301 (p := 174) (b := 1) (e306)
      exact ⟨_, rfl, hI301, hF302, rfl, ⟨(by omega), fun hz => (by intro i i0 i1; exact (Decidable.em ((gI g0 174 1).toInt ≤ i ∧ i < (gI g0 174 1).toInt + 4)).elim (fun k4_ => by refine Eq.trans ?_ (if_pos k4_).symm; refine ((q313 (i) (by first | exact i0 | omega) (by first | exact i1 | omega))).trans ?_; exact (Decidable.em ((gI g0 174 1).toInt ≤ (i) ∧ (i) < x299.toInt)).elim (fun k5_ => by refine (if_pos k5_).trans ?_; (first | with_reducible rfl | omega | exact eA_ix (by omega) | rfl)) (fun k5_ => by refine (if_neg k5_).trans ?_; (first | with_reducible rfl | omega | exact eA_ix (by omega) | rfl))) (fun k4_ => by refine Eq.trans ?_ (if_neg k4_).symm; refine ((q313 (i) (by first | exact i0 | omega) (by first | exact i1 | omega))).trans ?_; exact (Decidable.em ((gI g0 174 1).toInt ≤ (i) ∧ (i) < x299.toInt)).elim (fun k6_ => by refine (if_pos k6_).trans ?_; (first | with_reducible rfl | omega | exact eA_ix (by omega) | rfl)) (fun k6_ => by refine (if_neg k6_).trans ?_; (first | with_reducible rfl | omega | exact eA_ix (by omega) | rfl))))⟩⟩
    · have c321_ : x299.toInt < 400 := en_i_ge_f c321
      refine At.enter rfl ?_
      refine r_aload_n e307 ?_
      refine q_getR (Sh.ref hI301.1 kx_174 rfl) ?_
      refine r_aload_n e307 ?_
      refine q_getI (Sh.int hI301.1 kx_174 rfl) x299 e306 ?_
      refine r_iload_n e308 ?_
      refine r_iload_n e309 ?_
      refine q_iushrO (fun v324 hv324 => ?_)
      refine r_sipush 255 rfl ?_
      refine q_iandO (fun v325 hv325 => ?_)
      refine q_iast (Sh.arr hI301.1 ka_175) (x299.toInt) rfl (by omega) ?_
      have hI326 := HI.wA0 hI301 ka_175 (p := 175) rfl rfl (x299.toInt) (v325)
      have hF327 := Fr.wA (p := 175) (j := x299.toInt) (v := v325) hF302 rfl
      refine r_aload_n e307 ?_
      refine r_dup rfl ?_
      refine q_getI (Sh.int hI326.1 kx_174 rfl) x299 ((gI_sW).trans e306) ?_
      refine r_iconst 1 rfl ?_
      refine q_iadd (x299.toInt + 1) rfl (by omega) (fun v328 hv328 => ?_)
      refine q_putI (Sh.int hI326.1 kx_174 rfl) rfl ?_
      have hI329 := HI.wI1 hI326 kx_174 rfl (p := 174) (b := 1) (v := v328) rfl (by dsimp only; omega)
      have hF330 := Fr.wI (p := 174) (b := 1) (v := v328) hF327 rfl
      refine q_iinc e309 (x298.toInt + (-8)) rfl (by omega) (fun v331 hv331 => ?_)
      refine r_goto ?_
      exact ih305 (v331.toInt + 8) _ _ ⟨v331, v328, by first | rfl | omega, hI329, hF330, (gI_sI_eq hI326.1 kx_174 rfl _), (w_p1 (by decide) (Or.inr rfl) e307), (w_p1 (by decide) (Or.inr rfl) e308), (w_e1 _ _ _), by omega, by omega, by omega, (by intro i i0 i1; exact (Decidable.em ((gI g0 174 1).toInt ≤ i ∧ i < v328.toInt)).elim (fun k7_ => by refine Eq.trans ?_ (if_pos k7_).symm; refine (eA_ti ((gA_sI))).trans ?_; exact (Decidable.em (i = x299.toInt)).elim (fun k8_ => by refine (eA_eqT hI301.1 ka_175 k8_ (by first | decide | omega) (by first | decide | omega)).trans ?_; (first | (with_reducible rfl) | (omega) | (exact BYT.x (by assumption) hv325 (by omega) (by omega)) | (rfl))) (fun k8_ => by refine (eA_neT hI301.1 ka_175 k8_ (by first | decide | omega) (by omega)).trans ?_; refine ((q313 (i) (by first | exact i0 | omega) (by first | exact i1 | omega))).trans ?_; exact (Decidable.em ((gI g0 174 1).toInt ≤ (i) ∧ (i) < x299.toInt)).elim (fun k9_ => by refine (if_pos k9_).trans ?_; (first | with_reducible rfl | omega | exact eA_ix (by omega) | rfl)) (fun k9_ => by refine (if_neg k9_).trans ?_; (first | with_reducible rfl | omega | exact eA_ix (by omega) | rfl)))) (fun k7_ => by refine Eq.trans ?_ (if_neg k7_).symm; refine (eA_ti ((gA_sI))).trans ?_; exact (Decidable.em (i = x299.toInt)).elim (fun k10_ => by refine (eA_eqT hI301.1 ka_175 k10_ (by first | decide | omega) (by first | decide | omega)).trans ?_; (first | (with_reducible rfl) | (omega) | (exact BYT.x (by assumption) hv325 (by omega) (by omega)) | (rfl))) (fun k10_ => by refine (eA_neT hI301.1 ka_175 k10_ (by first | decide | omega) (by omega)).trans ?_; refine ((q313 (i) (by first | exact i0 | omega) (by first | exact i1 | omega))).trans ?_; exact (Decidable.em ((gI g0 174 1).toInt ≤ (i) ∧ (i) < x299.toInt)).elim (fun k11_ => by refine (if_pos k11_).trans ?_; (first | with_reducible rfl | omega | exact eA_ix (by omega) | rfl)) (fun k11_ => by refine (if_neg k11_).trans ?_; (first | with_reducible rfl | omega | exact eA_ix (by omega) | rfl)))))⟩ ⟨by omega, by omega⟩

def F_X8_at_174 : List (Nat × Nat) := []
def A_X8_at_174 : List Nat := []
set_option maxRecDepth 100000 in
set_option maxHeartbeats 4000000 in
theorem T_X8_at_174 (d : Nat) {N : Nat} {g0 : List en_E} (hI0 : HI g0) (a1 : Int32) : Ev (d + 1) 94 [.ref 174, .int a1] (g0, N) (fun w h' => ∃ g', h' = (g', N) ∧ HI g' ∧ Fr F_X8_at_174 A_X8_at_174 g0 g' ∧ ∃ r : Int32, w = some (.int r) ∧ True ∧ ((r.toInt ≠ -1 → a1.toInt < (gI g0 174 1).toInt) ∧ ATX g0 a1.toInt r.toInt)) := by
  have hF0 : Fr F_X8_at_174 A_X8_at_174 g0 g0 := Fr.rf
  refine Ev.mk rfl rfl ⟨Nat.le_of_ble_eq_true rfl, Or.inr (q_rc hI0.1 kx_174 rfl)⟩ ?_
  show At _ none _ _ (0, [(0, .ref 174), (1, .int a1)], [], (_, _)) _
  refine At.enter rfl ?_
  refine r_iload_n rfl ?_
  refine r_ifs 4 rfl (fun c15 => ?_) (fun c15 => ?_)
  · have c15_ : a1.toInt < 0 := en_k_lt_t c15
    refine At.enter rfl ?_
    refine r_iconst (-1) rfl ?_
    refine Ar.fall 29 rfl ?_
    refine At.enter rfl ?_
    refine r_ireti ?_
    have zv16 : ((-1) : Int32).toInt = (-1) := rfl
    obtain ⟨v17, hv17⟩ : ∃ v, gI g0 174 1 = v := ⟨_, rfl⟩
    have rv17 := RgF.at hI0.2.1 (p := 174) (b := 1) rfl
    rw [hv17] at rv17
    dsimp only at rv17
    have tv17 := congrArg Int32.toInt hv17
    exact ⟨_, rfl, hI0, hF0, _, rfl, trivial, ⟨by omega, ATX.mk (by omega) (by omega)⟩⟩
  · have c15_ : a1.toInt ≥ 0 := en_k_lt_f c15
    refine At.enter rfl ?_
    refine r_iload_n rfl ?_
    refine r_aload_n rfl ?_
    obtain ⟨v19, hv19⟩ : ∃ v, gI g0 174 1 = v := ⟨_, rfl⟩
    have rv19 := RgF.at hI0.2.1 (p := 174) (b := 1) rfl
    rw [hv19] at rv19
    dsimp only at rv19
    refine q_getI (Sh.int hI0.1 kx_174 rfl) v19 hv19 ?_
    have bv21 := q_bnd a1
    have bv22 := q_bnd v19
    refine r_ics 12 rfl (fun c20 => ?_) (fun c20 => ?_)
    · have c20_ : a1.toInt ≥ v19.toInt := en_i_ge_t c20
      refine At.enter rfl ?_
      refine r_iconst (-1) rfl ?_
      refine Ar.fall 29 rfl ?_
      refine At.enter rfl ?_
      refine r_ireti ?_
      have zv23 : ((-1) : Int32).toInt = (-1) := rfl
      have x24 := HI.eqI hI0 (p := 174) (b := 1) (hv19)
      exact ⟨_, rfl, hI0, hF0, _, rfl, trivial, ⟨by omega, ATX.mk (by omega) (by omega)⟩⟩
    · have c20_ : a1.toInt < v19.toInt := en_i_ge_f c20
      refine At.enter rfl ?_
      refine r_iload_n rfl ?_
      refine r_sipush 400 rfl ?_
      refine r_ics 19 rfl (fun c25 => ?_) (fun c25 => ?_)
      · have c25_ : a1.toInt ≥ 400 := en_i_ge_t c25
        exfalso; omega
      · have c25_ : a1.toInt < 400 := en_i_ge_f c25
        refine At.enter rfl ?_
        refine r_aload_n rfl ?_
        refine q_getR (Sh.ref hI0.1 kx_174 rfl) ?_
        refine r_iload_n rfl ?_
        obtain ⟨v26, hv26⟩ : ∃ v, eA g0 175 a1.toInt = v := ⟨_, rfl⟩
        refine q_iald (Sh.arr hI0.1 ka_175) a1.toInt rfl (by omega) v26 hv26 ?_
        refine r_goto ?_
        refine At.enter rfl ?_
        refine r_ireti ?_
        have x27 := HI.eqI hI0 (p := 174) (b := 1) (hv19)
        have y28 := congrArg Int32.toInt hv26
        exact ⟨_, rfl, hI0, hF0, _, rfl, trivial, ⟨by omega, ATX.mk (by omega) (by omega)⟩⟩

def F_X9_standAfter_184 : List (Nat × Nat) := []
def A_X9_standAfter_184 : List Nat := []
set_option maxRecDepth 100000 in
set_option maxHeartbeats 4000000 in
theorem T_X9_standAfter_184 (d : Nat) {N : Nat} {g0 : List en_E} (hI0 : HI g0) (a1 : Int32) (a2 : Int32) : Ev (d + 3) 102 [.ref 184, .int a1, .int a2] (g0, N) (fun w h' => ∃ g', h' = (g', N) ∧ HI g' ∧ Fr F_X9_standAfter_184 A_X9_standAfter_184 g0 g' ∧ ∃ r : Int32, w = some (.int r) ∧ True ∧ (r.toInt = itI (NX g0) a2.toInt a1.toInt)) := by
  have hF0 : Fr F_X9_standAfter_184 A_X9_standAfter_184 g0 g0 := Fr.rf
  refine Ev.mk rfl rfl ⟨Nat.le_of_ble_eq_true rfl, Or.inr (q_rc hI0.1 kx_184 rfl)⟩ ?_
  show At _ none _ _ (0, [(0, .ref 184), (1, .int a1), (2, .int a2)], [], (_, _)) _
  refine At.enter rfl ?_
  refine r_iload_n rfl ?_
  refine r_istore_n ([(3, .int a1), (0, .ref 184), (1, .int a1), (2, .int a2)]) rfl ?_
  refine r_iconst 0 rfl ?_
  refine r_istore ([(4, .int 0), (3, .int a1), (0, .ref 184), (1, .int a1), (2, .int a2)]) rfl ?_
  refine Ar.fall 5 rfl ?_
  have z_1090 : (0 : Int32).toInt = 0 := rfl
  refine w_loopI (fun n_ l_ g_ => ∃ x1073 : Int32, ∃ x1074 : Int32, n_ = 2147483647 - x1074.toInt ∧ HI g_ ∧ Fr F_X9_standAfter_184 A_X9_standAfter_184 g0 g_ ∧ en_get 0 l_ = some (.ref 184) ∧ en_get 1 l_ = some (.int a1) ∧ en_get 2 l_ = some (.int a2) ∧ en_get 3 l_ = some (.int x1073) ∧ en_get 4 l_ = some (.int x1074) ∧ 0 ≤ x1074.toInt ∧ (x1073.toInt = itI (NX g0) x1074.toInt a1.toInt) ∧ (0 ≤ x1074.toInt) ∧ (x1074.toInt ≤ a2.toInt ∨ x1074.toInt = 0)) ?_ (2147483647 - 0) ⟨a1, 0, by first | rfl | omega, hI0, hF0, rfl, rfl, rfl, rfl, rfl, by decide, (itI_n _ (by first | decide | omega) _).symm, by omega, by omega⟩
  rintro n1079 l1078 g1075 ⟨x1073, x1074, hm1091, hI1076, hF1077, e1081, e1082, e1083, e1084, e1085, r1086, q1087, q1088, q1089⟩ ih1080
  refine At.enter rfl ?_
  refine r_iload e1085 ?_
  refine r_iload_n e1083 ?_
  have bv1093 := q_bnd x1074
  have bv1094 := q_bnd a2
  refine r_ics 11 rfl (fun c1092 => ?_) (fun c1092 => ?_)
  · have c1092_ : x1074.toInt ≥ a2.toInt := en_i_ge_t c1092
    refine At.enter rfl ?_
    refine r_iload_n e1084 ?_
    refine r_ireti ?_
    exact ⟨_, rfl, hI1076, hF1077, _, rfl, trivial, (by first | exact (Decidable.em (a2.toInt ≤ 0)).elim (fun k => (by rw [itI_n _ k]; have z := itI_n (NX g0) (k := x1074.toInt) (by omega) a1.toInt; omega)) (fun k => (by rw [show a2.toInt = x1074.toInt from by omega]; omega)) | (have z := itI_e (NX.e g0) (i := x1074.toInt) (k := a2.toInt) (s := a1.toInt) (by omega) (by omega); omega))⟩
  · have c1092_ : x1074.toInt < a2.toInt := en_i_ge_f c1092
    refine At.enter rfl ?_
    refine r_iload_n e1084 ?_
    refine r_iconst (-1) rfl ?_
    refine r_ics 16 rfl (fun c1095 => ?_) (fun c1095 => ?_)
    · have c1095_ : x1073.toInt = (-1) := en_i_eq_t c1095
      refine At.enter rfl ?_
      refine r_iload_n e1084 ?_
      refine r_ireti ?_
      exact ⟨_, rfl, hI1076, hF1077, _, rfl, trivial, (by first | exact (Decidable.em (a2.toInt ≤ 0)).elim (fun k => (by rw [itI_n _ k]; have z := itI_n (NX g0) (k := x1074.toInt) (by omega) a1.toInt; omega)) (fun k => (by rw [show a2.toInt = x1074.toInt from by omega]; omega)) | (have z := itI_e (NX.e g0) (i := x1074.toInt) (k := a2.toInt) (s := a1.toInt) (by omega) (by omega); omega))⟩
    · have c1095_ : x1073.toInt ≠ (-1) := en_i_eq_f c1095
      refine At.enter rfl ?_
      refine r_aload_n e1081 ?_
      refine q_getR (Sh.ref hI1076.1 kx_184 rfl) ?_
      refine r_iload_n e1084 ?_
      refine r_callV 24 rfl [.ref 1, .int x1073] [] (Nat.le_of_ble_eq_true rfl) rfl (T_X0_next_1 _ hI1076 x1073) ?_
      rintro _ _ ⟨g1096, rfl, hI1097, hF1098, v1099, rfl, hr1100⟩
      refine At.sti ?_
      have ks1103 := hr1100.2.2
      have hr1102 : _ ∧ _ := ⟨hr1100.1, hr1100.2.1⟩
      have hF1101 := Fr.tr hF1077 hF1098 rfl rfl
      rw [NX.c ((hF1077.2.1 2 (by decide))) ((hF1077.1 1 0 (by decide)))] at hr1102
      refine At.enter rfl ?_
      refine r_istore_n _ rfl ?_
      refine q_iinc (w_p1 (by decide) (Or.inr rfl) e1085) (x1074.toInt + 1) rfl (by omega) (fun v1104 hv1104 => ?_)
      refine r_goto ?_
      have bv1105 := q_bnd v1099
      have bv1106 := q_bnd v1104
      exact ih1080 (2147483647 - v1104.toInt) _ _ ⟨v1099, v1104, by first | rfl | omega, hI1097, hF1101, (w_p1 (by decide) (Or.inr rfl) (w_p1 (by decide) (Or.inr rfl) e1081)), (w_p1 (by decide) (Or.inr rfl) (w_p1 (by decide) (Or.inr rfl) e1082)), (w_p1 (by decide) (Or.inr rfl) (w_p1 (by decide) (Or.inr rfl) e1083)), (w_p1 (by decide) (Or.inr rfl) (w_e1 _ _ _)), (w_e1 _ _ _), by omega, (by rw [show v1104.toInt = x1074.toInt + 1 from by omega, itI_s (NX g0) (by omega), ← q1087]; omega), by omega, by omega⟩ ⟨by omega, by omega⟩

def F_X9_standOf_184 : List (Nat × Nat) := []
def A_X9_standOf_184 : List Nat := []
theorem ma_X0_handsOf_1_2 : memA A_X0_handsOf_1 2 = false := by decide
theorem mf_X0_handsOf_1_1_0 : memF F_X0_handsOf_1 1 0 = false := by decide
set_option maxRecDepth 100000 in
set_option maxHeartbeats 4000000 in
theorem T_X9_standOf_184 (d : Nat) {N : Nat} {g0 : List en_E} (hI0 : HI g0) (a1 : Int32) (a2 : Int32) : Ev (d + 4) 96 [.ref 184, .int a1, .int a2] (g0, N) (fun w h' => ∃ g', h' = (g', N) ∧ HI g' ∧ Fr F_X9_standOf_184 A_X9_standOf_184 g0 g' ∧ ∃ r : Int32, w = some (.int r) ∧ True ∧ ((0 ≤ a1.toInt ∧ a1.toInt < (gI g0 1 4).toInt) → (eA g0 5 (6 * a1.toInt + 2)).toInt ≠ -1 → a2.toInt ≠ -1 → WAYA (NX g0) 11 (eA g0 5 (6 * a1.toInt + 1)).toInt (eA g0 5 (6 * a1.toInt + 2)).toInt a2.toInt r.toInt)) := by
  have hF0 : Fr F_X9_standOf_184 A_X9_standOf_184 g0 g0 := Fr.rf
  refine Ev.mk rfl rfl ⟨Nat.le_of_ble_eq_true rfl, Or.inr (q_rc hI0.1 kx_184 rfl)⟩ ?_
  show At _ none _ _ (0, [(0, .ref 184), (1, .int a1), (2, .int a2)], [], (_, _)) _
  refine At.enter rfl ?_
  refine r_iload_n rfl ?_
  refine r_iconst 0 rfl ?_
  refine r_aload_n rfl ?_
  refine q_getR (Sh.ref hI0.1 kx_184 rfl) ?_
  refine r_iload_n rfl ?_
  refine r_callV 10 rfl [.ref 1, .int a1] [.int 0, .int a2] (Nat.le_of_ble_eq_true rfl) rfl (T_X0_handsOf_1 _ hI0 a1) ?_
  rintro _ _ ⟨g51, rfl, hI52, hF53, v54, rfl, hr55⟩
  refine At.sti ?_
  have hF56 := Fr.tr hF0 hF53 rfl rfl
  refine At.enter rfl ?_
  refine q_inlS 13 rfl [.int a2, .int 0, .int v54] [] (Nat.le_of_ble_eq_true rfl) rfl ?_
  refine Ev.mk rfl rfl ⟨Nat.le_of_ble_eq_true rfl, Or.inl rfl⟩ ?_
  show At _ none _ _ (0, [(0, .int a2), (1, .int 0), (2, .int v54)], [], (_, _)) _
  refine At.enter rfl ?_
  refine r_iload_n rfl ?_
  refine r_iload_n rfl ?_
  refine r_ics 5 rfl (fun c57 => ?_) (fun c57 => ?_)
  · have c57_ : a2.toInt < 0 := en_i_lt_t c57
    refine At.enter rfl ?_
    refine r_iconst 0 rfl ?_
    refine Ar.fall 15 rfl ?_
    refine At.enter rfl ?_
    refine q_iretz (by decide) ?_
    refine At.enter rfl ?_
    refine r_ift (by decide) ?_
    refine At.enter rfl ?_
    refine r_iconst (-1) rfl ?_
    refine Ar.fall 34 rfl ?_
    refine At.enter rfl ?_
    refine r_ireti ?_
    have zv58 : ((-1) : Int32).toInt = (-1) := rfl
    exact ⟨_, rfl, hI52, hF56, _, rfl, trivial, (fun h hw hi => WAYA.mk v54.toInt (hr55.2 h hw) (fun e => absurd e hi) (fun c => by omega) (fun c => by omega))⟩
  · have c57_ : a2.toInt ≥ 0 := en_i_lt_f c57
    refine At.enter rfl ?_
    refine r_iload_n rfl ?_
    refine r_iload_n rfl ?_
    have bv60 := q_bnd a2
    have bv61 := q_bnd v54
    refine r_ics 10 rfl (fun c59 => ?_) (fun c59 => ?_)
    · have c59_ : a2.toInt > v54.toInt := en_i_gt_t c59
      refine At.enter rfl ?_
      refine r_iconst 0 rfl ?_
      refine Ar.fall 15 rfl ?_
      refine At.enter rfl ?_
      refine q_iretz (by decide) ?_
      refine At.enter rfl ?_
      refine r_ift (by decide) ?_
      refine At.enter rfl ?_
      refine r_iconst (-1) rfl ?_
      refine Ar.fall 34 rfl ?_
      refine At.enter rfl ?_
      refine r_ireti ?_
      have zv62 : ((-1) : Int32).toInt = (-1) := rfl
      exact ⟨_, rfl, hI52, hF56, _, rfl, trivial, (fun h hw hi => WAYA.mk v54.toInt (hr55.2 h hw) (fun e => absurd e hi) (fun c => by omega) (fun c => by omega))⟩
    · have c59_ : a2.toInt ≤ v54.toInt := en_i_gt_f c59
      refine At.enter rfl ?_
      refine r_iconst 1 rfl ?_
      refine r_goto ?_
      refine At.enter rfl ?_
      refine q_iretz (by decide) ?_
      refine At.enter rfl ?_
      refine r_iff 16 rfl (by decide) ?_
      refine At.enter rfl ?_
      refine r_aload_n rfl ?_
      refine r_aload_n rfl ?_
      refine q_getR (Sh.ref hI52.1 kx_184 rfl) ?_
      refine r_iload_n rfl ?_
      refine r_iconst 1 rfl ?_
      refine r_callV 26 rfl [.ref 1, .int a1, .int 1] [.ref 184] (Nat.le_of_ble_eq_true rfl) rfl (T_X0_about_1 _ hI52 a1 1) ?_
      rintro _ _ ⟨g63, rfl, hI64, hF65, v66, rfl, hr67⟩
      refine At.sti ?_
      have ks70 := hr67.2.2
      have hr69 : _ ∧ _ := ⟨hr67.1, hr67.2.1⟩
      have hF68 := Fr.tr hF56 hF65 rfl rfl
      have zv71 : (1 : Int32).toInt = 1 := rfl
      have ab72_ := ABX.c ((hF53.2.1 5 ma_X0_handsOf_1_5)) ((hF53.1 1 4 mf_X0_handsOf_1_1_4)) hr69.2
      have ab72 : ABX g0 a1.toInt 1 v66.toInt := ab72_
      refine At.enter rfl ?_
      refine r_iload_n rfl ?_
      refine r_callV 30 rfl [.ref 184, .int v66, .int a2] [] (Nat.le_of_ble_eq_true rfl) rfl (T_X9_standAfter_184 _ hI64 v66 a2) ?_
      rintro _ _ ⟨g73, rfl, hI74, hF75, v76, rfl, hr77⟩
      refine At.sti ?_
      have hF78 := Fr.tr hF68 hF75 rfl rfl
      rw [NX.cI (((hF65.2.1 2 ma_X0_about_1_2).trans (hF53.2.1 2 ma_X0_handsOf_1_2))) (((hF65.1 1 0 mf_X0_about_1_1_0).trans (hF53.1 1 0 mf_X0_handsOf_1_1_0)))] at hr77
      refine At.enter rfl ?_
      refine r_goto ?_
      refine At.enter rfl ?_
      refine r_ireti ?_
      exact ⟨_, rfl, hI74, hF78, _, rfl, trivial, (fun h hw hi => WAYA.mk v54.toInt (hr55.2 h hw) (fun e => absurd e hi) (fun c => by have e1 := ab72.1 ⟨h.1, h.2, by decide, by decide⟩; rw [← e1]; omega) (fun c => by omega))⟩

def F_X9_comersTo_184 : List (Nat × Nat) := []
def A_X9_comersTo_184 : List Nat := []
theorem ma_X10_hasBit_hb_2 : memA A_X10_hasBit_hb 2 = false := by decide
theorem mf_X10_hasBit_hb_1_0 : memF F_X10_hasBit_hb 1 0 = false := by decide
set_option maxRecDepth 100000 in
set_option maxHeartbeats 4000000 in
theorem T_X9_comersTo_184 (d : Nat) {N : Nat} {g0 : List en_E} (hI0 : HI g0) (a1 : Int32) (h_a1 : 0 ≤ a1.toInt ∧ a1.toInt ≤ 11) (a2 : Int32) : Ev (d + 3) 97 [.ref 184, .int a1, .int a2] (g0, N) (fun w h' => ∃ g', h' = (g', N) ∧ HI g' ∧ Fr F_X9_comersTo_184 A_X9_comersTo_184 g0 g' ∧ ∃ r : Int32, w = some (.int r) ∧ True ∧ (r.toInt = (ACI (RCI (NX g0) (hbI a2) a1.toInt 12) (gI g0 1 0).toInt).toInt)) := by
  have hF0 : Fr F_X9_comersTo_184 A_X9_comersTo_184 g0 g0 := Fr.rf
  refine Ev.mk rfl rfl ⟨Nat.le_of_ble_eq_true rfl, Or.inr (q_rc hI0.1 kx_184 rfl)⟩ ?_
  show At _ none _ _ (0, [(0, .ref 184), (1, .int a1), (2, .int a2)], [], (_, _)) _
  refine At.enter rfl ?_
  refine r_iconst 0 rfl ?_
  refine r_istore_n ([(3, .int 0), (0, .ref 184), (1, .int a1), (2, .int a2)]) rfl ?_
  refine r_iconst 0 rfl ?_
  refine r_istore ([(4, .int 0), (3, .int 0), (0, .ref 184), (1, .int a1), (2, .int a2)]) rfl ?_
  refine Ar.fall 5 rfl ?_
  have z_15967 : (0 : Int32).toInt = 0 := rfl
  have z_15968 : (0 : Int32).toInt = 0 := rfl
  obtain ⟨v15969, hv15969⟩ : ∃ v, gI g0 1 0 = v := ⟨_, rfl⟩
  have rv15969 := RgF.at hI0.2.1 (p := 1) (b := 0) rfl
  rw [hv15969] at rv15969
  dsimp only at rv15969
  have tv15969 := congrArg Int32.toInt hv15969
  refine w_loopI (fun n_ l_ g_ => ∃ x15950 : Int32, ∃ x15951 : Int32, n_ = 12 - x15951.toInt ∧ HI g_ ∧ Fr F_X9_comersTo_184 A_X9_comersTo_184 g0 g_ ∧ en_get 0 l_ = some (.ref 184) ∧ en_get 1 l_ = some (.int a1) ∧ en_get 2 l_ = some (.int a2) ∧ en_get 3 l_ = some (.int x15950) ∧ en_get 4 l_ = some (.int x15951) ∧ (0 ≤ x15951.toInt ∧ x15951.toInt ≤ 12) ∧ (x15950.toInt = (ACI (RCI (NX g0) (hbI a2) a1.toInt 12) x15951.toInt).toInt) ∧ (0 ≤ x15951.toInt) ∧ (x15951.toInt ≤ (gI g0 1 0).toInt)) ?_ (12 - 0) ⟨0, 0, by first | rfl | omega, hI0, hF0, rfl, rfl, rfl, rfl, rfl, by decide, ((by first | rfl | omega : _ = (0 : Int)).trans (ACI.z _ (by first | decide | omega))), by omega, by omega⟩
  rintro n15956 l15955 g15952 ⟨x15950, x15951, hm15970, hI15953, hF15954, e15958, e15959, e15960, e15961, e15962, r15963, q15964, q15965, q15966⟩ ih15957
  refine At.enter rfl ?_
  refine r_iload e15962 ?_
  refine r_aload_n e15958 ?_
  refine q_getR (Sh.ref hI15953.1 kx_184 rfl) ?_
  refine q_getI (Sh.int hI15953.1 kx_1 rfl) v15969 ((hF15954.1 1 0 (by decide)).trans hv15969) ?_
  have bv15972 := q_bnd x15951
  have bv15973 := q_bnd v15969
  refine r_ics 17 rfl (fun c15971 => ?_) (fun c15971 => ?_)
  · have c15971_ : x15951.toInt ≥ v15969.toInt := en_i_ge_t c15971
    refine At.enter rfl ?_
    refine r_iload_n e15961 ?_
    refine r_ireti ?_
    exact ⟨_, rfl, hI15953, hF15954, _, rfl, trivial, (by rw [show (gI g0 1 0).toInt = x15951.toInt from by omega]; exact q15964)⟩
  · have c15971_ : x15951.toInt < v15969.toInt := en_i_ge_f c15971
    refine At.enter rfl ?_
    refine r_iload e15962 ?_
    refine r_istore _ rfl ?_
    refine r_iconst 0 rfl ?_
    refine r_istore _ rfl ?_
    refine Ar.fall 24 rfl ?_
    have z_16456 : (0 : Int32).toInt = 0 := rfl
    refine w_loopI (fun n_ l_ g_ => ∃ x16436 : Int32, ∃ x16437 : Int32, n_ = 12 - x16437.toInt ∧ HI g_ ∧ Fr F_X9_comersTo_184 A_X9_comersTo_184 g0 g_ ∧ en_get 0 l_ = some (.ref 184) ∧ en_get 1 l_ = some (.int a1) ∧ en_get 2 l_ = some (.int a2) ∧ en_get 3 l_ = some (.int x15950) ∧ en_get 4 l_ = some (.int x15951) ∧ en_get 5 l_ = some (.int x16436) ∧ en_get 6 l_ = some (.int x16437) ∧ ((-1) ≤ x16436.toInt ∧ x16436.toInt ≤ 11) ∧ (0 ≤ x16437.toInt ∧ x16437.toInt ≤ 12) ∧ (q_hd (RCI (NX g0) (hbI a2) a1.toInt (12 - x16437.toInt) x16436.toInt ↔ RCI (NX g0) (hbI a2) a1.toInt 12 x15951.toInt)) ∧ (0 ≤ x16437.toInt) ∧ (x16437.toInt ≤ 12)) ?_ (12 - 0) ⟨x15951, 0, by first | rfl | omega, hI15953, hF15954, (w_p1 (by decide) (Or.inr rfl) (w_p1 (by decide) (Or.inr rfl) e15958)), (w_p1 (by decide) (Or.inr rfl) (w_p1 (by decide) (Or.inr rfl) e15959)), (w_p1 (by decide) (Or.inr rfl) (w_p1 (by decide) (Or.inr rfl) e15960)), (w_p1 (by decide) (Or.inr rfl) (w_p1 (by decide) (Or.inr rfl) e15961)), (w_p1 (by decide) (Or.inr rfl) (w_p1 (by decide) (Or.inr rfl) e15962)), (w_p1 (by decide) (Or.inr rfl) (w_e1 _ _ _)), (w_e1 _ _ _), by omega, by decide, Iff.rfl, by omega, by omega⟩
    rintro n16442 l16441 g16438 ⟨x16436, x16437, hm16457, hI16439, hF16440, e16444, e16445, e16446, e16447, e16448, e16449, e16450, r16451, r16452, q16453, q16454, q16455⟩ ih16443
    refine At.enter rfl ?_
    refine r_iload e16450 ?_
    refine r_bipush 12 rfl ?_
    refine r_ics 31 rfl (fun c16458 => ?_) (fun c16458 => ?_)
    · have c16458_ : x16437.toInt ≥ 12 := en_i_ge_t c16458
      refine At.enter rfl ?_
      refine r_iload e16449 ?_
      refine r_iload_n e16445 ?_
      refine r_ics 75 rfl (fun c16459 => ?_) (fun c16459 => ?_)
      · have c16459_ : x16436.toInt ≠ a1.toInt := en_i_ne_t c16459
        refine At.enter rfl ?_
        refine q_iinc e16448 (x15951.toInt + 1) rfl (by omega) (fun v16460 hv16460 => ?_)
        refine r_goto ?_
        have bv16461 := q_bnd x15950
        exact ih15957 (12 - v16460.toInt) _ _ ⟨x15950, v16460, by first | rfl | omega, hI16439, hF16440, (w_p1 (by decide) (Or.inr rfl) e16444), (w_p1 (by decide) (Or.inr rfl) e16445), (w_p1 (by decide) (Or.inr rfl) e16446), (w_p1 (by decide) (Or.inr rfl) e16447), (w_e1 _ _ _), by omega, (ACI.no (by omega) (show v16460.toInt = x15951.toInt + 1 from by omega) (fun f => by (first | (have z := q16453.mpr f; rw [show x16436.toInt = -1 from by omega] at z; exact RCI.none (by omega) z) | (have z := q16453.mpr f; rw [show 12 - x16437.toInt = 0 from by omega] at z; have z2 := (RCI.z.mp z).1; omega))) q15964), by omega, by omega⟩ ⟨by omega, by omega⟩
      · have c16459_ : x16436.toInt = a1.toInt := en_i_ne_f c16459
        refine At.enter rfl ?_
        refine r_iload_n e16446 ?_
        refine r_iload_n e16445 ?_
        refine r_callS 80 rfl [.int a2, .int a1] [] (Nat.le_of_ble_eq_true rfl) rfl (T_X10_hasBit_hb _ hI16439 a2 a1) ?_
        rintro _ _ ⟨g16462, rfl, hI16463, hF16464, v16465, rfl, hr16466⟩
        refine At.sti ?_
        have hF16467 := Fr.tr hF16440 hF16464 rfl rfl
        refine At.enter rfl ?_
        refine r_ifs 83 rfl (fun c16468 => ?_) (fun c16468 => ?_)
        · have c16468_ : v16465.toInt ≠ 0 := en_k_ne_t c16468
          refine At.enter rfl ?_
          refine q_iinc e16448 (x15951.toInt + 1) rfl (by omega) (fun v16469 hv16469 => ?_)
          refine r_goto ?_
          have bv16470 := q_bnd x15950
          exact ih15957 (12 - v16469.toInt) _ _ ⟨x15950, v16469, by first | rfl | omega, hI16463, hF16467, (w_p1 (by decide) (Or.inr rfl) e16444), (w_p1 (by decide) (Or.inr rfl) e16445), (w_p1 (by decide) (Or.inr rfl) e16446), (w_p1 (by decide) (Or.inr rfl) e16447), (w_e1 _ _ _), by omega, (ACI.no (by omega) (show v16469.toInt = x15951.toInt + 1 from by omega) (fun f => by (first | (have z := q16453.mpr f; rw [show x16436.toInt = -1 from by omega] at z; exact RCI.none (by omega) z) | (have z := q16453.mpr f; rw [show x16436.toInt = a1.toInt from by omega] at z; exact RCI.hb (BL.yes hr16466.2 (by omega)) z) | (have z := q16453.mpr f; rw [show 12 - x16437.toInt = 0 from by omega] at z; have z2 := (RCI.z.mp z).1; omega))) q15964), by omega, by omega⟩ ⟨by omega, by omega⟩
        · have c16468_ : v16465.toInt = 0 := en_k_ne_f c16468
          refine At.enter rfl ?_
          refine r_iload_n e16447 ?_
          refine r_iconst 1 rfl ?_
          refine r_iload e16448 ?_
          refine q_ishlO (fun v16471 hv16471 => ?_)
          refine q_iorO (fun v16472 hv16472 => ?_)
          refine r_istore_n _ rfl ?_
          refine Ar.fall 90 rfl ?_
          refine At.enter rfl ?_
          refine q_iinc (w_p1 (by decide) (Or.inr rfl) e16448) (x15951.toInt + 1) rfl (by omega) (fun v16473 hv16473 => ?_)
          refine r_goto ?_
          have bv16474 := q_bnd v16472
          exact ih15957 (12 - v16473.toInt) _ _ ⟨v16472, v16473, by first | rfl | omega, hI16463, hF16467, (w_p1 (by decide) (Or.inr rfl) (w_p1 (by decide) (Or.inr rfl) e16444)), (w_p1 (by decide) (Or.inr rfl) (w_p1 (by decide) (Or.inr rfl) e16445)), (w_p1 (by decide) (Or.inr rfl) (w_p1 (by decide) (Or.inr rfl) e16446)), (w_p1 (by decide) (Or.inr rfl) (w_e1 _ _ _)), (w_e1 _ _ _), by omega, (ACI.yes (i := x15951) (by omega) (show v16473.toInt = x15951.toInt + 1 from by omega) (q16453.mp ((RCI.want (by omega) (by omega) (show x16436.toInt = a1.toInt from by omega)).mpr (by rw [show x16436.toInt = a1.toInt from by omega]; exact BL.no hr16466.2 (by omega)))) rfl hv16472 (by assumption) q15964), by omega, by omega⟩ ⟨by omega, by omega⟩
    · have c16458_ : x16437.toInt < 12 := en_i_ge_f c16458
      refine At.enter rfl ?_
      refine r_iload e16449 ?_
      refine r_iconst (-1) rfl ?_
      refine r_ics 37 rfl (fun c16475 => ?_) (fun c16475 => ?_)
      · have c16475_ : x16436.toInt = (-1) := en_i_eq_t c16475
        refine At.enter rfl ?_
        refine r_iload e16449 ?_
        refine r_iload_n e16445 ?_
        refine r_ics 75 rfl (fun c16476 => ?_) (fun c16476 => ?_)
        · have c16476_ : x16436.toInt ≠ a1.toInt := en_i_ne_t c16476
          refine At.enter rfl ?_
          refine q_iinc e16448 (x15951.toInt + 1) rfl (by omega) (fun v16477 hv16477 => ?_)
          refine r_goto ?_
          have bv16478 := q_bnd x15950
          exact ih15957 (12 - v16477.toInt) _ _ ⟨x15950, v16477, by first | rfl | omega, hI16439, hF16440, (w_p1 (by decide) (Or.inr rfl) e16444), (w_p1 (by decide) (Or.inr rfl) e16445), (w_p1 (by decide) (Or.inr rfl) e16446), (w_p1 (by decide) (Or.inr rfl) e16447), (w_e1 _ _ _), by omega, (ACI.no (by omega) (show v16477.toInt = x15951.toInt + 1 from by omega) (fun f => by (first | (have z := q16453.mpr f; rw [show x16436.toInt = -1 from by omega] at z; exact RCI.none (by omega) z) | (have z := q16453.mpr f; rw [show 12 - x16437.toInt = 0 from by omega] at z; have z2 := (RCI.z.mp z).1; omega))) q15964), by omega, by omega⟩ ⟨by omega, by omega⟩
        · have c16476_ : x16436.toInt = a1.toInt := en_i_ne_f c16476
          exfalso; omega
      · have c16475_ : x16436.toInt ≠ (-1) := en_i_eq_f c16475
        refine At.enter rfl ?_
        refine r_iload e16449 ?_
        refine r_iload_n e16445 ?_
        refine r_ics 43 rfl (fun c16479 => ?_) (fun c16479 => ?_)
        · have c16479_ : x16436.toInt = a1.toInt := en_i_eq_t c16479
          refine At.enter rfl ?_
          refine r_iload e16449 ?_
          refine r_iload_n e16445 ?_
          refine r_ics 75 rfl (fun c16480 => ?_) (fun c16480 => ?_)
          · have c16480_ : x16436.toInt ≠ a1.toInt := en_i_ne_t c16480
            refine At.enter rfl ?_
            refine q_iinc e16448 (x15951.toInt + 1) rfl (by omega) (fun v16481 hv16481 => ?_)
            refine r_goto ?_
            have bv16482 := q_bnd x15950
            exact ih15957 (12 - v16481.toInt) _ _ ⟨x15950, v16481, by first | rfl | omega, hI16439, hF16440, (w_p1 (by decide) (Or.inr rfl) e16444), (w_p1 (by decide) (Or.inr rfl) e16445), (w_p1 (by decide) (Or.inr rfl) e16446), (w_p1 (by decide) (Or.inr rfl) e16447), (w_e1 _ _ _), by omega, (ACI.no (by omega) (show v16481.toInt = x15951.toInt + 1 from by omega) (fun f => by (first | (have z := q16453.mpr f; rw [show x16436.toInt = -1 from by omega] at z; exact RCI.none (by omega) z) | (have z := q16453.mpr f; rw [show 12 - x16437.toInt = 0 from by omega] at z; have z2 := (RCI.z.mp z).1; omega))) q15964), by omega, by omega⟩ ⟨by omega, by omega⟩
          · have c16480_ : x16436.toInt = a1.toInt := en_i_ne_f c16480
            refine At.enter rfl ?_
            refine r_iload_n e16446 ?_
            refine r_iload_n e16445 ?_
            refine r_callS 80 rfl [.int a2, .int a1] [] (Nat.le_of_ble_eq_true rfl) rfl (T_X10_hasBit_hb _ hI16439 a2 a1) ?_
            rintro _ _ ⟨g16483, rfl, hI16484, hF16485, v16486, rfl, hr16487⟩
            refine At.sti ?_
            have hF16488 := Fr.tr hF16440 hF16485 rfl rfl
            refine At.enter rfl ?_
            refine r_ifs 83 rfl (fun c16489 => ?_) (fun c16489 => ?_)
            · have c16489_ : v16486.toInt ≠ 0 := en_k_ne_t c16489
              refine At.enter rfl ?_
              refine q_iinc e16448 (x15951.toInt + 1) rfl (by omega) (fun v16490 hv16490 => ?_)
              refine r_goto ?_
              have bv16491 := q_bnd x15950
              exact ih15957 (12 - v16490.toInt) _ _ ⟨x15950, v16490, by first | rfl | omega, hI16484, hF16488, (w_p1 (by decide) (Or.inr rfl) e16444), (w_p1 (by decide) (Or.inr rfl) e16445), (w_p1 (by decide) (Or.inr rfl) e16446), (w_p1 (by decide) (Or.inr rfl) e16447), (w_e1 _ _ _), by omega, (ACI.no (by omega) (show v16490.toInt = x15951.toInt + 1 from by omega) (fun f => by (first | (have z := q16453.mpr f; rw [show x16436.toInt = -1 from by omega] at z; exact RCI.none (by omega) z) | (have z := q16453.mpr f; rw [show x16436.toInt = a1.toInt from by omega] at z; exact RCI.hb (BL.yes hr16487.2 (by omega)) z) | (have z := q16453.mpr f; rw [show 12 - x16437.toInt = 0 from by omega] at z; have z2 := (RCI.z.mp z).1; omega))) q15964), by omega, by omega⟩ ⟨by omega, by omega⟩
            · have c16489_ : v16486.toInt = 0 := en_k_ne_f c16489
              refine At.enter rfl ?_
              refine r_iload_n e16447 ?_
              refine r_iconst 1 rfl ?_
              refine r_iload e16448 ?_
              refine q_ishlO (fun v16492 hv16492 => ?_)
              refine q_iorO (fun v16493 hv16493 => ?_)
              refine r_istore_n _ rfl ?_
              refine Ar.fall 90 rfl ?_
              refine At.enter rfl ?_
              refine q_iinc (w_p1 (by decide) (Or.inr rfl) e16448) (x15951.toInt + 1) rfl (by omega) (fun v16494 hv16494 => ?_)
              refine r_goto ?_
              have bv16495 := q_bnd v16493
              exact ih15957 (12 - v16494.toInt) _ _ ⟨v16493, v16494, by first | rfl | omega, hI16484, hF16488, (w_p1 (by decide) (Or.inr rfl) (w_p1 (by decide) (Or.inr rfl) e16444)), (w_p1 (by decide) (Or.inr rfl) (w_p1 (by decide) (Or.inr rfl) e16445)), (w_p1 (by decide) (Or.inr rfl) (w_p1 (by decide) (Or.inr rfl) e16446)), (w_p1 (by decide) (Or.inr rfl) (w_e1 _ _ _)), (w_e1 _ _ _), by omega, (ACI.yes (i := x15951) (by omega) (show v16494.toInt = x15951.toInt + 1 from by omega) (q16453.mp ((RCI.want (by omega) (by omega) (show x16436.toInt = a1.toInt from by omega)).mpr (by rw [show x16436.toInt = a1.toInt from by omega]; exact BL.no hr16487.2 (by omega)))) rfl hv16493 (by assumption) q15964), by omega, by omega⟩ ⟨by omega, by omega⟩
        · have c16479_ : x16436.toInt ≠ a1.toInt := en_i_eq_f c16479
          refine At.enter rfl ?_
          refine r_iload_n e16446 ?_
          refine r_iload e16449 ?_
          refine r_callS 49 rfl [.int a2, .int x16436] [] (Nat.le_of_ble_eq_true rfl) rfl (T_X10_hasBit_hb _ hI16439 a2 x16436) ?_
          rintro _ _ ⟨g16496, rfl, hI16497, hF16498, v16499, rfl, hr16500⟩
          refine At.sti ?_
          have hF16501 := Fr.tr hF16440 hF16498 rfl rfl
          refine At.enter rfl ?_
          refine r_ifs 52 rfl (fun c16502 => ?_) (fun c16502 => ?_)
          · have c16502_ : v16499.toInt ≠ 0 := en_k_ne_t c16502
            refine At.enter rfl ?_
            refine r_iload e16449 ?_
            refine r_iload_n e16445 ?_
            refine r_ics 75 rfl (fun c16503 => ?_) (fun c16503 => ?_)
            · have c16503_ : x16436.toInt ≠ a1.toInt := en_i_ne_t c16503
              refine At.enter rfl ?_
              refine q_iinc e16448 (x15951.toInt + 1) rfl (by omega) (fun v16504 hv16504 => ?_)
              refine r_goto ?_
              have bv16505 := q_bnd x15950
              exact ih15957 (12 - v16504.toInt) _ _ ⟨x15950, v16504, by first | rfl | omega, hI16497, hF16501, (w_p1 (by decide) (Or.inr rfl) e16444), (w_p1 (by decide) (Or.inr rfl) e16445), (w_p1 (by decide) (Or.inr rfl) e16446), (w_p1 (by decide) (Or.inr rfl) e16447), (w_e1 _ _ _), by omega, (ACI.no (by omega) (show v16504.toInt = x15951.toInt + 1 from by omega) (fun f => by (first | (have z := q16453.mpr f; rw [show x16436.toInt = -1 from by omega] at z; exact RCI.none (by omega) z) | (have z := q16453.mpr f; rw [show x16436.toInt = x16436.toInt from by omega] at z; exact RCI.hb (BL.yes hr16500.2 (by omega)) z) | (have z := q16453.mpr f; rw [show 12 - x16437.toInt = 0 from by omega] at z; have z2 := (RCI.z.mp z).1; omega))) q15964), by omega, by omega⟩ ⟨by omega, by omega⟩
            · have c16503_ : x16436.toInt = a1.toInt := en_i_ne_f c16503
              refine At.enter rfl ?_
              refine r_iload_n e16446 ?_
              refine r_iload_n e16445 ?_
              refine r_callS 80 rfl [.int a2, .int a1] [] (Nat.le_of_ble_eq_true rfl) rfl (T_X10_hasBit_hb _ hI16497 a2 a1) ?_
              rintro _ _ ⟨g16506, rfl, hI16507, hF16508, v16509, rfl, hr16510⟩
              refine At.sti ?_
              have hF16511 := Fr.tr hF16501 hF16508 rfl rfl
              refine At.enter rfl ?_
              refine r_ifs 83 rfl (fun c16512 => ?_) (fun c16512 => ?_)
              · have c16512_ : v16509.toInt ≠ 0 := en_k_ne_t c16512
                refine At.enter rfl ?_
                refine q_iinc e16448 (x15951.toInt + 1) rfl (by omega) (fun v16513 hv16513 => ?_)
                refine r_goto ?_
                have bv16514 := q_bnd x15950
                exact ih15957 (12 - v16513.toInt) _ _ ⟨x15950, v16513, by first | rfl | omega, hI16507, hF16511, (w_p1 (by decide) (Or.inr rfl) e16444), (w_p1 (by decide) (Or.inr rfl) e16445), (w_p1 (by decide) (Or.inr rfl) e16446), (w_p1 (by decide) (Or.inr rfl) e16447), (w_e1 _ _ _), by omega, (ACI.no (by omega) (show v16513.toInt = x15951.toInt + 1 from by omega) (fun f => by (first | (have z := q16453.mpr f; rw [show x16436.toInt = -1 from by omega] at z; exact RCI.none (by omega) z) | (have z := q16453.mpr f; rw [show x16436.toInt = a1.toInt from by omega] at z; exact RCI.hb (BL.yes hr16510.2 (by omega)) z) | (have z := q16453.mpr f; rw [show 12 - x16437.toInt = 0 from by omega] at z; have z2 := (RCI.z.mp z).1; omega))) q15964), by omega, by omega⟩ ⟨by omega, by omega⟩
              · have c16512_ : v16509.toInt = 0 := en_k_ne_f c16512
                refine At.enter rfl ?_
                refine r_iload_n e16447 ?_
                refine r_iconst 1 rfl ?_
                refine r_iload e16448 ?_
                refine q_ishlO (fun v16515 hv16515 => ?_)
                refine q_iorO (fun v16516 hv16516 => ?_)
                refine r_istore_n _ rfl ?_
                refine Ar.fall 90 rfl ?_
                refine At.enter rfl ?_
                refine q_iinc (w_p1 (by decide) (Or.inr rfl) e16448) (x15951.toInt + 1) rfl (by omega) (fun v16517 hv16517 => ?_)
                refine r_goto ?_
                have bv16518 := q_bnd v16516
                exact ih15957 (12 - v16517.toInt) _ _ ⟨v16516, v16517, by first | rfl | omega, hI16507, hF16511, (w_p1 (by decide) (Or.inr rfl) (w_p1 (by decide) (Or.inr rfl) e16444)), (w_p1 (by decide) (Or.inr rfl) (w_p1 (by decide) (Or.inr rfl) e16445)), (w_p1 (by decide) (Or.inr rfl) (w_p1 (by decide) (Or.inr rfl) e16446)), (w_p1 (by decide) (Or.inr rfl) (w_e1 _ _ _)), (w_e1 _ _ _), by omega, (ACI.yes (i := x15951) (by omega) (show v16517.toInt = x15951.toInt + 1 from by omega) (q16453.mp ((RCI.want (by omega) (by omega) (show x16436.toInt = a1.toInt from by omega)).mpr (by rw [show x16436.toInt = a1.toInt from by omega]; exact BL.no hr16510.2 (by omega)))) rfl hv16516 (by assumption) q15964), by omega, by omega⟩ ⟨by omega, by omega⟩
          · have c16502_ : v16499.toInt = 0 := en_k_ne_f c16502
            refine At.enter rfl ?_
            refine r_aload_n e16444 ?_
            refine q_getR (Sh.ref hI16497.1 kx_184 rfl) ?_
            refine r_iload e16449 ?_
            refine r_callV 61 rfl [.ref 1, .int x16436] [] (Nat.le_of_ble_eq_true rfl) rfl (T_X0_next_1 _ hI16497 x16436) ?_
            rintro _ _ ⟨g16519, rfl, hI16520, hF16521, v16522, rfl, hr16523⟩
            refine At.sti ?_
            have ks16526 := hr16523.2.2
            have hr16525 : _ ∧ _ := ⟨hr16523.1, hr16523.2.1⟩
            have hF16524 := Fr.tr hF16501 hF16521 rfl rfl
            rw [NX.c (((hF16498.2.1 2 ma_X10_hasBit_hb_2).trans (hF16440.2.1 2 (by decide)))) (((hF16498.1 1 0 mf_X10_hasBit_hb_1_0).trans (hF16440.1 1 0 (by decide))))] at hr16525
            refine At.enter rfl ?_
            refine r_istore _ rfl ?_
            refine q_iinc (w_p1 (by decide) (Or.inr rfl) e16450) (x16437.toInt + 1) rfl (by omega) (fun v16527 hv16527 => ?_)
            refine r_goto ?_
            exact ih16443 (12 - v16527.toInt) _ _ ⟨v16522, v16527, by first | rfl | omega, hI16520, hF16524, (w_p1 (by decide) (Or.inr rfl) (w_p1 (by decide) (Or.inr rfl) e16444)), (w_p1 (by decide) (Or.inr rfl) (w_p1 (by decide) (Or.inr rfl) e16445)), (w_p1 (by decide) (Or.inr rfl) (w_p1 (by decide) (Or.inr rfl) e16446)), (w_p1 (by decide) (Or.inr rfl) (w_p1 (by decide) (Or.inr rfl) e16447)), (w_p1 (by decide) (Or.inr rfl) (w_p1 (by decide) (Or.inr rfl) e16448)), (w_p1 (by decide) (Or.inr rfl) (w_e1 _ _ _)), (w_e1 _ _ _), by omega, by omega, (by rw [show v16522.toInt = NX g0 x16436.toInt from by omega]; exact (RCI.step (by omega) (by omega) (BL.no hr16500.2 (by omega)) (by omega) (by omega)).symm.trans q16453), by omega, by omega⟩ ⟨by omega, by omega⟩
