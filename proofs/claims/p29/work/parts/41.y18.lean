def F_X5_numberHere_176 : List (Nat × Nat) := []
def A_X5_numberHere_176 : List Nat := []
set_option maxRecDepth 100000 in
set_option maxHeartbeats 4000000 in
theorem T_X5_numberHere_176 (d : Nat) {N : Nat} {g0 : List en_E} (hI0 : HI g0) (hT : TKX g0) : Ev (d + 2) 77 [.ref 176] (g0, N) (fun w h' => ∃ g', h' = (g', N) ∧ HI g' ∧ Fr F_X5_numberHere_176 A_X5_numberHere_176 g0 g' ∧ ∃ r : Int32, w = some (.int r) ∧ True ∧ (NHX g0 r.toInt)) := by
  have hF0 : Fr F_X5_numberHere_176 A_X5_numberHere_176 g0 g0 := Fr.rf
  refine Ev.mk rfl rfl ⟨Nat.le_of_ble_eq_true rfl, Or.inr (q_rc hI0.1 kx_176 rfl)⟩ ?_
  show At _ none _ _ (0, [(0, .ref 176)], [], (_, _)) _
  refine At.enter rfl ?_
  refine r_iconst 0 rfl ?_
  refine r_istore_n ([(1, .int 0), (0, .ref 176)]) rfl ?_
  refine r_aload_n rfl ?_
  obtain ⟨v178, hv178⟩ : ∃ v, gI g0 176 4 = v := ⟨_, rfl⟩
  have rv178 := RgF.at hI0.2.1 (p := 176) (b := 4) rfl
  rw [hv178] at rv178
  dsimp only at rv178
  refine q_getI (Sh.int hI0.1 kx_176 rfl) v178 hv178 ?_
  refine r_istore_n ([(2, .int v178), (1, .int 0), (0, .ref 176)]) rfl ?_
  refine Ar.fall 7 rfl ?_
  have z_240 : (0 : Int32).toInt = 0 := rfl
  have x241 := rX.e hI0 (b := 4) (hv178)
  obtain ⟨v242, hv242⟩ : ∃ v, gI g0 176 5 = v := ⟨_, rfl⟩
  have rv242 := RgF.at hI0.2.1 (p := 176) (b := 5) rfl
  rw [hv242] at rv242
  dsimp only at rv242
  have tv242 := congrArg Int32.toInt hv242
  have x243 := rX.e hI0 (b := 5) (hv242)
  have y244 := hT.2.1.le.1
  refine w_loopI (fun n_ l_ g_ => ∃ x225 : Int32, ∃ x226 : Int32, n_ = 400 - x226.toInt ∧ HI g_ ∧ Fr F_X5_numberHere_176 A_X5_numberHere_176 g0 g_ ∧ en_get 0 l_ = some (.ref 176) ∧ en_get 1 l_ = some (.int x225) ∧ en_get 2 l_ = some (.int x226) ∧ (0 ≤ x226.toInt ∧ x226.toInt ≤ 400) ∧ (NHI g0 x225.toInt x226.toInt) ∧ (rX g0 4 ≤ x226.toInt) ∧ (x226.toInt ≤ rX g0 5)) ?_ (400 - v178.toInt) ⟨0, v178, by first | rfl | omega, hI0, hF0, rfl, rfl, rfl, by omega, (NHI.z (by first | rfl | omega) (by omega)), by omega, by omega⟩
  rintro n231 l230 g227 ⟨x225, x226, hm245, hI228, hF229, e233, e234, e235, r236, q237, q238, q239⟩ ih232
  have x246 := rX.e hI0 (b := 4) (hv178)
  have x247 := rX.e hI0 (b := 5) (hv242)
  refine At.enter rfl ?_
  refine r_iload_n e235 ?_
  refine r_aload_n e233 ?_
  refine q_getI (Sh.int hI228.1 kx_176 rfl) v242 ((hF229.1 176 5 (by decide)).trans hv242) ?_
  have bv249 := q_bnd x226
  have bv250 := q_bnd v242
  refine r_ics 15 rfl (fun c248 => ?_) (fun c248 => ?_)
  · have c248_ : x226.toInt ≥ v242.toInt := en_i_ge_t c248
    refine At.enter rfl ?_
    refine r_iload_n e234 ?_
    refine r_ireti ?_
    have x251 := rX.e hI0 (b := 4) (hv178)
    have x252 := rX.e hI0 (b := 5) (hv242)
    exact ⟨_, rfl, hI228, hF229, _, rfl, trivial, (NHX.mk hT q237 (by omega) (by omega))⟩
  · have c248_ : x226.toInt < v242.toInt := en_i_ge_f c248
    refine At.enter rfl ?_
    refine r_iload_n e234 ?_
    refine r_sipush 1000 rfl ?_
    refine r_ics 22 rfl (fun c253 => ?_) (fun c253 => ?_)
    · have c253_ : x225.toInt > 1000 := en_i_gt_t c253
      refine At.enter rfl ?_
      refine r_iload_n e234 ?_
      refine r_ireti ?_
      have x254 := rX.e hI0 (b := 4) (hv178)
      have x255 := rX.e hI0 (b := 5) (hv242)
      exact ⟨_, rfl, hI228, hF229, _, rfl, trivial, (NHX.mk hT q237 (by omega) (by omega))⟩
    · have c253_ : x225.toInt ≤ 1000 := en_i_gt_f c253
      refine At.enter rfl ?_
      refine r_iload_n e234 ?_
      refine r_bipush 10 rfl ?_
      refine q_imulO (fun v256 ov256 => ?_)
      refine r_aload_n e233 ?_
      refine q_getR (Sh.ref hI228.1 kx_176 rfl) ?_
      refine r_iload_n e235 ?_
      refine r_callV 34 rfl [.ref 174, .int x226] [.int v256] (Nat.le_of_ble_eq_true rfl) rfl (T_X8_at_174 _ hI228 x226) ?_
      rintro _ _ ⟨g257, rfl, hI258, hF259, v260, rfl, hr261⟩
      refine At.sti ?_
      have hF262 := Fr.tr hF229 hF259 rfl rfl
      obtain ⟨v263, hv263⟩ : ∃ v, gI g0 174 1 = v := ⟨_, rfl⟩
      have rv263 := RgF.at hI0.2.1 (p := 174) (b := 1) rfl
      rw [hv263] at rv263
      dsimp only at rv263
      have tv263 := congrArg Int32.toInt hv263
      have x264 := HI.eqI hI228 (p := 174) (b := 1) (((hF229.1 174 1 (by decide)).trans hv263))
      have at265 : ATX g0 x226.toInt v260.toInt := (hr261.2.2).c ((hF229.2.1 175 (by decide))) ((hF229.1 174 1 (by decide)))
      refine At.enter rfl ?_
      refine q_iaddO (fun v266 ov266 => ?_)
      refine r_bipush 48 rfl ?_
      refine q_isubO (fun v267 ov267 => ?_)
      refine r_istore_n _ rfl ?_
      refine q_iinc (w_p1 (by decide) (Or.inr rfl) e235) (x226.toInt + 1) rfl (by omega) (fun v268 hv268 => ?_)
      refine r_goto ?_
      have bv269 := q_bnd v267
      exact ih232 (400 - v268.toInt) _ _ ⟨v267, v268, by first | rfl | omega, hI258, hF262, (w_p1 (by decide) (Or.inr rfl) (w_p1 (by decide) (Or.inr rfl) e233)), (w_p1 (by decide) (Or.inr rfl) (w_e1 _ _ _)), (w_e1 _ _ _), by omega, (NHI.st hT q237 (by omega) ⟨by omega, by omega⟩ (show v268.toInt = x226.toInt + 1 from by omega) at265 (by rfl) (by rfl) ov256 ov266 ov267), by omega, by omega⟩ ⟨by omega, by omega⟩

def F_X4_add_177 : List (Nat × Nat) := [(177, 0)]
def A_X4_add_177 : List Nat := [178, 179]
set_option maxRecDepth 100000 in
set_option maxHeartbeats 4000000 in
theorem T_X4_add_177 (d : Nat) {N : Nat} {g0 : List en_E} (hI0 : HI g0) (a1 : Int32) (a2 : Int32) : Ev (d + 1) 60 [.ref 177, .int a1, .int a2] (g0, N) (fun w h' => ∃ g', h' = (g', N) ∧ HI g' ∧ Fr F_X4_add_177 A_X4_add_177 g0 g' ∧ ∃ r : Int32, w = some (.int r) ∧ ((-1) ≤ r.toInt ∧ r.toInt ≤ 399) ∧ (ADP g0 g' a1.toInt a2.toInt r.toInt)) := by
  have hF0 : Fr F_X4_add_177 A_X4_add_177 g0 g0 := Fr.rf
  refine Ev.mk rfl rfl ⟨Nat.le_of_ble_eq_true rfl, Or.inr (q_rc hI0.1 kx_177 rfl)⟩ ?_
  show At _ none _ _ (0, [(0, .ref 177), (1, .int a1), (2, .int a2)], [], (_, _)) _
  refine At.enter rfl ?_
  refine r_aload_n rfl ?_
  obtain ⟨v21, hv21⟩ : ∃ v, gI g0 177 0 = v := ⟨_, rfl⟩
  have rv21 := RgF.at hI0.2.1 (p := 177) (b := 0) rfl
  rw [hv21] at rv21
  dsimp only at rv21
  refine q_getI (Sh.int hI0.1 kx_177 rfl) v21 hv21 ?_
  refine r_sipush 400 rfl ?_
  refine r_ics 10 rfl (fun c22 => ?_) (fun c22 => ?_)
  · have c22_ : v21.toInt < 400 := en_i_lt_t c22
    refine At.enter rfl ?_
    refine r_aload_n rfl ?_
    refine q_getR (Sh.ref hI0.1 kx_177 rfl) ?_
    refine r_aload_n rfl ?_
    refine q_getI (Sh.int hI0.1 kx_177 rfl) v21 hv21 ?_
    refine r_iload_n rfl ?_
    refine q_iast (Sh.arr hI0.1 ka_178) (v21.toInt) rfl (by omega) ?_
    have hI23 := HI.wA0 hI0 ka_178 (p := 178) rfl rfl (v21.toInt) (a1)
    have hF24 := Fr.wA (p := 178) (j := v21.toInt) (v := a1) hF0 rfl
    refine r_aload_n rfl ?_
    refine q_getR (Sh.ref hI23.1 kx_177 rfl) ?_
    refine r_aload_n rfl ?_
    refine q_getI (Sh.int hI23.1 kx_177 rfl) v21 ((gI_sW).trans hv21) ?_
    refine r_iload_n rfl ?_
    refine q_iast (Sh.arr hI23.1 ka_179) (v21.toInt) rfl (by omega) ?_
    have hI25 := HI.wA0 hI23 ka_179 (p := 179) rfl rfl (v21.toInt) (a2)
    have hF26 := Fr.wA (p := 179) (j := v21.toInt) (v := a2) hF24 rfl
    refine r_aload_n rfl ?_
    refine r_dup rfl ?_
    refine q_getI (Sh.int hI25.1 kx_177 rfl) v21 (((gI_sW).trans (gI_sW)).trans hv21) ?_
    refine r_iconst 1 rfl ?_
    refine q_iadd (v21.toInt + 1) rfl (by omega) (fun v27 hv27 => ?_)
    refine q_putI (Sh.int hI25.1 kx_177 rfl) rfl ?_
    have hI28 := HI.wI1 hI25 kx_177 rfl (p := 177) (b := 0) (v := v27) rfl (by dsimp only; omega)
    have hF29 := Fr.wI (p := 177) (b := 0) (v := v27) hF26 rfl
    refine r_aload_n rfl ?_
    refine q_getI (Sh.int hI28.1 kx_177 rfl) v27 (gI_sI_eq hI25.1 kx_177 rfl _) ?_
    refine r_iconst 1 rfl ?_
    refine q_isub (v27.toInt - 1) rfl (by omega) (fun v30 hv30 => ?_)
    refine r_ireti ?_
    have y31 : (gI g0 177 0).toInt = v21.toInt := congrArg Int32.toInt (hv21)
    have y32 : (gI _ 177 0).toInt = v27.toInt := congrArg Int32.toInt ((gI_sI_eq hI25.1 kx_177 rfl _))
    exact ⟨_, rfl, hI28, hF29, _, rfl, by omega, (fun hl => ⟨by show (gI _ 177 0).toInt = (gI g0 177 0).toInt + 1; omega, (by show (eA _ 178 (gI g0 177 0).toInt).toInt = _; rw [show (gI g0 177 0).toInt = v21.toInt from by omega]; exact congrArg Int32.toInt (((eA_c gA_sI).trans ((eA_c (gA_sA_ne (by decide))).trans (eA_sA_eq hI0.1 ka_178 (by first | rfl | omega) (by first | decide | omega) (by first | decide | omega)))))), (by show (eA _ 179 (gI g0 177 0).toInt).toInt = _; rw [show (gI g0 177 0).toInt = v21.toInt from by omega]; exact congrArg Int32.toInt (((eA_c gA_sI).trans (eA_sA_eq hI23.1 ka_179 (by first | rfl | omega) (by first | decide | omega) (by first | decide | omega))))), by show _ = (gI g0 177 0).toInt; omega, fun i i0 hne => by have hne2 : i ≠ (gI g0 177 0).toInt := hne; exact ⟨congrArg Int32.toInt (((eA_c gA_sI).trans ((eA_c (gA_sA_ne (by decide))).trans (eA_sA_ne (i := i) hI0.1 ka_178 (by omega) (by omega) (by omega))))), congrArg Int32.toInt (((eA_c gA_sI).trans ((eA_sA_ne (i := i) hI23.1 ka_179 (by omega) (by omega) (by omega)).trans (eA_c (gA_sA_ne (by decide))))))⟩⟩)⟩
  · have c22_ : v21.toInt ≥ 400 := en_i_lt_f c22
    refine At.enter rfl ?_
    refine r_iconst (-1) rfl ?_
    refine r_ireti ?_
    have zv33 : ((-1) : Int32).toInt = (-1) := rfl
    have y34 : (gI g0 177 0).toInt = v21.toInt := congrArg Int32.toInt (hv21)
    exact ⟨_, rfl, hI0, hF0, _, rfl, by decide, (fun hl => absurd (show (gI g0 177 0).toInt < 400 from hl) (by omega))⟩

def F_X4_aimAtEnd_177 : List (Nat × Nat) := []
def A_X4_aimAtEnd_177 : List Nat := [179]
set_option maxRecDepth 100000 in
set_option maxHeartbeats 4000000 in
theorem T_X4_aimAtEnd_177 (d : Nat) {N : Nat} {g0 : List en_E} (hI0 : HI g0) (a1 : Int32) : Ev (d + 1) 61 [.ref 177, .int a1] (g0, N) (fun w h' => ∃ g', h' = (g', N) ∧ HI g' ∧ Fr F_X4_aimAtEnd_177 A_X4_aimAtEnd_177 g0 g' ∧ w = none ∧ (AIMP g0 g' a1.toInt)) := by
  have hF0 : Fr F_X4_aimAtEnd_177 A_X4_aimAtEnd_177 g0 g0 := Fr.rf
  refine Ev.mk rfl rfl ⟨Nat.le_of_ble_eq_true rfl, Or.inr (q_rc hI0.1 kx_177 rfl)⟩ ?_
  show At _ none _ _ (0, [(0, .ref 177), (1, .int a1)], [], (_, _)) _
  refine At.enter rfl ?_
  refine r_iload_n rfl ?_
  refine r_ifs 4 rfl (fun c15 => ?_) (fun c15 => ?_)
  · have c15_ : a1.toInt < 0 := en_k_lt_t c15
    refine At.enter rfl ?_
    refine r_vret ?_
    obtain ⟨v16, hv16⟩ : ∃ v, gI g0 177 0 = v := ⟨_, rfl⟩
    have rv16 := RgF.at hI0.2.1 (p := 177) (b := 0) rfl
    rw [hv16] at rv16
    dsimp only at rv16
    have tv16 := congrArg Int32.toInt hv16
    have y17 : (gI g0 177 0).toInt = v16.toInt := congrArg Int32.toInt (hv16)
    exact ⟨_, rfl, hI0, hF0, rfl, ⟨lX.c (rfl), KX.c (rfl), (fun h0 hl => False.elim (by have hl2 : a1.toInt < (gI g0 177 0).toInt := hl; omega)), fun i i0 hne => rfl⟩⟩
  · have c15_ : a1.toInt ≥ 0 := en_k_lt_f c15
    refine At.enter rfl ?_
    refine r_iload_n rfl ?_
    refine r_aload_n rfl ?_
    obtain ⟨v18, hv18⟩ : ∃ v, gI g0 177 0 = v := ⟨_, rfl⟩
    have rv18 := RgF.at hI0.2.1 (p := 177) (b := 0) rfl
    rw [hv18] at rv18
    dsimp only at rv18
    refine q_getI (Sh.int hI0.1 kx_177 rfl) v18 hv18 ?_
    have bv20 := q_bnd a1
    have bv21 := q_bnd v18
    refine r_ics 12 rfl (fun c19 => ?_) (fun c19 => ?_)
    · have c19_ : a1.toInt ≥ v18.toInt := en_i_ge_t c19
      refine At.enter rfl ?_
      refine r_vret ?_
      have y22 : (gI g0 177 0).toInt = v18.toInt := congrArg Int32.toInt (hv18)
      exact ⟨_, rfl, hI0, hF0, rfl, ⟨lX.c (rfl), KX.c (rfl), (fun h0 hl => False.elim (by have hl2 : a1.toInt < (gI g0 177 0).toInt := hl; omega)), fun i i0 hne => rfl⟩⟩
    · have c19_ : a1.toInt < v18.toInt := en_i_ge_f c19
      refine At.enter rfl ?_
      refine r_aload_n rfl ?_
      refine q_getR (Sh.ref hI0.1 kx_177 rfl) ?_
      refine r_iload_n rfl ?_
      refine r_aload_n rfl ?_
      refine q_getI (Sh.int hI0.1 kx_177 rfl) v18 hv18 ?_
      refine q_iast (Sh.arr hI0.1 ka_179) (a1.toInt) rfl (by omega) ?_
      have hI23 := HI.wA0 hI0 ka_179 (p := 179) rfl rfl (a1.toInt) (v18)
      have hF24 := Fr.wA (p := 179) (j := a1.toInt) (v := v18) hF0 rfl
      refine Ar.fall 22 rfl ?_
      refine At.enter rfl ?_
      refine r_vret ?_
      have y25 : (gI g0 177 0).toInt = v18.toInt := congrArg Int32.toInt (hv18)
      exact ⟨_, rfl, hI23, hF24, rfl, ⟨lX.c ((gI_sW)), KX.c ((gA_sA_ne (by decide))), (fun h0 hl => by show (eA _ 179 a1.toInt).toInt = (gI g0 177 0).toInt; exact (congrArg Int32.toInt ((eA_sA_eq hI0.1 ka_179 (by first | rfl | omega) (by first | decide | omega) (by first | decide | omega)))).trans (by omega)), fun i i0 hne => congrArg Int32.toInt ((eA_sA_ne (i := i) hI0.1 ka_179 (by omega) (by omega) (by omega)))⟩⟩

def F_X5_isWord_176 : List (Nat × Nat) := []
def A_X5_isWord_176 : List Nat := []
set_option maxRecDepth 100000 in
set_option maxHeartbeats 4000000 in
theorem T_X5_isWord_176 (d : Nat) {N : Nat} {g0 : List en_E} (hI0 : HI g0) (f1 : UInt32) (h_f1 : 1 ≤ f1.toNat ∧ f1.toNat ≤ 17) (hT : TKX g0) : Ev (d + 2) 76 [.ref 176, .float f1] (g0, N) (fun w h' => ∃ g', h' = (g', N) ∧ HI g' ∧ Fr F_X5_isWord_176 A_X5_isWord_176 g0 g' ∧ ∃ r : Int32, w = some (.int r) ∧ (0 ≤ r.toInt ∧ r.toInt ≤ 1) ∧ (BL (rX g0 3 = 0 ∧ VAL (TX g0) (rX g0 4) (rX g0 5) = tvl f1) r.toInt)) := by
  have hF0 : Fr F_X5_isWord_176 A_X5_isWord_176 g0 g0 := Fr.rf
  obtain ⟨m_f1, e_f1⟩ : ∃ m : Int, ((en_tl.getD (f1.toNat - 1) 0 : Nat) : Int) = m := ⟨_, rfl⟩
  have r_f1 := st_lenf h_f1
  rw [e_f1] at r_f1
  refine Ev.mk rfl rfl ⟨Nat.le_of_ble_eq_true rfl, Or.inr (q_rc hI0.1 kx_176 rfl)⟩ ?_
  show At _ none _ _ (0, [(0, .ref 176), (1, .float f1)], [], (_, _)) _
  refine At.enter rfl ?_
  refine r_aload_n rfl ?_
  obtain ⟨v432, hv432⟩ : ∃ v, gI g0 176 3 = v := ⟨_, rfl⟩
  refine q_getI (Sh.int hI0.1 kx_176 rfl) v432 hv432 ?_
  refine r_ifs 7 rfl (fun c433 => ?_) (fun c433 => ?_)
  · have c433_ : v432.toInt ≠ 0 := en_k_ne_t c433
    refine At.enter rfl ?_
    refine r_iconst 0 rfl ?_
    refine r_iretz (by decide) ?_
    have zv434 : (0 : Int32).toInt = 0 := rfl
    have x435 := rX.e hI0 (b := 3) (hv432)
    exact ⟨_, rfl, hI0, hF0, _, rfl, by decide, (ISW.no1 (by omega) (by omega))⟩
  · have c433_ : v432.toInt = 0 := en_k_ne_f c433
    refine At.enter rfl ?_
    refine r_aload_n rfl ?_
    obtain ⟨v436, hv436⟩ : ∃ v, gI g0 176 5 = v := ⟨_, rfl⟩
    have rv436 := RgF.at hI0.2.1 (p := 176) (b := 5) rfl
    rw [hv436] at rv436
    dsimp only at rv436
    refine q_getI (Sh.int hI0.1 kx_176 rfl) v436 hv436 ?_
    refine r_aload_n rfl ?_
    obtain ⟨v437, hv437⟩ : ∃ v, gI g0 176 4 = v := ⟨_, rfl⟩
    have rv437 := RgF.at hI0.2.1 (p := 176) (b := 4) rfl
    rw [hv437] at rv437
    dsimp only at rv437
    refine q_getI (Sh.int hI0.1 kx_176 rfl) v437 hv437 ?_
    refine q_isub (v436.toInt - v437.toInt) rfl (by omega) (fun v438 hv438 => ?_)
    refine r_sload_n rfl ?_
    refine q_slen rfl (Nat.le_of_ble_eq_true rfl) h_f1 m_f1 e_f1 (fun v439 hv439 => ?_)
    refine r_ics 23 rfl (fun c440 => ?_) (fun c440 => ?_)
    · have c440_ : v438.toInt = v439.toInt := en_i_eq_t c440
      refine At.enter rfl ?_
      refine r_iconst 0 rfl ?_
      refine r_istore_n ([(2, .int 0), (0, .ref 176), (1, .float f1)]) rfl ?_
      refine Ar.fall 27 rfl ?_
      have z_622 : (0 : Int32).toInt = 0 := rfl
      have x623 := rX.e hI0 (b := 4) (hv437)
      have x624 := rX.e hI0 (b := 5) (hv436)
      refine w_loopI (fun n_ l_ g_ => ∃ x609 : Int32, n_ = 8 - x609.toInt ∧ HI g_ ∧ Fr F_X5_isWord_176 A_X5_isWord_176 g0 g_ ∧ en_get 0 l_ = some (.ref 176) ∧ en_get 1 l_ = some (.float f1) ∧ en_get 2 l_ = some (.int x609) ∧ (0 ≤ x609.toInt ∧ x609.toInt ≤ 8) ∧ (∀ j : Int, 0 ≤ j → j < x609.toInt → TX g0 (rX g0 4 + j) = CHF f1 j) ∧ (0 ≤ x609.toInt)) ?_ (8 - 0) ⟨0, by first | rfl | omega, hI0, hF0, rfl, rfl, rfl, by decide, (fun j h0 h1 => absurd h1 (by omega)), by omega⟩
      rintro n614 l613 g610 ⟨x609, hm625, hI611, hF612, e616, e617, e618, r619, q620, q621⟩ ih615
      have x626 := rX.e hI0 (b := 4) (hv437)
      have x627 := rX.e hI0 (b := 5) (hv436)
      refine At.enter rfl ?_
      refine r_iload_n e618 ?_
      refine r_sload_n e617 ?_
      refine q_slen rfl (Nat.le_of_ble_eq_true rfl) h_f1 m_f1 e_f1 (fun v628 hv628 => ?_)
      have bv630 := q_bnd x609
      have bv631 := q_bnd v628
      refine r_ics 35 rfl (fun c629 => ?_) (fun c629 => ?_)
      · have c629_ : x609.toInt ≥ v628.toInt := en_i_ge_t c629
        refine At.enter rfl ?_
        refine r_iconst 1 rfl ?_
        refine r_iretz (by decide) ?_
        have zv632 : (1 : Int32).toInt = 1 := rfl
        have x633 := rX.e hI0 (b := 3) (hv432)
        have x634 := rX.e hI0 (b := 4) (hv437)
        have x635 := rX.e hI0 (b := 5) (hv436)
        exact ⟨_, rfl, hI611, hF612, _, rfl, by decide, (ISW.yes e_f1 (by omega) (by omega) q620 (by omega) (by omega))⟩
      · have c629_ : x609.toInt < v628.toInt := en_i_ge_f c629
        refine At.enter rfl ?_
        refine r_aload_n e616 ?_
        refine q_getR (Sh.ref hI611.1 kx_176 rfl) ?_
        refine r_aload_n e616 ?_
        refine q_getI (Sh.int hI611.1 kx_176 rfl) v437 ((hF612.1 176 4 (by decide)).trans hv437) ?_
        refine r_iload_n e618 ?_
        refine q_iadd (v437.toInt + x609.toInt) rfl (by omega) (fun v636 hv636 => ?_)
        refine r_callV 48 rfl [.ref 174, .int v636] [] (Nat.le_of_ble_eq_true rfl) rfl (T_X8_at_174 _ hI611 v636) ?_
        rintro _ _ ⟨g637, rfl, hI638, hF639, v640, rfl, hr641⟩
        refine At.sti ?_
        have hF642 := Fr.tr hF612 hF639 rfl rfl
        obtain ⟨v643, hv643⟩ : ∃ v, gI g0 174 1 = v := ⟨_, rfl⟩
        have rv643 := RgF.at hI0.2.1 (p := 174) (b := 1) rfl
        rw [hv643] at rv643
        dsimp only at rv643
        have tv643 := congrArg Int32.toInt hv643
        have x644 := HI.eqI hI611 (p := 174) (b := 1) (((hF612.1 174 1 (by decide)).trans hv643))
        have at645 : ATX g0 v636.toInt v640.toInt := (hr641.2.2).c ((hF612.2.1 175 (by decide))) ((hF612.1 174 1 (by decide)))
        refine At.enter rfl ?_
        refine r_sload_n e617 ?_
        refine r_iload_n e618 ?_
        refine q_scha rfl (Nat.le_of_ble_eq_true rfl) h_f1 m_f1 e_f1 (x609.toInt) rfl (by omega) (fun v646 hv646 => ?_)
        obtain ⟨hv646, gv646⟩ := hv646
        refine r_ics 56 rfl (fun c647 => ?_) (fun c647 => ?_)
        · have c647_ : v640.toInt = v646.toInt := en_i_eq_t c647
          refine At.enter rfl ?_
          refine q_iinc e618 (x609.toInt + 1) rfl (by omega) (fun v648 hv648 => ?_)
          refine r_goto ?_
          exact ih615 (8 - v648.toInt) _ _ ⟨v648, by first | rfl | omega, hI638, hF642, (w_p1 (by decide) (Or.inr rfl) e616), (w_p1 (by decide) (Or.inr rfl) e617), (w_e1 _ _ _), by omega, (ISW.st q620 (show v648.toInt = x609.toInt + 1 from by omega) (by omega) at645 (CHF.mk gv646) (by omega) (by omega)), by omega⟩ ⟨by omega, by omega⟩
        · have c647_ : v640.toInt ≠ v646.toInt := en_i_eq_f c647
          refine At.enter rfl ?_
          refine r_iconst 0 rfl ?_
          refine r_iretz (by decide) ?_
          have zv649 : (0 : Int32).toInt = 0 := rfl
          have x650 := rX.e hI0 (b := 3) (hv432)
          have x651 := rX.e hI0 (b := 4) (hv437)
          have x652 := rX.e hI0 (b := 5) (hv436)
          exact ⟨_, rfl, hI638, hF642, _, rfl, by decide, (ISW.no3 hT h_f1 e_f1 (i := x609.toInt) ⟨by omega, by omega⟩ (by omega) (by omega) at645 (CHF.mk gv646) (by omega) (by omega))⟩
    · have c440_ : v438.toInt ≠ v439.toInt := en_i_eq_f c440
      refine At.enter rfl ?_
      refine r_iconst 0 rfl ?_
      refine r_iretz (by decide) ?_
      have zv653 : (0 : Int32).toInt = 0 := rfl
      have x654 := rX.e hI0 (b := 3) (hv432)
      have x655 := rX.e hI0 (b := 4) (hv437)
      have x656 := rX.e hI0 (b := 5) (hv436)
      exact ⟨_, rfl, hI0, hF0, _, rfl, by decide, (ISW.no2 hT h_f1 e_f1 (by omega) (by omega))⟩
