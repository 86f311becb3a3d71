def F_X5_numberHere_176 : List (Nat × Nat) := []
def A_X5_numberHere_176 : List Nat := []
set_option maxRecDepth 100000 in
set_option maxHeartbeats 4000000 in
theorem T_X5_numberHere_176 (d : Nat) {N : Nat} {g0 : List en_E} (hI0 : HI g0) : Ev (d + 2) 77 [.ref 176] (g0, N) (fun w h' => ∃ g', h' = (g', N) ∧ HI g' ∧ Fr F_X5_numberHere_176 A_X5_numberHere_176 g0 g' ∧ ∃ r : Int32, w = some (.int r) ∧ True) := by
  have hF0 : Fr F_X5_numberHere_176 A_X5_numberHere_176 g0 g0 := Fr.rf
  refine Ev.mk rfl rfl ⟨Nat.le_of_ble_eq_true rfl, Or.inr (q_rc hI0.1 kx_176 rfl)⟩ ?_
  show At _ none _ _ (0, [(0, .ref 176)], [], (_, _)) _
  refine At.enter rfl ?_
  refine r_iconst 0 rfl ?_
  refine r_istore_n ([(1, .int 0), (0, .ref 176)]) rfl ?_
  refine r_aload_n rfl ?_
  obtain ⟨v147, hv147⟩ : ∃ v, gI g0 176 4 = v := ⟨_, rfl⟩
  have rv147 := RgF.at hI0.2.1 (p := 176) (b := 4) rfl
  rw [hv147] at rv147
  dsimp only at rv147
  refine q_getI (Sh.int hI0.1 kx_176 rfl) v147 hv147 ?_
  refine r_istore_n ([(2, .int v147), (1, .int 0), (0, .ref 176)]) rfl ?_
  refine Ar.fall 7 rfl ?_
  have z_201 : (0 : Int32).toInt = 0 := rfl
  refine w_loopI (fun n_ l_ g_ => ∃ x189 : Int32, ∃ x190 : Int32, n_ = 400 - x190.toInt ∧ HI g_ ∧ Fr F_X5_numberHere_176 A_X5_numberHere_176 g0 g_ ∧ en_get 0 l_ = some (.ref 176) ∧ en_get 1 l_ = some (.int x189) ∧ en_get 2 l_ = some (.int x190) ∧ (0 ≤ x190.toInt ∧ x190.toInt ≤ 400)) ?_ (400 - v147.toInt) ⟨0, v147, by first | rfl | omega, hI0, hF0, rfl, rfl, rfl, by omega⟩
  rintro n195 l194 g191 ⟨x189, x190, hm202, hI192, hF193, e197, e198, e199, r200⟩ ih196
  refine At.enter rfl ?_
  refine r_iload_n e199 ?_
  refine r_aload_n e197 ?_
  obtain ⟨v203, hv203⟩ : ∃ v, gI g0 176 5 = v := ⟨_, rfl⟩
  have rv203 := RgF.at hI0.2.1 (p := 176) (b := 5) rfl
  rw [hv203] at rv203
  dsimp only at rv203
  refine q_getI (Sh.int hI192.1 kx_176 rfl) v203 ((hF193.1 176 5 (by decide)).trans hv203) ?_
  have bv205 := q_bnd x190
  have bv206 := q_bnd v203
  refine r_ics 15 rfl (fun c204 => ?_) (fun c204 => ?_)
  · have c204_ : x190.toInt ≥ v203.toInt := en_i_ge_t c204
    refine At.enter rfl ?_
    refine r_iload_n e198 ?_
    refine r_ireti ?_
    exact ⟨_, rfl, hI192, hF193, _, rfl, trivial⟩
  · have c204_ : x190.toInt < v203.toInt := en_i_ge_f c204
    refine At.enter rfl ?_
    refine r_iload_n e198 ?_
    refine r_sipush 1000 rfl ?_
    refine r_ics 22 rfl (fun c207 => ?_) (fun c207 => ?_)
    · have c207_ : x189.toInt > 1000 := en_i_gt_t c207
      refine At.enter rfl ?_
      refine r_iload_n e198 ?_
      refine r_ireti ?_
      exact ⟨_, rfl, hI192, hF193, _, rfl, trivial⟩
    · have c207_ : x189.toInt ≤ 1000 := en_i_gt_f c207
      refine At.enter rfl ?_
      refine r_iload_n e198 ?_
      refine r_bipush 10 rfl ?_
      refine q_imulO (fun v208 _ => ?_)
      refine r_aload_n e197 ?_
      refine q_getR (Sh.ref hI192.1 kx_176 rfl) ?_
      refine r_iload_n e199 ?_
      refine r_callV 34 rfl [.ref 174, .int x190] [.int v208] (Nat.le_of_ble_eq_true rfl) rfl (T_X8_at_174 _ hI192 x190) ?_
      rintro _ _ ⟨g209, rfl, hI210, hF211, v212, rfl, hr213⟩
      refine At.sti ?_
      have hF214 := Fr.tr hF193 hF211 rfl rfl
      obtain ⟨v215, hv215⟩ : ∃ v, gI g0 174 1 = v := ⟨_, rfl⟩
      have rv215 := RgF.at hI0.2.1 (p := 174) (b := 1) rfl
      rw [hv215] at rv215
      dsimp only at rv215
      have tv215 := congrArg Int32.toInt hv215
      have x216 := HI.eqI hI192 (p := 174) (b := 1) (((hF193.1 174 1 (by decide)).trans hv215))
      refine At.enter rfl ?_
      refine q_iaddO (fun v217 _ => ?_)
      refine r_bipush 48 rfl ?_
      refine q_isubO (fun v218 _ => ?_)
      refine r_istore_n _ rfl ?_
      refine q_iinc (w_p1 (by decide) (Or.inr rfl) e199) (x190.toInt + 1) rfl (by omega) (fun v219 hv219 => ?_)
      refine r_goto ?_
      have bv220 := q_bnd v218
      exact ih196 (400 - v219.toInt) _ _ ⟨v218, v219, by first | rfl | omega, hI210, hF214, (w_p1 (by decide) (Or.inr rfl) (w_p1 (by decide) (Or.inr rfl) e197)), (w_p1 (by decide) (Or.inr rfl) (w_e1 _ _ _)), (w_e1 _ _ _), by omega⟩ ⟨by omega, by omega⟩

def F_X4_add_177 : List (Nat × Nat) := [(177, 0)]
def A_X4_add_177 : List Nat := [178, 179]
set_option maxRecDepth 100000 in
set_option maxHeartbeats 4000000 in
theorem T_X4_add_177 (d : Nat) {N : Nat} {g0 : List en_E} (hI0 : HI g0) (a1 : Int32) (a2 : Int32) : Ev (d + 1) 60 [.ref 177, .int a1, .int a2] (g0, N) (fun w h' => ∃ g', h' = (g', N) ∧ HI g' ∧ Fr F_X4_add_177 A_X4_add_177 g0 g' ∧ ∃ r : Int32, w = some (.int r) ∧ ((-1) ≤ r.toInt ∧ r.toInt ≤ 399)) := by
  have hF0 : Fr F_X4_add_177 A_X4_add_177 g0 g0 := Fr.rf
  refine Ev.mk rfl rfl ⟨Nat.le_of_ble_eq_true rfl, Or.inr (q_rc hI0.1 kx_177 rfl)⟩ ?_
  show At _ none _ _ (0, [(0, .ref 177), (1, .int a1), (2, .int a2)], [], (_, _)) _
  refine At.enter rfl ?_
  refine r_aload_n rfl ?_
  obtain ⟨v21, hv21⟩ : ∃ v, gI g0 177 0 = v := ⟨_, rfl⟩
  have rv21 := RgF.at hI0.2.1 (p := 177) (b := 0) rfl
  rw [hv21] at rv21
  dsimp only at rv21
  refine q_getI (Sh.int hI0.1 kx_177 rfl) v21 hv21 ?_
  refine r_sipush 400 rfl ?_
  refine r_ics 10 rfl (fun c22 => ?_) (fun c22 => ?_)
  · have c22_ : v21.toInt < 400 := en_i_lt_t c22
    refine At.enter rfl ?_
    refine r_aload_n rfl ?_
    refine q_getR (Sh.ref hI0.1 kx_177 rfl) ?_
    refine r_aload_n rfl ?_
    refine q_getI (Sh.int hI0.1 kx_177 rfl) v21 hv21 ?_
    refine r_iload_n rfl ?_
    refine q_iast (Sh.arr hI0.1 ka_178) (v21.toInt) rfl (by omega) ?_
    have hI23 := HI.wA0 hI0 ka_178 (p := 178) rfl rfl (v21.toInt) (a1)
    have hF24 := Fr.wA (p := 178) (j := v21.toInt) (v := a1) hF0 rfl
    refine r_aload_n rfl ?_
    refine q_getR (Sh.ref hI23.1 kx_177 rfl) ?_
    refine r_aload_n rfl ?_
    refine q_getI (Sh.int hI23.1 kx_177 rfl) v21 ((gI_sW).trans hv21) ?_
    refine r_iload_n rfl ?_
    refine q_iast (Sh.arr hI23.1 ka_179) (v21.toInt) rfl (by omega) ?_
    have hI25 := HI.wA0 hI23 ka_179 (p := 179) rfl rfl (v21.toInt) (a2)
    have hF26 := Fr.wA (p := 179) (j := v21.toInt) (v := a2) hF24 rfl
    refine r_aload_n rfl ?_
    refine r_dup rfl ?_
    refine q_getI (Sh.int hI25.1 kx_177 rfl) v21 (((gI_sW).trans (gI_sW)).trans hv21) ?_
    refine r_iconst 1 rfl ?_
    refine q_iadd (v21.toInt + 1) rfl (by omega) (fun v27 hv27 => ?_)
    refine q_putI (Sh.int hI25.1 kx_177 rfl) rfl ?_
    have hI28 := HI.wI1 hI25 kx_177 rfl (p := 177) (b := 0) (v := v27) rfl (by dsimp only; omega)
    have hF29 := Fr.wI (p := 177) (b := 0) (v := v27) hF26 rfl
    refine r_aload_n rfl ?_
    refine q_getI (Sh.int hI28.1 kx_177 rfl) v27 (gI_sI_eq hI25.1 kx_177 rfl _) ?_
    refine r_iconst 1 rfl ?_
    refine q_isub (v27.toInt - 1) rfl (by omega) (fun v30 hv30 => ?_)
    refine r_ireti ?_
    exact ⟨_, rfl, hI28, hF29, _, rfl, by omega⟩
  · have c22_ : v21.toInt ≥ 400 := en_i_lt_f c22
    refine At.enter rfl ?_
    refine r_iconst (-1) rfl ?_
    refine r_ireti ?_
    exact ⟨_, rfl, hI0, hF0, _, rfl, by decide⟩

def F_X4_aimAtEnd_177 : List (Nat × Nat) := []
def A_X4_aimAtEnd_177 : List Nat := [179]
set_option maxRecDepth 100000 in
set_option maxHeartbeats 4000000 in
theorem T_X4_aimAtEnd_177 (d : Nat) {N : Nat} {g0 : List en_E} (hI0 : HI g0) (a1 : Int32) : Ev (d + 1) 61 [.ref 177, .int a1] (g0, N) (fun w h' => ∃ g', h' = (g', N) ∧ HI g' ∧ Fr F_X4_aimAtEnd_177 A_X4_aimAtEnd_177 g0 g' ∧ w = none) := by
  have hF0 : Fr F_X4_aimAtEnd_177 A_X4_aimAtEnd_177 g0 g0 := Fr.rf
  refine Ev.mk rfl rfl ⟨Nat.le_of_ble_eq_true rfl, Or.inr (q_rc hI0.1 kx_177 rfl)⟩ ?_
  show At _ none _ _ (0, [(0, .ref 177), (1, .int a1)], [], (_, _)) _
  refine At.enter rfl ?_
  refine r_iload_n rfl ?_
  refine r_ifs 4 rfl (fun c15 => ?_) (fun c15 => ?_)
  · have c15_ : a1.toInt < 0 := en_k_lt_t c15
    refine At.enter rfl ?_
    refine r_vret ?_
    exact ⟨_, rfl, hI0, hF0, rfl⟩
  · have c15_ : a1.toInt ≥ 0 := en_k_lt_f c15
    refine At.enter rfl ?_
    refine r_iload_n rfl ?_
    refine r_aload_n rfl ?_
    obtain ⟨v16, hv16⟩ : ∃ v, gI g0 177 0 = v := ⟨_, rfl⟩
    have rv16 := RgF.at hI0.2.1 (p := 177) (b := 0) rfl
    rw [hv16] at rv16
    dsimp only at rv16
    refine q_getI (Sh.int hI0.1 kx_177 rfl) v16 hv16 ?_
    have bv18 := q_bnd a1
    have bv19 := q_bnd v16
    refine r_ics 12 rfl (fun c17 => ?_) (fun c17 => ?_)
    · have c17_ : a1.toInt ≥ v16.toInt := en_i_ge_t c17
      refine At.enter rfl ?_
      refine r_vret ?_
      exact ⟨_, rfl, hI0, hF0, rfl⟩
    · have c17_ : a1.toInt < v16.toInt := en_i_ge_f c17
      refine At.enter rfl ?_
      refine r_aload_n rfl ?_
      refine q_getR (Sh.ref hI0.1 kx_177 rfl) ?_
      refine r_iload_n rfl ?_
      refine r_aload_n rfl ?_
      refine q_getI (Sh.int hI0.1 kx_177 rfl) v16 hv16 ?_
      refine q_iast (Sh.arr hI0.1 ka_179) (a1.toInt) rfl (by omega) ?_
      have hI20 := HI.wA0 hI0 ka_179 (p := 179) rfl rfl (a1.toInt) (v16)
      have hF21 := Fr.wA (p := 179) (j := a1.toInt) (v := v16) hF0 rfl
      refine Ar.fall 22 rfl ?_
      refine At.enter rfl ?_
      refine r_vret ?_
      exact ⟨_, rfl, hI20, hF21, rfl⟩

def F_X5_isWord_176 : List (Nat × Nat) := []
def A_X5_isWord_176 : List Nat := []
set_option maxRecDepth 100000 in
set_option maxHeartbeats 4000000 in
theorem T_X5_isWord_176 (d : Nat) {N : Nat} {g0 : List en_E} (hI0 : HI g0) (f1 : UInt32) (h_f1 : 1 ≤ f1.toNat ∧ f1.toNat ≤ 17) : Ev (d + 2) 76 [.ref 176, .float f1] (g0, N) (fun w h' => ∃ g', h' = (g', N) ∧ HI g' ∧ Fr F_X5_isWord_176 A_X5_isWord_176 g0 g' ∧ ∃ r : Int32, w = some (.int r) ∧ (0 ≤ r.toInt ∧ r.toInt ≤ 1)) := by
  have hF0 : Fr F_X5_isWord_176 A_X5_isWord_176 g0 g0 := Fr.rf
  obtain ⟨m_f1, e_f1⟩ : ∃ m : Int, ((en_tl.getD (f1.toNat - 1) 0 : Nat) : Int) = m := ⟨_, rfl⟩
  have r_f1 := st_lenf h_f1
  rw [e_f1] at r_f1
  refine Ev.mk rfl rfl ⟨Nat.le_of_ble_eq_true rfl, Or.inr (q_rc hI0.1 kx_176 rfl)⟩ ?_
  show At _ none _ _ (0, [(0, .ref 176), (1, .float f1)], [], (_, _)) _
  refine At.enter rfl ?_
  refine r_aload_n rfl ?_
  obtain ⟨v333, hv333⟩ : ∃ v, gI g0 176 3 = v := ⟨_, rfl⟩
  refine q_getI (Sh.int hI0.1 kx_176 rfl) v333 hv333 ?_
  refine r_ifs 7 rfl (fun c334 => ?_) (fun c334 => ?_)
  · have c334_ : v333.toInt ≠ 0 := en_k_ne_t c334
    refine At.enter rfl ?_
    refine r_iconst 0 rfl ?_
    refine r_iretz (by decide) ?_
    exact ⟨_, rfl, hI0, hF0, _, rfl, by decide⟩
  · have c334_ : v333.toInt = 0 := en_k_ne_f c334
    refine At.enter rfl ?_
    refine r_aload_n rfl ?_
    obtain ⟨v335, hv335⟩ : ∃ v, gI g0 176 5 = v := ⟨_, rfl⟩
    have rv335 := RgF.at hI0.2.1 (p := 176) (b := 5) rfl
    rw [hv335] at rv335
    dsimp only at rv335
    refine q_getI (Sh.int hI0.1 kx_176 rfl) v335 hv335 ?_
    refine r_aload_n rfl ?_
    obtain ⟨v336, hv336⟩ : ∃ v, gI g0 176 4 = v := ⟨_, rfl⟩
    have rv336 := RgF.at hI0.2.1 (p := 176) (b := 4) rfl
    rw [hv336] at rv336
    dsimp only at rv336
    refine q_getI (Sh.int hI0.1 kx_176 rfl) v336 hv336 ?_
    refine q_isub (v335.toInt - v336.toInt) rfl (by omega) (fun v337 hv337 => ?_)
    refine r_sload_n rfl ?_
    refine q_slen rfl (Nat.le_of_ble_eq_true rfl) h_f1 m_f1 e_f1 (fun v338 hv338 => ?_)
    refine r_ics 23 rfl (fun c339 => ?_) (fun c339 => ?_)
    · have c339_ : v337.toInt = v338.toInt := en_i_eq_t c339
      refine At.enter rfl ?_
      refine r_iconst 0 rfl ?_
      refine r_istore_n ([(2, .int 0), (0, .ref 176), (1, .float f1)]) rfl ?_
      refine Ar.fall 27 rfl ?_
      have z_477 : (0 : Int32).toInt = 0 := rfl
      refine w_loopI (fun n_ l_ g_ => ∃ x466 : Int32, n_ = 8 - x466.toInt ∧ HI g_ ∧ Fr F_X5_isWord_176 A_X5_isWord_176 g0 g_ ∧ en_get 0 l_ = some (.ref 176) ∧ en_get 1 l_ = some (.float f1) ∧ en_get 2 l_ = some (.int x466) ∧ (0 ≤ x466.toInt ∧ x466.toInt ≤ 8)) ?_ (8 - 0) ⟨0, by first | rfl | omega, hI0, hF0, rfl, rfl, rfl, by decide⟩
      rintro n471 l470 g467 ⟨x466, hm478, hI468, hF469, e473, e474, e475, r476⟩ ih472
      refine At.enter rfl ?_
      refine r_iload_n e475 ?_
      refine r_sload_n e474 ?_
      refine q_slen rfl (Nat.le_of_ble_eq_true rfl) h_f1 m_f1 e_f1 (fun v479 hv479 => ?_)
      have bv481 := q_bnd x466
      have bv482 := q_bnd v479
      refine r_ics 35 rfl (fun c480 => ?_) (fun c480 => ?_)
      · have c480_ : x466.toInt ≥ v479.toInt := en_i_ge_t c480
        refine At.enter rfl ?_
        refine r_iconst 1 rfl ?_
        refine r_iretz (by decide) ?_
        exact ⟨_, rfl, hI468, hF469, _, rfl, by decide⟩
      · have c480_ : x466.toInt < v479.toInt := en_i_ge_f c480
        refine At.enter rfl ?_
        refine r_aload_n e473 ?_
        refine q_getR (Sh.ref hI468.1 kx_176 rfl) ?_
        refine r_aload_n e473 ?_
        refine q_getI (Sh.int hI468.1 kx_176 rfl) v336 ((hF469.1 176 4 (by decide)).trans hv336) ?_
        refine r_iload_n e475 ?_
        refine q_iadd (v336.toInt + x466.toInt) rfl (by omega) (fun v483 hv483 => ?_)
        refine r_callV 48 rfl [.ref 174, .int v483] [] (Nat.le_of_ble_eq_true rfl) rfl (T_X8_at_174 _ hI468 v483) ?_
        rintro _ _ ⟨g484, rfl, hI485, hF486, v487, rfl, hr488⟩
        refine At.sti ?_
        have hF489 := Fr.tr hF469 hF486 rfl rfl
        obtain ⟨v490, hv490⟩ : ∃ v, gI g0 174 1 = v := ⟨_, rfl⟩
        have rv490 := RgF.at hI0.2.1 (p := 174) (b := 1) rfl
        rw [hv490] at rv490
        dsimp only at rv490
        have tv490 := congrArg Int32.toInt hv490
        have x491 := HI.eqI hI468 (p := 174) (b := 1) (((hF469.1 174 1 (by decide)).trans hv490))
        refine At.enter rfl ?_
        refine r_sload_n e474 ?_
        refine r_iload_n e475 ?_
        refine q_scha rfl (Nat.le_of_ble_eq_true rfl) h_f1 m_f1 e_f1 (x466.toInt) rfl (by omega) (fun v492 hv492 => ?_)
        obtain ⟨hv492, gv492⟩ := hv492
        refine r_ics 56 rfl (fun c493 => ?_) (fun c493 => ?_)
        · have c493_ : v487.toInt = v492.toInt := en_i_eq_t c493
          refine At.enter rfl ?_
          refine q_iinc e475 (x466.toInt + 1) rfl (by omega) (fun v494 hv494 => ?_)
          refine r_goto ?_
          exact ih472 (8 - v494.toInt) _ _ ⟨v494, by first | rfl | omega, hI485, hF489, (w_p1 (by decide) (Or.inr rfl) e473), (w_p1 (by decide) (Or.inr rfl) e474), (w_e1 _ _ _), by omega⟩ ⟨by omega, by omega⟩
        · have c493_ : v487.toInt ≠ v492.toInt := en_i_eq_f c493
          refine At.enter rfl ?_
          refine r_iconst 0 rfl ?_
          refine r_iretz (by decide) ?_
          exact ⟨_, rfl, hI485, hF489, _, rfl, by decide⟩
    · have c339_ : v337.toInt ≠ v338.toInt := en_i_eq_f c339
      refine At.enter rfl ?_
      refine r_iconst 0 rfl ?_
      refine r_iretz (by decide) ?_
      exact ⟨_, rfl, hI0, hF0, _, rfl, by decide⟩

def F_X5_wordHere_176 : List (Nat × Nat) := []
def A_X5_wordHere_176 : List Nat := []
set_option maxRecDepth 100000 in
set_option maxHeartbeats 4000000 in
theorem T_X5_wordHere_176 (d : Nat) {N : Nat} {g0 : List en_E} (hI0 : HI g0) : Ev (d + 3) 78 [.ref 176] (g0, N) (fun w h' => ∃ g', h' = (g', N) ∧ HI g' ∧ Fr F_X5_wordHere_176 A_X5_wordHere_176 g0 g' ∧ ∃ r : Int32, w = some (.int r) ∧ ((-1) ≤ r.toInt ∧ r.toInt ≤ 8)) := by
  have hF0 : Fr F_X5_wordHere_176 A_X5_wordHere_176 g0 g0 := Fr.rf
  refine Ev.mk rfl rfl ⟨Nat.le_of_ble_eq_true rfl, Or.inr (q_rc hI0.1 kx_176 rfl)⟩ ?_
  show At _ none _ _ (0, [(0, .ref 176)], [], (_, _)) _
  refine At.enter rfl ?_
  refine r_iconst 0 rfl ?_
  refine r_istore_n ([(1, .int 0), (0, .ref 176)]) rfl ?_
  refine Ar.fall 2 rfl ?_
  have z_1491 : (0 : Int32).toInt = 0 := rfl
  refine w_loopI (fun n_ l_ g_ => ∃ x1481 : Int32, n_ = 9 - x1481.toInt ∧ HI g_ ∧ Fr F_X5_wordHere_176 A_X5_wordHere_176 g0 g_ ∧ en_get 0 l_ = some (.ref 176) ∧ en_get 1 l_ = some (.int x1481) ∧ (0 ≤ x1481.toInt ∧ x1481.toInt ≤ 9)) ?_ (9 - 0) ⟨0, by first | rfl | omega, hI0, hF0, rfl, rfl, by decide⟩
  rintro n1486 l1485 g1482 ⟨x1481, hm1492, hI1483, hF1484, e1488, e1489, r1490⟩ ih1487
  refine At.enter rfl ?_
  refine r_iload_n e1489 ?_
  refine r_bipush 9 rfl ?_
  refine r_ics 8 rfl (fun c1493 => ?_) (fun c1493 => ?_)
  · have c1493_ : x1481.toInt ≥ 9 := en_i_ge_t c1493
    refine At.enter rfl ?_
    refine r_iconst (-1) rfl ?_
    refine r_ireti ?_
    exact ⟨_, rfl, hI1483, hF1484, _, rfl, by decide⟩
  · have c1493_ : x1481.toInt < 9 := en_i_ge_f c1493
    refine At.enter rfl ?_
    refine r_aload_n e1488 ?_
    refine r_iload_n e1489 ?_
    refine q_inlS 13 rfl [.int x1481] [.ref 176] (Nat.le_of_ble_eq_true rfl) rfl ?_
    refine Ev.mk rfl rfl ⟨Nat.le_of_ble_eq_true rfl, Or.inl rfl⟩ ?_
    show At _ none _ _ (0, [(0, .int x1481)], [], (_, _)) _
    refine At.enter rfl ?_
    refine r_iload_n rfl ?_
    by_cases c1494_0 : x1481.toInt = 0
    · refine r_tsw 52 (by rw [c1494_0]; rfl) ?_
      refine At.enter rfl ?_
      refine r_ldcS (by decide) 5 rfl ?_
      refine q_sret ?_
      refine At.enter rfl ?_
      refine r_callV 16 rfl [.ref 176, .float 5] [] (Nat.le_of_ble_eq_true rfl) rfl (T_X5_isWord_176 _ hI1483 5 (by decide)) ?_
      rintro _ _ ⟨g1495, rfl, hI1496, hF1497, v1498, rfl, hr1499⟩
      refine At.sti ?_
      have hF1500 := Fr.tr hF1484 hF1497 rfl rfl
      refine At.enter rfl ?_
      refine r_ifs 19 rfl (fun c1501 => ?_) (fun c1501 => ?_)
      · have c1501_ : v1498.toInt = 0 := en_k_eq_t c1501
        refine At.enter rfl ?_
        refine q_iinc e1489 (x1481.toInt + 1) rfl (by omega) (fun v1502 hv1502 => ?_)
        refine r_goto ?_
        exact ih1487 (9 - v1502.toInt) _ _ ⟨v1502, by first | rfl | omega, hI1496, hF1500, (w_p1 (by decide) (Or.inr rfl) e1488), (w_e1 _ _ _), by omega⟩ ⟨by omega, by omega⟩
      · have c1501_ : v1498.toInt ≠ 0 := en_k_eq_f c1501
        refine At.enter rfl ?_
        refine r_iload_n e1489 ?_
        refine r_ireti ?_
        exact ⟨_, rfl, hI1496, hF1500, _, rfl, by omega⟩
    by_cases c1494_1 : x1481.toInt = 1
    · refine r_tsw 55 (by rw [c1494_1]; rfl) ?_
      refine At.enter rfl ?_
      refine r_ldcS (by decide) 6 rfl ?_
      refine q_sret ?_
      refine At.enter rfl ?_
      refine r_callV 16 rfl [.ref 176, .float 6] [] (Nat.le_of_ble_eq_true rfl) rfl (T_X5_isWord_176 _ hI1483 6 (by decide)) ?_
      rintro _ _ ⟨g1503, rfl, hI1504, hF1505, v1506, rfl, hr1507⟩
      refine At.sti ?_
      have hF1508 := Fr.tr hF1484 hF1505 rfl rfl
      refine At.enter rfl ?_
      refine r_ifs 19 rfl (fun c1509 => ?_) (fun c1509 => ?_)
      · have c1509_ : v1506.toInt = 0 := en_k_eq_t c1509
        refine At.enter rfl ?_
        refine q_iinc e1489 (x1481.toInt + 1) rfl (by omega) (fun v1510 hv1510 => ?_)
        refine r_goto ?_
        exact ih1487 (9 - v1510.toInt) _ _ ⟨v1510, by first | rfl | omega, hI1504, hF1508, (w_p1 (by decide) (Or.inr rfl) e1488), (w_e1 _ _ _), by omega⟩ ⟨by omega, by omega⟩
      · have c1509_ : v1506.toInt ≠ 0 := en_k_eq_f c1509
        refine At.enter rfl ?_
        refine r_iload_n e1489 ?_
        refine r_ireti ?_
        exact ⟨_, rfl, hI1504, hF1508, _, rfl, by omega⟩
    by_cases c1494_2 : x1481.toInt = 2
    · refine r_tsw 58 (by rw [c1494_2]; rfl) ?_
      refine At.enter rfl ?_
      refine r_ldcS (by decide) 7 rfl ?_
      refine q_sret ?_
      refine At.enter rfl ?_
      refine r_callV 16 rfl [.ref 176, .float 7] [] (Nat.le_of_ble_eq_true rfl) rfl (T_X5_isWord_176 _ hI1483 7 (by decide)) ?_
      rintro _ _ ⟨g1511, rfl, hI1512, hF1513, v1514, rfl, hr1515⟩
      refine At.sti ?_
      have hF1516 := Fr.tr hF1484 hF1513 rfl rfl
      refine At.enter rfl ?_
      refine r_ifs 19 rfl (fun c1517 => ?_) (fun c1517 => ?_)
      · have c1517_ : v1514.toInt = 0 := en_k_eq_t c1517
        refine At.enter rfl ?_
        refine q_iinc e1489 (x1481.toInt + 1) rfl (by omega) (fun v1518 hv1518 => ?_)
        refine r_goto ?_
        exact ih1487 (9 - v1518.toInt) _ _ ⟨v1518, by first | rfl | omega, hI1512, hF1516, (w_p1 (by decide) (Or.inr rfl) e1488), (w_e1 _ _ _), by omega⟩ ⟨by omega, by omega⟩
      · have c1517_ : v1514.toInt ≠ 0 := en_k_eq_f c1517
        refine At.enter rfl ?_
        refine r_iload_n e1489 ?_
        refine r_ireti ?_
        exact ⟨_, rfl, hI1512, hF1516, _, rfl, by omega⟩
    by_cases c1494_3 : x1481.toInt = 3
    · refine r_tsw 61 (by rw [c1494_3]; rfl) ?_
      refine At.enter rfl ?_
      refine r_ldcS (by decide) 8 rfl ?_
      refine q_sret ?_
      refine At.enter rfl ?_
      refine r_callV 16 rfl [.ref 176, .float 8] [] (Nat.le_of_ble_eq_true rfl) rfl (T_X5_isWord_176 _ hI1483 8 (by decide)) ?_
      rintro _ _ ⟨g1519, rfl, hI1520, hF1521, v1522, rfl, hr1523⟩
      refine At.sti ?_
      have hF1524 := Fr.tr hF1484 hF1521 rfl rfl
      refine At.enter rfl ?_
      refine r_ifs 19 rfl (fun c1525 => ?_) (fun c1525 => ?_)
      · have c1525_ : v1522.toInt = 0 := en_k_eq_t c1525
        refine At.enter rfl ?_
        refine q_iinc e1489 (x1481.toInt + 1) rfl (by omega) (fun v1526 hv1526 => ?_)
        refine r_goto ?_
        exact ih1487 (9 - v1526.toInt) _ _ ⟨v1526, by first | rfl | omega, hI1520, hF1524, (w_p1 (by decide) (Or.inr rfl) e1488), (w_e1 _ _ _), by omega⟩ ⟨by omega, by omega⟩
      · have c1525_ : v1522.toInt ≠ 0 := en_k_eq_f c1525
        refine At.enter rfl ?_
        refine r_iload_n e1489 ?_
        refine r_ireti ?_
        exact ⟨_, rfl, hI1520, hF1524, _, rfl, by omega⟩
    by_cases c1494_4 : x1481.toInt = 4
    · refine r_tsw 64 (by rw [c1494_4]; rfl) ?_
      refine At.enter rfl ?_
      refine r_ldcS (by decide) 9 rfl ?_
      refine q_sret ?_
      refine At.enter rfl ?_
      refine r_callV 16 rfl [.ref 176, .float 9] [] (Nat.le_of_ble_eq_true rfl) rfl (T_X5_isWord_176 _ hI1483 9 (by decide)) ?_
      rintro _ _ ⟨g1527, rfl, hI1528, hF1529, v1530, rfl, hr1531⟩
      refine At.sti ?_
      have hF1532 := Fr.tr hF1484 hF1529 rfl rfl
      refine At.enter rfl ?_
      refine r_ifs 19 rfl (fun c1533 => ?_) (fun c1533 => ?_)
      · have c1533_ : v1530.toInt = 0 := en_k_eq_t c1533
        refine At.enter rfl ?_
        refine q_iinc e1489 (x1481.toInt + 1) rfl (by omega) (fun v1534 hv1534 => ?_)
        refine r_goto ?_
        exact ih1487 (9 - v1534.toInt) _ _ ⟨v1534, by first | rfl | omega, hI1528, hF1532, (w_p1 (by decide) (Or.inr rfl) e1488), (w_e1 _ _ _), by omega⟩ ⟨by omega, by omega⟩
      · have c1533_ : v1530.toInt ≠ 0 := en_k_eq_f c1533
        refine At.enter rfl ?_
        refine r_iload_n e1489 ?_
        refine r_ireti ?_
        exact ⟨_, rfl, hI1528, hF1532, _, rfl, by omega⟩
    by_cases c1494_5 : x1481.toInt = 5
    · refine r_tsw 67 (by rw [c1494_5]; rfl) ?_
      refine At.enter rfl ?_
      refine r_ldcS (by decide) 10 rfl ?_
      refine q_sret ?_
      refine At.enter rfl ?_
      refine r_callV 16 rfl [.ref 176, .float 10] [] (Nat.le_of_ble_eq_true rfl) rfl (T_X5_isWord_176 _ hI1483 10 (by decide)) ?_
      rintro _ _ ⟨g1535, rfl, hI1536, hF1537, v1538, rfl, hr1539⟩
      refine At.sti ?_
      have hF1540 := Fr.tr hF1484 hF1537 rfl rfl
      refine At.enter rfl ?_
      refine r_ifs 19 rfl (fun c1541 => ?_) (fun c1541 => ?_)
      · have c1541_ : v1538.toInt = 0 := en_k_eq_t c1541
        refine At.enter rfl ?_
        refine q_iinc e1489 (x1481.toInt + 1) rfl (by omega) (fun v1542 hv1542 => ?_)
        refine r_goto ?_
        exact ih1487 (9 - v1542.toInt) _ _ ⟨v1542, by first | rfl | omega, hI1536, hF1540, (w_p1 (by decide) (Or.inr rfl) e1488), (w_e1 _ _ _), by omega⟩ ⟨by omega, by omega⟩
      · have c1541_ : v1538.toInt ≠ 0 := en_k_eq_f c1541
        refine At.enter rfl ?_
        refine r_iload_n e1489 ?_
        refine r_ireti ?_
        exact ⟨_, rfl, hI1536, hF1540, _, rfl, by omega⟩
    by_cases c1494_6 : x1481.toInt = 6
    · refine r_tsw 70 (by rw [c1494_6]; rfl) ?_
      refine At.enter rfl ?_
      refine r_ldcS (by decide) 11 rfl ?_
      refine q_sret ?_
      refine At.enter rfl ?_
      refine r_callV 16 rfl [.ref 176, .float 11] [] (Nat.le_of_ble_eq_true rfl) rfl (T_X5_isWord_176 _ hI1483 11 (by decide)) ?_
      rintro _ _ ⟨g1543, rfl, hI1544, hF1545, v1546, rfl, hr1547⟩
      refine At.sti ?_
      have hF1548 := Fr.tr hF1484 hF1545 rfl rfl
      refine At.enter rfl ?_
      refine r_ifs 19 rfl (fun c1549 => ?_) (fun c1549 => ?_)
      · have c1549_ : v1546.toInt = 0 := en_k_eq_t c1549
        refine At.enter rfl ?_
        refine q_iinc e1489 (x1481.toInt + 1) rfl (by omega) (fun v1550 hv1550 => ?_)
        refine r_goto ?_
        exact ih1487 (9 - v1550.toInt) _ _ ⟨v1550, by first | rfl | omega, hI1544, hF1548, (w_p1 (by decide) (Or.inr rfl) e1488), (w_e1 _ _ _), by omega⟩ ⟨by omega, by omega⟩
      · have c1549_ : v1546.toInt ≠ 0 := en_k_eq_f c1549
        refine At.enter rfl ?_
        refine r_iload_n e1489 ?_
        refine r_ireti ?_
        exact ⟨_, rfl, hI1544, hF1548, _, rfl, by omega⟩
    by_cases c1494_7 : x1481.toInt = 7
    · refine r_tsw 73 (by rw [c1494_7]; rfl) ?_
      refine At.enter rfl ?_
      refine r_ldcS (by decide) 12 rfl ?_
      refine q_sret ?_
      refine At.enter rfl ?_
      refine r_callV 16 rfl [.ref 176, .float 12] [] (Nat.le_of_ble_eq_true rfl) rfl (T_X5_isWord_176 _ hI1483 12 (by decide)) ?_
      rintro _ _ ⟨g1551, rfl, hI1552, hF1553, v1554, rfl, hr1555⟩
      refine At.sti ?_
      have hF1556 := Fr.tr hF1484 hF1553 rfl rfl
      refine At.enter rfl ?_
      refine r_ifs 19 rfl (fun c1557 => ?_) (fun c1557 => ?_)
      · have c1557_ : v1554.toInt = 0 := en_k_eq_t c1557
        refine At.enter rfl ?_
        refine q_iinc e1489 (x1481.toInt + 1) rfl (by omega) (fun v1558 hv1558 => ?_)
        refine r_goto ?_
        exact ih1487 (9 - v1558.toInt) _ _ ⟨v1558, by first | rfl | omega, hI1552, hF1556, (w_p1 (by decide) (Or.inr rfl) e1488), (w_e1 _ _ _), by omega⟩ ⟨by omega, by omega⟩
      · have c1557_ : v1554.toInt ≠ 0 := en_k_eq_f c1557
        refine At.enter rfl ?_
        refine r_iload_n e1489 ?_
        refine r_ireti ?_
        exact ⟨_, rfl, hI1552, hF1556, _, rfl, by omega⟩
    by_cases c1494_8 : x1481.toInt = 8
    · refine r_tsw 76 (by rw [c1494_8]; rfl) ?_
      refine At.enter rfl ?_
      refine r_ldcS (by decide) 13 rfl ?_
      refine q_sret ?_
      refine At.enter rfl ?_
      refine r_callV 16 rfl [.ref 176, .float 13] [] (Nat.le_of_ble_eq_true rfl) rfl (T_X5_isWord_176 _ hI1483 13 (by decide)) ?_
      rintro _ _ ⟨g1559, rfl, hI1560, hF1561, v1562, rfl, hr1563⟩
      refine At.sti ?_
      have hF1564 := Fr.tr hF1484 hF1561 rfl rfl
      refine At.enter rfl ?_
      refine r_ifs 19 rfl (fun c1565 => ?_) (fun c1565 => ?_)
      · have c1565_ : v1562.toInt = 0 := en_k_eq_t c1565
        refine At.enter rfl ?_
        refine q_iinc e1489 (x1481.toInt + 1) rfl (by omega) (fun v1566 hv1566 => ?_)
        refine r_goto ?_
        exact ih1487 (9 - v1566.toInt) _ _ ⟨v1566, by first | rfl | omega, hI1560, hF1564, (w_p1 (by decide) (Or.inr rfl) e1488), (w_e1 _ _ _), by omega⟩ ⟨by omega, by omega⟩
      · have c1565_ : v1562.toInt ≠ 0 := en_k_eq_f c1565
        refine At.enter rfl ?_
        refine r_iload_n e1489 ?_
        refine r_ireti ?_
        exact ⟨_, rfl, hI1560, hF1564, _, rfl, by omega⟩
    exfalso; omega
