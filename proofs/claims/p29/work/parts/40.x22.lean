def F_X6_told_222 : List (Nat × Nat) := [(185, 3), (204, 16), (204, 18), (222, 2), (222, 3), (222, 4), (222, 5)]
def A_X6_told_222 : List Nat := [205, 206, 207, 208, 209, 210, 211, 212, 213, 214, 215, 216, 218]
set_option maxRecDepth 100000 in
set_option maxHeartbeats 4000000 in
theorem T_X6_told_222 (d : Nat) {N : Nat} {g0 : List en_E} (hI0 : HI g0) (a1 : Int32) : Ev (d + 7) 81 [.ref 222, .int a1] (g0, N) (fun w h' => ∃ g', h' = (g', N) ∧ HI g' ∧ Fr F_X6_told_222 A_X6_told_222 g0 g' ∧ ∃ r : Int32, w = some (.int r) ∧ True) := by
  have hF0 : Fr F_X6_told_222 A_X6_told_222 g0 g0 := Fr.rf
  refine Ev.mk rfl rfl ⟨Nat.le_of_ble_eq_true rfl, Or.inr (q_rc hI0.1 kx_222 rfl)⟩ ?_
  show At _ none _ _ (0, [(0, .ref 222), (1, .int a1)], [], (_, _)) _
  refine At.enter rfl ?_
  refine r_aload_n rfl ?_
  obtain ⟨v41, hv41⟩ : ∃ v, gI g0 222 2 = v := ⟨_, rfl⟩
  refine q_getI (Sh.int hI0.1 kx_222 rfl) v41 hv41 ?_
  refine r_ifs 7 rfl (fun c42 => ?_) (fun c42 => ?_)
  · have c42_ : v41.toInt ≠ 0 := en_k_ne_t c42
    refine At.enter rfl ?_
    refine r_iload_n rfl ?_
    refine r_ifs 20 rfl (fun c43 => ?_) (fun c43 => ?_)
    · have c43_ : a1.toInt ≠ 0 := en_k_ne_t c43
      refine At.enter rfl ?_
      refine r_iload_n rfl ?_
      refine r_iconst 1 rfl ?_
      refine r_ics 32 rfl (fun c44 => ?_) (fun c44 => ?_)
      · have c44_ : a1.toInt ≠ 1 := en_i_ne_t c44
        refine At.enter rfl ?_
        refine r_aload_n rfl ?_
        obtain ⟨v45, hv45⟩ : ∃ v, gI g0 222 5 = v := ⟨_, rfl⟩
        refine q_getI (Sh.int hI0.1 kx_222 rfl) v45 hv45 ?_
        refine Ar.fall 43 rfl ?_
        refine At.enter rfl ?_
        refine r_ireti ?_
        exact ⟨_, rfl, hI0, hF0, _, rfl, trivial⟩
      · have c44_ : a1.toInt = 1 := en_i_ne_f c44
        refine At.enter rfl ?_
        refine r_aload_n rfl ?_
        obtain ⟨v46, hv46⟩ : ∃ v, gI g0 222 4 = v := ⟨_, rfl⟩
        refine q_getI (Sh.int hI0.1 kx_222 rfl) v46 hv46 ?_
        refine r_goto ?_
        refine At.enter rfl ?_
        refine r_ireti ?_
        exact ⟨_, rfl, hI0, hF0, _, rfl, trivial⟩
    · have c43_ : a1.toInt = 0 := en_k_ne_f c43
      refine At.enter rfl ?_
      refine r_aload_n rfl ?_
      obtain ⟨v47, hv47⟩ : ∃ v, gI g0 222 3 = v := ⟨_, rfl⟩
      refine q_getI (Sh.int hI0.1 kx_222 rfl) v47 hv47 ?_
      refine r_goto ?_
      refine At.enter rfl ?_
      refine r_ireti ?_
      exact ⟨_, rfl, hI0, hF0, _, rfl, trivial⟩
  · have c42_ : v41.toInt = 0 := en_k_ne_f c42
    refine At.enter rfl ?_
    refine r_aload_n rfl ?_
    refine r_iconst 1 rfl ?_
    refine q_putI (Sh.int hI0.1 kx_222 rfl) rfl ?_
    have hI48 := HI.wI0 hI0 kx_222 rfl (p := 222) (b := 2) (v := 1) rfl
    have hF49 := Fr.wI (p := 222) (b := 2) (v := 1) hF0 rfl
    refine r_aload_n rfl ?_
    refine r_callV 16 rfl [.ref 222] [] (Nat.le_of_ble_eq_true rfl) rfl (T_X6_search_222 _ hI48) ?_
    rintro _ _ ⟨g50, rfl, hI51, hF52, rfl⟩
    refine At.stn ?_
    have hF55 := Fr.tr hF49 hF52 rfl rfl
    refine At.enter rfl ?_
    refine r_iload_n rfl ?_
    refine r_ifs 20 rfl (fun c56 => ?_) (fun c56 => ?_)
    · have c56_ : a1.toInt ≠ 0 := en_k_ne_t c56
      refine At.enter rfl ?_
      refine r_iload_n rfl ?_
      refine r_iconst 1 rfl ?_
      refine r_ics 32 rfl (fun c57 => ?_) (fun c57 => ?_)
      · have c57_ : a1.toInt ≠ 1 := en_i_ne_t c57
        refine At.enter rfl ?_
        refine r_aload_n rfl ?_
        obtain ⟨v58, hv58⟩ : ∃ v, gI g50 222 5 = v := ⟨_, rfl⟩
        refine q_getI (Sh.int hI51.1 kx_222 rfl) v58 hv58 ?_
        refine Ar.fall 43 rfl ?_
        refine At.enter rfl ?_
        refine r_ireti ?_
        exact ⟨_, rfl, hI51, hF55, _, rfl, trivial⟩
      · have c57_ : a1.toInt = 1 := en_i_ne_f c57
        refine At.enter rfl ?_
        refine r_aload_n rfl ?_
        obtain ⟨v59, hv59⟩ : ∃ v, gI g50 222 4 = v := ⟨_, rfl⟩
        refine q_getI (Sh.int hI51.1 kx_222 rfl) v59 hv59 ?_
        refine r_goto ?_
        refine At.enter rfl ?_
        refine r_ireti ?_
        exact ⟨_, rfl, hI51, hF55, _, rfl, trivial⟩
    · have c56_ : a1.toInt = 0 := en_k_ne_f c56
      refine At.enter rfl ?_
      refine r_aload_n rfl ?_
      obtain ⟨v60, hv60⟩ : ∃ v, gI g50 222 3 = v := ⟨_, rfl⟩
      refine q_getI (Sh.int hI51.1 kx_222 rfl) v60 hv60 ?_
      refine r_goto ?_
      refine At.enter rfl ?_
      refine r_ireti ?_
      exact ⟨_, rfl, hI51, hF55, _, rfl, trivial⟩

def F_X7_found_220 : List (Nat × Nat) := [(220, 4)]
def A_X7_found_220 : List Nat := [221]
set_option maxRecDepth 100000 in
set_option maxHeartbeats 4000000 in
theorem T_X7_found_220 (d : Nat) {N : Nat} {g0 : List en_E} (hI0 : HI g0) (a1 : Int32) (a2 : Int32) (a3 : Int32) (a4 : Int32) (a5 : Int32) (h_a5 : 0 ≤ a5.toInt ∧ a5.toInt ≤ 3) : Ev (d + 1) 91 [.ref 220, .int a1, .int a2, .int a3, .int a4, .int a5] (g0, N) (fun w h' => ∃ g', h' = (g', N) ∧ HI g' ∧ Fr F_X7_found_220 A_X7_found_220 g0 g' ∧ w = none) := by
  have hF0 : Fr F_X7_found_220 A_X7_found_220 g0 g0 := Fr.rf
  refine Ev.mk rfl rfl ⟨Nat.le_of_ble_eq_true rfl, Or.inr (q_rc hI0.1 kx_220 rfl)⟩ ?_
  show At _ none _ _ (0, [(0, .ref 220), (1, .int a1), (2, .int a2), (3, .int a3), (4, .int a4), (5, .int a5)], [], (_, _)) _
  refine At.enter rfl ?_
  refine r_aload_n rfl ?_
  obtain ⟨v33, hv33⟩ : ∃ v, gI g0 220 4 = v := ⟨_, rfl⟩
  refine q_getI (Sh.int hI0.1 kx_220 rfl) v33 hv33 ?_
  refine r_ifs 7 rfl (fun c34 => ?_) (fun c34 => ?_)
  · have c34_ : v33.toInt ≠ 0 := en_k_ne_t c34
    refine At.enter rfl ?_
    refine r_aload_n rfl ?_
    refine r_dup rfl ?_
    refine q_getI (Sh.int hI0.1 kx_220 rfl) v33 hv33 ?_
    refine r_iload rfl ?_
    refine q_iaddO (fun v35 _ => ?_)
    refine q_putI (Sh.int hI0.1 kx_220 rfl) rfl ?_
    have hI36 := HI.wI0 hI0 kx_220 rfl (p := 220) (b := 4) (v := v35) rfl
    have hF37 := Fr.wI (p := 220) (b := 4) (v := v35) hF0 rfl
    refine r_vret ?_
    exact ⟨_, rfl, hI36, hF37, rfl⟩
  · have c34_ : v33.toInt = 0 := en_k_ne_f c34
    refine At.enter rfl ?_
    refine r_aload_n rfl ?_
    refine q_getR (Sh.ref hI0.1 kx_220 rfl) ?_
    refine r_iconst 0 rfl ?_
    refine r_iload_n rfl ?_
    refine q_iast (Sh.arr hI0.1 ka_221) (0) rfl (by decide) ?_
    have hI38 := HI.wA0 hI0 ka_221 (p := 221) rfl rfl (0) (a1)
    have hF39 := Fr.wA (p := 221) (j := 0) (v := a1) hF0 rfl
    refine r_aload_n rfl ?_
    refine q_getR (Sh.ref hI38.1 kx_220 rfl) ?_
    refine r_iconst 1 rfl ?_
    refine r_iload_n rfl ?_
    refine q_iast (Sh.arr hI38.1 ka_221) (1) rfl (by decide) ?_
    have hI40 := HI.wA0 hI38 ka_221 (p := 221) rfl rfl (1) (a2)
    have hF41 := Fr.wA (p := 221) (j := 1) (v := a2) hF39 rfl
    refine r_aload_n rfl ?_
    refine q_getR (Sh.ref hI40.1 kx_220 rfl) ?_
    refine r_iconst 2 rfl ?_
    refine r_iload_n rfl ?_
    refine q_iast (Sh.arr hI40.1 ka_221) (2) rfl (by decide) ?_
    have hI42 := HI.wA0 hI40 ka_221 (p := 221) rfl rfl (2) (a3)
    have hF43 := Fr.wA (p := 221) (j := 2) (v := a3) hF41 rfl
    refine r_aload_n rfl ?_
    refine q_getR (Sh.ref hI42.1 kx_220 rfl) ?_
    refine r_iconst 3 rfl ?_
    refine r_iload rfl ?_
    refine q_iast (Sh.arr hI42.1 ka_221) (3) rfl (by decide) ?_
    have hI44 := HI.wA0 hI42 ka_221 (p := 221) rfl rfl (3) (a4)
    have hF45 := Fr.wA (p := 221) (j := 3) (v := a4) hF43 rfl
    refine Ar.fall 36 rfl ?_
    refine At.enter rfl ?_
    refine r_aload_n rfl ?_
    refine r_dup rfl ?_
    refine q_getI (Sh.int hI44.1 kx_220 rfl) v33 (((gI_sW).trans ((gI_sW).trans ((gI_sW).trans (gI_sW)))).trans hv33) ?_
    refine r_iload rfl ?_
    refine q_iadd (v33.toInt + a5.toInt) rfl (by omega) (fun v46 hv46 => ?_)
    refine q_putI (Sh.int hI44.1 kx_220 rfl) rfl ?_
    have hI47 := HI.wI0 hI44 kx_220 rfl (p := 220) (b := 4) (v := v46) rfl
    have hF48 := Fr.wI (p := 220) (b := 4) (v := v46) hF45 rfl
    refine r_vret ?_
    exact ⟨_, rfl, hI47, hF48, rfl⟩

def F_X7_change_220 : List (Nat × Nat) := []
def A_X7_change_220 : List Nat := [205, 206]
set_option maxRecDepth 100000 in
set_option maxHeartbeats 4000000 in
theorem T_X7_change_220 (d : Nat) {N : Nat} {g0 : List en_E} (hI0 : HI g0) (a1 : Int32) (h_a1 : 0 ≤ a1.toInt ∧ a1.toInt ≤ 11) (a2 : Int32) (h_a2 : 0 ≤ a2.toInt ∧ a2.toInt ≤ 11) : Ev (d + 2) 90 [.ref 220, .int a1, .int a2] (g0, N) (fun w h' => ∃ g', h' = (g', N) ∧ HI g' ∧ Fr F_X7_change_220 A_X7_change_220 g0 g' ∧ w = none) := by
  have hF0 : Fr F_X7_change_220 A_X7_change_220 g0 g0 := Fr.rf
  refine Ev.mk rfl rfl ⟨Nat.le_of_ble_eq_true rfl, Or.inr (q_rc hI0.1 kx_220 rfl)⟩ ?_
  show At _ none _ _ (0, [(0, .ref 220), (1, .int a1), (2, .int a2)], [], (_, _)) _
  refine At.enter rfl ?_
  refine r_aload_n rfl ?_
  refine q_getR (Sh.ref hI0.1 kx_220 rfl) ?_
  refine q_getR (Sh.ref hI0.1 kx_204 rfl) ?_
  refine r_iload_n rfl ?_
  refine r_iload_n rfl ?_
  refine q_inlS 12 rfl [.ref 205, .int a1, .int a2] [] (Nat.le_of_ble_eq_true rfl) rfl ?_
  refine Ev.mk rfl rfl ⟨Nat.le_of_ble_eq_true rfl, Or.inl rfl⟩ ?_
  show At _ none _ _ (0, [(0, .ref 205), (1, .int a1), (2, .int a2)], [], (_, _)) _
  refine At.enter rfl ?_
  refine r_aload_n rfl ?_
  refine r_iload_n rfl ?_
  obtain ⟨v25, hv25⟩ : ∃ v, eA g0 205 a1.toInt = v := ⟨_, rfl⟩
  refine q_iald (Sh.arr hI0.1 ka_205) a1.toInt rfl (by omega) v25 hv25 ?_
  refine r_istore_n ([(3, .int v25), (0, .ref 205), (1, .int a1), (2, .int a2)]) rfl ?_
  refine r_aload_n rfl ?_
  refine r_iload_n rfl ?_
  refine r_aload_n rfl ?_
  refine r_iload_n rfl ?_
  obtain ⟨v26, hv26⟩ : ∃ v, eA g0 205 a2.toInt = v := ⟨_, rfl⟩
  refine q_iald (Sh.arr hI0.1 ka_205) a2.toInt rfl (by omega) v26 hv26 ?_
  refine q_iast (Sh.arr hI0.1 ka_205) (a1.toInt) rfl (by omega) ?_
  have hI27 := HI.wA0 hI0 ka_205 (p := 205) rfl rfl (a1.toInt) (v26)
  have hF28 := Fr.wA (p := 205) (j := a1.toInt) (v := v26) hF0 rfl
  refine r_aload_n rfl ?_
  refine r_iload_n rfl ?_
  refine r_iload_n rfl ?_
  refine q_iast (Sh.arr hI27.1 ka_205) (a2.toInt) rfl (by omega) ?_
  have hI29 := HI.wA0 hI27 ka_205 (p := 205) rfl rfl (a2.toInt) (v25)
  have hF30 := Fr.wA (p := 205) (j := a2.toInt) (v := v25) hF28 rfl
  refine q_vret ?_
  refine At.enter rfl ?_
  refine r_aload_n rfl ?_
  refine q_getR (Sh.ref hI29.1 kx_220 rfl) ?_
  refine q_getR (Sh.ref hI29.1 kx_204 rfl) ?_
  refine r_iload_n rfl ?_
  refine r_iload_n rfl ?_
  refine q_inlS 24 rfl [.ref 206, .int a1, .int a2] [] (Nat.le_of_ble_eq_true rfl) rfl ?_
  refine Ev.mk rfl rfl ⟨Nat.le_of_ble_eq_true rfl, Or.inl rfl⟩ ?_
  show At _ none _ _ (0, [(0, .ref 206), (1, .int a1), (2, .int a2)], [], (_, _)) _
  refine At.enter rfl ?_
  refine r_aload_n rfl ?_
  refine r_iload_n rfl ?_
  obtain ⟨v31, hv31⟩ : ∃ v, eA g0 206 a1.toInt = v := ⟨_, rfl⟩
  refine q_iald (Sh.arr hI29.1 ka_206) a1.toInt rfl (by omega) v31 ((eA_c ((gA_sA_ne (by decide)).trans (gA_sA_ne (by decide)))).trans hv31) ?_
  refine r_istore_n ([(3, .int v31), (0, .ref 206), (1, .int a1), (2, .int a2)]) rfl ?_
  refine r_aload_n rfl ?_
  refine r_iload_n rfl ?_
  refine r_aload_n rfl ?_
  refine r_iload_n rfl ?_
  obtain ⟨v32, hv32⟩ : ∃ v, eA g0 206 a2.toInt = v := ⟨_, rfl⟩
  refine q_iald (Sh.arr hI29.1 ka_206) a2.toInt rfl (by omega) v32 ((eA_c ((gA_sA_ne (by decide)).trans (gA_sA_ne (by decide)))).trans hv32) ?_
  refine q_iast (Sh.arr hI29.1 ka_206) (a1.toInt) rfl (by omega) ?_
  have hI33 := HI.wA0 hI29 ka_206 (p := 206) rfl rfl (a1.toInt) (v32)
  have hF34 := Fr.wA (p := 206) (j := a1.toInt) (v := v32) hF30 rfl
  refine r_aload_n rfl ?_
  refine r_iload_n rfl ?_
  refine r_iload_n rfl ?_
  refine q_iast (Sh.arr hI33.1 ka_206) (a2.toInt) rfl (by omega) ?_
  have hI35 := HI.wA0 hI33 ka_206 (p := 206) rfl rfl (a2.toInt) (v31)
  have hF36 := Fr.wA (p := 206) (j := a2.toInt) (v := v31) hF34 rfl
  refine q_vret ?_
  refine At.enter rfl ?_
  refine r_vret ?_
  exact ⟨_, rfl, hI35, hF36, rfl⟩

def F_X7_rowsLike : List (Nat × Nat) := []
def A_X7_rowsLike : List Nat := []
set_option maxRecDepth 100000 in
set_option maxHeartbeats 4000000 in
theorem T_X7_rowsLike (d : Nat) {N : Nat} {g0 : List en_E} (hI0 : HI g0) (a0 : Int32) (a1 : Int32) (a2 : Int32) (a3 : Int32) : Ev (d + 1) 89 [.int a0, .int a1, .int a2, .int a3] (g0, N) (fun w h' => ∃ g', h' = (g', N) ∧ HI g' ∧ Fr F_X7_rowsLike A_X7_rowsLike g0 g' ∧ ∃ r : Int32, w = some (.int r) ∧ (0 ≤ r.toInt ∧ r.toInt ≤ 3)) := by
  have hF0 : Fr F_X7_rowsLike A_X7_rowsLike g0 g0 := Fr.rf
  refine Ev.mk rfl rfl ⟨Nat.le_of_ble_eq_true rfl, Or.inl rfl⟩ ?_
  show At _ none _ _ (0, [(0, .int a0), (1, .int a1), (2, .int a2), (3, .int a3)], [], (_, _)) _
  refine At.enter rfl ?_
  refine r_iload_n rfl ?_
  refine r_iload_n rfl ?_
  refine r_ics 5 rfl (fun c19 => ?_) (fun c19 => ?_)
  · have c19_ : a2.toInt ≠ a0.toInt := en_i_ne_t c19
    refine At.enter rfl ?_
    refine r_iload_n rfl ?_
    refine r_iload_n rfl ?_
    refine r_ics 21 rfl (fun c20 => ?_) (fun c20 => ?_)
    · have c20_ : a2.toInt ≠ a1.toInt := en_i_ne_t c20
      refine At.enter rfl ?_
      refine r_iload_n rfl ?_
      refine r_iload_n rfl ?_
      refine r_ics 28 rfl (fun c21 => ?_) (fun c21 => ?_)
      · have c21_ : a3.toInt ≠ a1.toInt := en_i_ne_t c21
        refine At.enter rfl ?_
        refine r_iload_n rfl ?_
        refine r_iload_n rfl ?_
        have bv23 := q_bnd a2
        have bv24 := q_bnd a0
        refine r_ics 37 rfl (fun c22 => ?_) (fun c22 => ?_)
        · have c22_ : a2.toInt ≤ a0.toInt := en_i_le_t c22
          refine At.enter rfl ?_
          refine r_iconst 0 rfl ?_
          refine Ar.fall 42 rfl ?_
          refine At.enter rfl ?_
          refine r_ireti ?_
          exact ⟨_, rfl, hI0, hF0, _, rfl, by decide⟩
        · have c22_ : a2.toInt > a0.toInt := en_i_le_f c22
          refine At.enter rfl ?_
          refine r_iconst 2 rfl ?_
          refine r_goto ?_
          refine At.enter rfl ?_
          refine r_ireti ?_
          exact ⟨_, rfl, hI0, hF0, _, rfl, by decide⟩
      · have c21_ : a3.toInt = a1.toInt := en_i_ne_f c21
        refine At.enter rfl ?_
        refine r_iconst 0 rfl ?_
        refine r_goto ?_
        refine At.enter rfl ?_
        refine r_ireti ?_
        exact ⟨_, rfl, hI0, hF0, _, rfl, by decide⟩
    · have c20_ : a2.toInt = a1.toInt := en_i_ne_f c20
      refine At.enter rfl ?_
      refine r_iconst 3 rfl ?_
      refine r_ireti ?_
      exact ⟨_, rfl, hI0, hF0, _, rfl, by decide⟩
  · have c19_ : a2.toInt = a0.toInt := en_i_ne_f c19
    refine At.enter rfl ?_
    refine r_iload_n rfl ?_
    refine r_iload_n rfl ?_
    have bv26 := q_bnd a3
    have bv27 := q_bnd a1
    refine r_ics 10 rfl (fun c25 => ?_) (fun c25 => ?_)
    · have c25_ : a3.toInt ≤ a1.toInt := en_i_le_t c25
      refine At.enter rfl ?_
      refine r_iconst 0 rfl ?_
      refine Ar.fall 15 rfl ?_
      refine At.enter rfl ?_
      refine r_ireti ?_
      exact ⟨_, rfl, hI0, hF0, _, rfl, by decide⟩
    · have c25_ : a3.toInt > a1.toInt := en_i_le_f c25
      refine At.enter rfl ?_
      refine r_iconst 3 rfl ?_
      refine r_goto ?_
      refine At.enter rfl ?_
      refine r_ireti ?_
      exact ⟨_, rfl, hI0, hF0, _, rfl, by decide⟩
