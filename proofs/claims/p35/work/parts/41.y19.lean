def F_rd : List (Nat × Nat) := [(176, 2), (176, 3), (176, 4), (176, 5), (176, 6), (177, 0), (177, 3), (177, 4)]
def A_rd : List Nat := [178, 179, 180, 181, 182, 183]

def F_X5_joinHere_176 : List (Nat × Nat) := []
def A_X5_joinHere_176 : List Nat := []
set_option maxRecDepth 100000 in
set_option maxHeartbeats 4000000 in
theorem T_X5_joinHere_176 (d : Nat) {N : Nat} {g0 : List en_E} (hI0 : HI g0) (a1 : Int32) : Ev (d + 3) 66 [.ref 176, .int a1] (g0, N) (fun w h' => ∃ g', h' = (g', N) ∧ HI g' ∧ Fr F_X5_joinHere_176 A_X5_joinHere_176 g0 g' ∧ ∃ r : Int32, w = some (.int r) ∧ ((-1) ≤ r.toInt ∧ r.toInt ≤ 11)) := by
  have hF0 : Fr F_X5_joinHere_176 A_X5_joinHere_176 g0 g0 := Fr.rf
  refine Ev.mk rfl rfl ⟨Nat.le_of_ble_eq_true rfl, Or.inr (q_rc hI0.1 kx_176 rfl)⟩ ?_
  show At _ none _ _ (0, [(0, .ref 176), (1, .int a1)], [], (_, _)) _
  refine At.enter rfl ?_
  refine r_iload_n rfl ?_
  by_cases c89_0 : a1.toInt = 0
  · refine r_tsw 28 (by rw [c89_0]; rfl) ?_
    refine At.enter rfl ?_
    refine r_aload_n rfl ?_
    refine r_ldcS (by decide) 15 rfl ?_
    refine r_callV 34 rfl [.ref 176, .float 15] [] (Nat.le_of_ble_eq_true rfl) rfl (T_X5_isWord_176 _ hI0 15 (by decide)) ?_
    rintro _ _ ⟨g90, rfl, hI91, hF92, v93, rfl, hr94⟩
    refine At.sti ?_
    have hF95 := Fr.tr hF0 hF92 rfl rfl
    refine At.enter rfl ?_
    refine r_ifs 37 rfl (fun c96 => ?_) (fun c96 => ?_)
    · have c96_ : v93.toInt = 0 := en_k_eq_t c96
      refine At.enter rfl ?_
      refine r_iconst (-1) rfl ?_
      refine Ar.fall 43 rfl ?_
      refine At.enter rfl ?_
      refine r_ireti ?_
      exact ⟨_, rfl, hI91, hF95, _, rfl, by decide⟩
    · have c96_ : v93.toInt ≠ 0 := en_k_eq_f c96
      refine At.enter rfl ?_
      refine r_bipush 11 rfl ?_
      refine r_goto ?_
      refine At.enter rfl ?_
      refine r_ireti ?_
      exact ⟨_, rfl, hI91, hF95, _, rfl, by decide⟩
  by_cases c89_1 : a1.toInt = 1
  · refine r_tsw 44 (by rw [c89_1]; rfl) ?_
    refine At.enter rfl ?_
    refine r_aload_n rfl ?_
    refine r_ldcS (by decide) 16 rfl ?_
    refine r_callV 50 rfl [.ref 176, .float 16] [] (Nat.le_of_ble_eq_true rfl) rfl (T_X5_isWord_176 _ hI0 16 (by decide)) ?_
    rintro _ _ ⟨g97, rfl, hI98, hF99, v100, rfl, hr101⟩
    refine At.sti ?_
    have hF102 := Fr.tr hF0 hF99 rfl rfl
    refine At.enter rfl ?_
    refine r_ifs 53 rfl (fun c103 => ?_) (fun c103 => ?_)
    · have c103_ : v100.toInt = 0 := en_k_eq_t c103
      refine At.enter rfl ?_
      refine r_iconst (-1) rfl ?_
      refine Ar.fall 59 rfl ?_
      refine At.enter rfl ?_
      refine r_ireti ?_
      exact ⟨_, rfl, hI98, hF102, _, rfl, by decide⟩
    · have c103_ : v100.toInt ≠ 0 := en_k_eq_f c103
      refine At.enter rfl ?_
      refine r_bipush 10 rfl ?_
      refine r_goto ?_
      refine At.enter rfl ?_
      refine r_ireti ?_
      exact ⟨_, rfl, hI98, hF102, _, rfl, by decide⟩
  by_cases c89_2 : a1.toInt = 2
  · refine r_tsw 60 (by rw [c89_2]; rfl) ?_
    refine At.enter rfl ?_
    refine r_aload_n rfl ?_
    refine r_bipush 43 rfl ?_
    refine r_callV 66 rfl [.ref 176, .int 43] [] (Nat.le_of_ble_eq_true rfl) rfl (T_X5_isSingle_176 _ hI0 43) ?_
    rintro _ _ ⟨g104, rfl, hI105, hF106, v107, rfl, hr108⟩
    refine At.sti ?_
    have hF109 := Fr.tr hF0 hF106 rfl rfl
    refine At.enter rfl ?_
    refine r_ifs 69 rfl (fun c110 => ?_) (fun c110 => ?_)
    · have c110_ : v107.toInt = 0 := en_k_eq_t c110
      refine At.enter rfl ?_
      refine r_aload_n rfl ?_
      refine r_bipush 45 rfl ?_
      refine r_callV 79 rfl [.ref 176, .int 45] [] (Nat.le_of_ble_eq_true rfl) rfl (T_X5_isSingle_176 _ hI105 45) ?_
      rintro _ _ ⟨g111, rfl, hI112, hF113, v114, rfl, hr115⟩
      refine At.sti ?_
      have hF116 := Fr.tr hF109 hF113 rfl rfl
      refine At.enter rfl ?_
      refine r_ifs 82 rfl (fun c117 => ?_) (fun c117 => ?_)
      · have c117_ : v114.toInt = 0 := en_k_eq_t c117
        refine At.enter rfl ?_
        refine r_iconst (-1) rfl ?_
        refine Ar.fall 87 rfl ?_
        refine At.enter rfl ?_
        refine r_ireti ?_
        exact ⟨_, rfl, hI112, hF116, _, rfl, by decide⟩
      · have c117_ : v114.toInt ≠ 0 := en_k_eq_f c117
        refine At.enter rfl ?_
        refine r_iconst 3 rfl ?_
        refine r_goto ?_
        refine At.enter rfl ?_
        refine r_ireti ?_
        exact ⟨_, rfl, hI112, hF116, _, rfl, by decide⟩
    · have c110_ : v107.toInt ≠ 0 := en_k_eq_f c110
      refine At.enter rfl ?_
      refine r_iconst 2 rfl ?_
      refine r_goto ?_
      refine At.enter rfl ?_
      refine r_ireti ?_
      exact ⟨_, rfl, hI105, hF109, _, rfl, by decide⟩
  have c118 : a1.toInt < 0 ∨ 2 < a1.toInt := by omega
  refine r_tsw 88 (by unfold en_sw; rw [if_pos c118]; rfl) ?_
  refine At.enter rfl ?_
  refine r_aload_n rfl ?_
  refine r_bipush 42 rfl ?_
  refine r_callV 94 rfl [.ref 176, .int 42] [] (Nat.le_of_ble_eq_true rfl) rfl (T_X5_isSingle_176 _ hI0 42) ?_
  rintro _ _ ⟨g119, rfl, hI120, hF121, v122, rfl, hr123⟩
  refine At.sti ?_
  have hF124 := Fr.tr hF0 hF121 rfl rfl
  refine At.enter rfl ?_
  refine r_ifs 97 rfl (fun c125 => ?_) (fun c125 => ?_)
  · have c125_ : v122.toInt = 0 := en_k_eq_t c125
    refine At.enter rfl ?_
    refine r_aload_n rfl ?_
    refine r_bipush 47 rfl ?_
    refine r_callV 107 rfl [.ref 176, .int 47] [] (Nat.le_of_ble_eq_true rfl) rfl (T_X5_isSingle_176 _ hI120 47) ?_
    rintro _ _ ⟨g126, rfl, hI127, hF128, v129, rfl, hr130⟩
    refine At.sti ?_
    have hF131 := Fr.tr hF124 hF128 rfl rfl
    refine At.enter rfl ?_
    refine r_ifs 110 rfl (fun c132 => ?_) (fun c132 => ?_)
    · have c132_ : v129.toInt = 0 := en_k_eq_t c132
      refine At.enter rfl ?_
      refine r_iconst (-1) rfl ?_
      refine Ar.fall 115 rfl ?_
      refine At.enter rfl ?_
      refine r_ireti ?_
      exact ⟨_, rfl, hI127, hF131, _, rfl, by decide⟩
    · have c132_ : v129.toInt ≠ 0 := en_k_eq_f c132
      refine At.enter rfl ?_
      refine r_iconst 5 rfl ?_
      refine r_goto ?_
      refine At.enter rfl ?_
      refine r_ireti ?_
      exact ⟨_, rfl, hI127, hF131, _, rfl, by decide⟩
  · have c125_ : v122.toInt ≠ 0 := en_k_eq_f c125
    refine At.enter rfl ?_
    refine r_iconst 4 rfl ?_
    refine r_goto ?_
    refine At.enter rfl ?_
    refine r_ireti ?_
    exact ⟨_, rfl, hI120, hF124, _, rfl, by decide⟩

def F_X5_comparisonHere_176 : List (Nat × Nat) := []
def A_X5_comparisonHere_176 : List Nat := []
set_option maxRecDepth 100000 in
set_option maxHeartbeats 4000000 in
theorem T_X5_comparisonHere_176 (d : Nat) {N : Nat} {g0 : List en_E} (hI0 : HI g0) : Ev (d + 3) 68 [.ref 176] (g0, N) (fun w h' => ∃ g', h' = (g', N) ∧ HI g' ∧ Fr F_X5_comparisonHere_176 A_X5_comparisonHere_176 g0 g' ∧ ∃ r : Int32, w = some (.int r) ∧ ((-1) ≤ r.toInt ∧ r.toInt ≤ 8)) := by
  have hF0 : Fr F_X5_comparisonHere_176 A_X5_comparisonHere_176 g0 g0 := Fr.rf
  refine Ev.mk rfl rfl ⟨Nat.le_of_ble_eq_true rfl, Or.inr (q_rc hI0.1 kx_176 rfl)⟩ ?_
  show At _ none _ _ (0, [(0, .ref 176)], [], (_, _)) _
  refine At.enter rfl ?_
  refine r_aload_n rfl ?_
  refine r_bipush 60 rfl ?_
  refine r_callV 6 rfl [.ref 176, .int 60] [] (Nat.le_of_ble_eq_true rfl) rfl (T_X5_isSingle_176 _ hI0 60) ?_
  rintro _ _ ⟨g43, rfl, hI44, hF45, v46, rfl, hr47⟩
  refine At.sti ?_
  have hF48 := Fr.tr hF0 hF45 rfl rfl
  refine At.enter rfl ?_
  refine r_ifs 9 rfl (fun c49 => ?_) (fun c49 => ?_)
  · have c49_ : v46.toInt = 0 := en_k_eq_t c49
    refine At.enter rfl ?_
    refine r_aload_n rfl ?_
    refine r_bipush 62 rfl ?_
    refine r_callV 20 rfl [.ref 176, .int 62] [] (Nat.le_of_ble_eq_true rfl) rfl (T_X5_isSingle_176 _ hI44 62) ?_
    rintro _ _ ⟨g50, rfl, hI51, hF52, v53, rfl, hr54⟩
    refine At.sti ?_
    have hF55 := Fr.tr hF48 hF52 rfl rfl
    refine At.enter rfl ?_
    refine r_ifs 23 rfl (fun c56 => ?_) (fun c56 => ?_)
    · have c56_ : v53.toInt = 0 := en_k_eq_t c56
      refine At.enter rfl ?_
      refine r_aload_n rfl ?_
      refine r_bipush 61 rfl ?_
      refine r_callV 34 rfl [.ref 176, .int 61] [] (Nat.le_of_ble_eq_true rfl) rfl (T_X5_isSingle_176 _ hI51 61) ?_
      rintro _ _ ⟨g57, rfl, hI58, hF59, v60, rfl, hr61⟩
      refine At.sti ?_
      have hF62 := Fr.tr hF55 hF59 rfl rfl
      refine At.enter rfl ?_
      refine r_ifs 37 rfl (fun c63 => ?_) (fun c63 => ?_)
      · have c63_ : v60.toInt = 0 := en_k_eq_t c63
        refine At.enter rfl ?_
        refine r_iconst (-1) rfl ?_
        refine Ar.fall 43 rfl ?_
        refine At.enter rfl ?_
        refine r_ireti ?_
        exact ⟨_, rfl, hI58, hF62, _, rfl, by decide⟩
      · have c63_ : v60.toInt ≠ 0 := en_k_eq_f c63
        refine At.enter rfl ?_
        refine r_bipush 8 rfl ?_
        refine r_goto ?_
        refine At.enter rfl ?_
        refine r_ireti ?_
        exact ⟨_, rfl, hI58, hF62, _, rfl, by decide⟩
    · have c56_ : v53.toInt ≠ 0 := en_k_eq_f c56
      refine At.enter rfl ?_
      refine r_bipush 7 rfl ?_
      refine r_goto ?_
      refine At.enter rfl ?_
      refine r_ireti ?_
      exact ⟨_, rfl, hI51, hF55, _, rfl, by decide⟩
  · have c49_ : v46.toInt ≠ 0 := en_k_eq_f c49
    refine At.enter rfl ?_
    refine r_bipush 6 rfl ?_
    refine r_goto ?_
    refine At.enter rfl ?_
    refine r_ireti ?_
    exact ⟨_, rfl, hI44, hF48, _, rfl, by decide⟩

def F_X5_expect_176 : List (Nat × Nat) := [(176, 2), (176, 3), (176, 4), (176, 5)]
def A_X5_expect_176 : List Nat := []
set_option maxRecDepth 100000 in
set_option maxHeartbeats 4000000 in
theorem T_X5_expect_176 (d : Nat) {N : Nat} {g0 : List en_E} (hI0 : HI g0) (a1 : Int32) : Ev (d + 3) 71 [.ref 176, .int a1] (g0, N) (fun w h' => ∃ g', h' = (g', N) ∧ HI g' ∧ Fr F_X5_expect_176 A_X5_expect_176 g0 g' ∧ w = none) := by
  have hF0 : Fr F_X5_expect_176 A_X5_expect_176 g0 g0 := Fr.rf
  refine Ev.mk rfl rfl ⟨Nat.le_of_ble_eq_true rfl, Or.inr (q_rc hI0.1 kx_176 rfl)⟩ ?_
  show At _ none _ _ (0, [(0, .ref 176), (1, .int a1)], [], (_, _)) _
  refine At.enter rfl ?_
  refine r_aload_n rfl ?_
  refine r_iload_n rfl ?_
  refine r_callV 5 rfl [.ref 176, .int a1] [] (Nat.le_of_ble_eq_true rfl) rfl (T_X5_isSingle_176 _ hI0 a1) ?_
  rintro _ _ ⟨g37, rfl, hI38, hF39, v40, rfl, hr41⟩
  refine At.sti ?_
  have hF42 := Fr.tr hF0 hF39 rfl rfl
  refine At.enter rfl ?_
  refine r_ifs 8 rfl (fun c43 => ?_) (fun c43 => ?_)
  · have c43_ : v40.toInt = 0 := en_k_eq_t c43
    refine At.enter rfl ?_
    refine r_aload_n rfl ?_
    refine q_inlV 19 rfl [.ref 176] [] (Nat.le_of_ble_eq_true rfl) rfl ?_
    refine Ev.mk rfl rfl ⟨Nat.le_of_ble_eq_true rfl, Or.inr (q_rc hI38.1 kx_176 rfl)⟩ ?_
    show At _ none _ _ (0, [(0, .ref 176)], [], (_, _)) _
    refine At.enter rfl ?_
    refine r_aload_n rfl ?_
    obtain ⟨v44, hv44⟩ : ∃ v, gI g0 176 2 = v := ⟨_, rfl⟩
    refine q_getI (Sh.int hI38.1 kx_176 rfl) v44 ((hF39.1 176 2 (by decide)).trans hv44) ?_
    refine r_iconst (-1) rfl ?_
    refine r_ics 8 rfl (fun c45 => ?_) (fun c45 => ?_)
    · have c45_ : v44.toInt ≠ (-1) := en_i_ne_t c45
      refine At.enter rfl ?_
      refine q_vret ?_
      refine At.enter rfl ?_
      refine r_vret ?_
      exact ⟨_, rfl, hI38, hF42, rfl⟩
    · have c45_ : v44.toInt = (-1) := en_i_ne_f c45
      refine At.enter rfl ?_
      refine r_aload_n rfl ?_
      refine r_aload_n rfl ?_
      obtain ⟨v46, hv46⟩ : ∃ v, gI g0 176 4 = v := ⟨_, rfl⟩
      have rv46 := RgF.at hI0.2.1 (p := 176) (b := 4) rfl
      rw [hv46] at rv46
      dsimp only at rv46
      refine q_getI (Sh.int hI38.1 kx_176 rfl) v46 ((hF39.1 176 4 (by decide)).trans hv46) ?_
      refine q_putI (Sh.int hI38.1 kx_176 rfl) rfl ?_
      have hI47 := HI.wI0 hI38 kx_176 rfl (p := 176) (b := 2) (v := v46) rfl
      have hF48 := Fr.wI (p := 176) (b := 2) (v := v46) hF42 rfl
      refine Ar.fall 16 rfl ?_
      refine At.enter rfl ?_
      refine q_vret ?_
      refine At.enter rfl ?_
      refine r_vret ?_
      exact ⟨_, rfl, hI47, hF48, rfl⟩
  · have c43_ : v40.toInt ≠ 0 := en_k_eq_f c43
    refine At.enter rfl ?_
    refine r_aload_n rfl ?_
    refine r_callV 12 rfl [.ref 176] [] (Nat.le_of_ble_eq_true rfl) rfl (T_X5_step_176 _ hI38) ?_
    rintro _ _ ⟨g49, rfl, hI50, hF51, rfl⟩
    refine At.stn ?_
    have hF54 := Fr.tr hF42 hF51 rfl rfl
    refine At.enter rfl ?_
    refine r_goto ?_
    refine At.enter rfl ?_
    refine r_vret ?_
    exact ⟨_, rfl, hI50, hF54, rfl⟩

def QJ (n : Nat) : Prop := ∀ e : Nat, 4 * n + 20 ≤ e → ∀ {N : Nat} {g0 : List en_E}, HI g0 → ∀ (a1 : Int32) (h_a1 : 0 ≤ a1.toInt ∧ a1.toInt ≤ 3) (a2 : Int32) (h_a2 : 0 ≤ a2.toInt ∧ a2.toInt ≤ 8), 10 * (9 - a2.toInt) + (8 - 2 * a1.toInt) ≤ (n : Int) → Ev e 65 [.ref 176, .int a1, .int a2] (g0, N) (fun w h' => ∃ g', h' = (g', N) ∧ HI g' ∧ Fr F_rd A_rd g0 g' ∧ w = none)
def QP (n : Nat) : Prop := ∀ e : Nat, 4 * n + 20 ≤ e → ∀ {N : Nat} {g0 : List en_E}, HI g0 → ∀ (a1 : Int32) (h_a1 : 0 ≤ a1.toInt ∧ a1.toInt ≤ 8), 10 * (9 - a1.toInt) + 5 ≤ (n : Int) → Ev e 67 [.ref 176, .int a1] (g0, N) (fun w h' => ∃ g', h' = (g', N) ∧ HI g' ∧ Fr F_rd A_rd g0 g' ∧ w = none)
def QT (n : Nat) : Prop := ∀ e : Nat, 4 * n + 20 ≤ e → ∀ {N : Nat} {g0 : List en_E}, HI g0 → ∀ (a1 : Int32) (h_a1 : 0 ≤ a1.toInt ∧ a1.toInt ≤ 8), 10 * (9 - a1.toInt) + 1 ≤ (n : Int) → Ev e 69 [.ref 176, .int a1] (g0, N) (fun w h' => ∃ g', h' = (g', N) ∧ HI g' ∧ Fr F_rd A_rd g0 g' ∧ w = none)

set_option maxRecDepth 100000 in
set_option maxHeartbeats 4000000 in
theorem S_X5_readJoined_176 (n : Nat) (IHJ : QJ n) (IHP : QP n) (IHT : QT n) : QJ (n + 1) := by
  intro e he N g0 hI0 a1 h_a1 a2 h_a2 hm
  obtain ⟨d, rfl⟩ : ∃ d, e = d + 4 := ⟨e - 4, by omega⟩
  have hF0 : Fr F_rd A_rd g0 g0 := Fr.rf
  refine Ev.mk rfl rfl ⟨Nat.le_of_ble_eq_true rfl, Or.inr (q_rc hI0.1 kx_176 rfl)⟩ ?_
  show At _ none _ _ (0, [(0, .ref 176), (1, .int a1), (2, .int a2)], [], (_, _)) _
  refine At.enter rfl ?_
  refine r_iconst (-1) rfl ?_
  refine r_istore_n ([(3, .int (-1)), (0, .ref 176), (1, .int a1), (2, .int a2)]) rfl ?_
  refine r_iconst (-1) rfl ?_
  refine r_istore ([(4, .int (-1)), (3, .int (-1)), (0, .ref 176), (1, .int a1), (2, .int a2)]) rfl ?_
  refine r_iconst 0 rfl ?_
  refine r_istore ([(5, .int 0), (4, .int (-1)), (3, .int (-1)), (0, .ref 176), (1, .int a1), (2, .int a2)]) rfl ?_
  refine Ar.fall 8 rfl ?_
  have z_14003 : ((-1) : Int32).toInt = (-1) := rfl
  have z_14004 : ((-1) : Int32).toInt = (-1) := rfl
  have z_14005 : (0 : Int32).toInt = 0 := rfl
  refine w_loopI (fun n_ l_ g_ => ∃ x13985 : Int32, ∃ x13986 : Int32, ∃ x13987 : Int32, n_ = 400 - x13987.toInt ∧ HI g_ ∧ Fr F_rd A_rd g0 g_ ∧ en_get 0 l_ = some (.ref 176) ∧ en_get 1 l_ = some (.int a1) ∧ en_get 2 l_ = some (.int a2) ∧ en_get 3 l_ = some (.int x13985) ∧ en_get 4 l_ = some (.int x13986) ∧ en_get 5 l_ = some (.int x13987) ∧ ((-1) ≤ x13985.toInt ∧ x13985.toInt ≤ 11) ∧ ((-1) ≤ x13986.toInt ∧ x13986.toInt ≤ 399) ∧ (0 ≤ x13987.toInt ∧ x13987.toInt ≤ 400)) ?_ (400 - 0) ⟨(-1), (-1), 0, by first | rfl | omega, hI0, hF0, rfl, rfl, rfl, rfl, rfl, rfl, by decide, by decide, by decide⟩
  rintro n13992 l13991 g13988 ⟨x13985, x13986, x13987, hm14006, hI13989, hF13990, e13994, e13995, e13996, e13997, e13998, e13999, r14000, r14001, r14002⟩ ih13993
  refine At.enter rfl ?_
  refine r_iload e13999 ?_
  refine r_sipush 400 rfl ?_
  refine r_ics 16 rfl (fun c14007 => ?_) (fun c14007 => ?_)
  · have c14007_ : x13987.toInt ≥ 400 := en_i_ge_t c14007
    refine At.enter rfl ?_
    refine r_vret ?_
    exact ⟨_, rfl, hI13989, hF13990, rfl⟩
  · have c14007_ : x13987.toInt < 400 := en_i_ge_f c14007
    refine At.enter rfl ?_
    refine r_iload_n e13995 ?_
    refine r_iconst 1 rfl ?_
    refine r_ics 21 rfl (fun c14008 => ?_) (fun c14008 => ?_)
    · have c14008_ : a1.toInt ≠ 1 := en_i_ne_t c14008
      refine At.enter rfl ?_
      refine r_iload_n e13995 ?_
      refine r_iconst 3 rfl ?_
      refine r_ics 34 rfl (fun c14009 => ?_) (fun c14009 => ?_)
      · have c14009_ : a1.toInt ≠ 3 := en_i_ne_t c14009
        refine At.enter rfl ?_
        refine r_aload_n e13994 ?_
        refine r_iload_n e13995 ?_
        refine r_iconst 1 rfl ?_
        refine q_iadd (a1.toInt + 1) rfl (by omega) (fun v14010 hv14010 => ?_)
        refine r_iload_n e13996 ?_
        refine r_callV 50 rfl [.ref 176, .int v14010, .int a2] [] (Nat.le_of_ble_eq_true rfl) rfl (IHJ _ (by omega) hI13989 v14010 (by omega) a2 (by omega) (by omega)) ?_
        rintro _ _ ⟨g14011, rfl, hI14012, hF14013, rfl⟩
        refine At.stn ?_
        have hF14016 := Fr.tr hF13990 hF14013 rfl rfl
        refine At.enter rfl ?_
        refine r_iload e13998 ?_
        refine r_iconst (-1) rfl ?_
        refine r_ics 56 rfl (fun c14017 => ?_) (fun c14017 => ?_)
        · have c14017_ : x13986.toInt = (-1) := en_i_eq_t c14017
          refine At.enter rfl ?_
          refine r_iload_n e13997 ?_
          refine r_iconst (-1) rfl ?_
          refine r_ics 73 rfl (fun c14018 => ?_) (fun c14018 => ?_)
          · have c14018_ : x13985.toInt = (-1) := en_i_eq_t c14018
            refine At.enter rfl ?_
            refine r_aload_n e13994 ?_
            obtain ⟨v14019, hv14019⟩ : ∃ v, gI g14011 176 2 = v := ⟨_, rfl⟩
            refine q_getI (Sh.int hI14012.1 kx_176 rfl) v14019 hv14019 ?_
            refine r_iconst (-1) rfl ?_
            refine r_ics 91 rfl (fun c14020 => ?_) (fun c14020 => ?_)
            · have c14020_ : v14019.toInt ≠ (-1) := en_i_ne_t c14020
              refine At.enter rfl ?_
              refine r_iconst (-1) rfl ?_
              refine Ar.fall 100 rfl ?_
              refine At.enter rfl ?_
              refine r_istore_n _ rfl ?_
              refine r_iload_n (w_e1 _ _ _) ?_
              refine r_iconst (-1) rfl ?_
              refine r_icf 106 rfl (by decide) ?_
              refine At.enter rfl ?_
              refine r_vret ?_
              exact ⟨_, rfl, hI14012, hF14016, rfl⟩
            · have c14020_ : v14019.toInt = (-1) := en_i_ne_f c14020
              refine At.enter rfl ?_
              refine r_aload_n e13994 ?_
              refine r_iload_n e13995 ?_
              refine r_callV 96 rfl [.ref 176, .int a1] [] (Nat.le_of_ble_eq_true rfl) rfl (T_X5_joinHere_176 _ hI14012 a1) ?_
              rintro _ _ ⟨g14021, rfl, hI14022, hF14023, v14024, rfl, hr14025⟩
              refine At.sti ?_
              have hF14026 := Fr.tr hF14016 hF14023 rfl rfl
              refine At.enter rfl ?_
              refine r_goto ?_
              refine At.enter rfl ?_
              refine r_istore_n _ rfl ?_
              refine r_iload_n (w_e1 _ _ _) ?_
              refine r_iconst (-1) rfl ?_
              refine r_ics 106 rfl (fun c14027 => ?_) (fun c14027 => ?_)
              · have c14027_ : v14024.toInt ≠ (-1) := en_i_ne_t c14027
                refine At.enter rfl ?_
                refine r_aload_n (w_p1 (by decide) (Or.inr rfl) e13994) ?_
                refine r_callV 111 rfl [.ref 176] [] (Nat.le_of_ble_eq_true rfl) rfl (T_X5_step_176 _ hI14022) ?_
                rintro _ _ ⟨g14028, rfl, hI14029, hF14030, rfl⟩
                refine At.stn ?_
                have hF14033 := Fr.tr hF14026 hF14030 rfl rfl
                refine At.enter rfl ?_
                refine r_iload_n (w_p1 (by decide) (Or.inr rfl) e13995) ?_
                refine r_ifs 115 rfl (fun c14034 => ?_) (fun c14034 => ?_)
                · have c14034_ : a1.toInt = 0 := en_k_eq_t c14034
                  refine At.enter rfl ?_
                  refine r_aload_n (w_p1 (by decide) (Or.inr rfl) e13994) ?_
                  refine q_getR (Sh.ref hI14029.1 kx_176 rfl) ?_
                  refine r_iload_n (w_e1 _ _ _) ?_
                  refine r_iconst 0 rfl ?_
                  refine r_callV 129 rfl [.ref 177, .int v14024, .int 0] [] (Nat.le_of_ble_eq_true rfl) rfl (T_X4_add_177 _ hI14029 v14024 0) ?_
                  rintro _ _ ⟨g14035, rfl, hI14036, hF14037, v14038, rfl, hr14039⟩
                  refine At.sti ?_
                  have hF14040 := Fr.tr hF14033 hF14037 rfl rfl
                  refine At.enter rfl ?_
                  refine r_goto ?_
                  refine At.enter rfl ?_
                  refine r_istore _ rfl ?_
                  refine q_iinc (w_p1 (by decide) (Or.inr rfl) (w_p1 (by decide) (Or.inr rfl) e13999)) (x13987.toInt + 1) rfl (by omega) (fun v14041 hv14041 => ?_)
                  refine r_goto ?_
                  exact ih13993 (400 - v14041.toInt) _ _ ⟨v14024, v14038, v14041, by first | rfl | omega, hI14036, hF14040, (w_p1 (by decide) (Or.inr rfl) (w_p1 (by decide) (Or.inr rfl) (w_p1 (by decide) (Or.inr rfl) e13994))), (w_p1 (by decide) (Or.inr rfl) (w_p1 (by decide) (Or.inr rfl) (w_p1 (by decide) (Or.inr rfl) e13995))), (w_p1 (by decide) (Or.inr rfl) (w_p1 (by decide) (Or.inr rfl) (w_p1 (by decide) (Or.inr rfl) e13996))), (w_p1 (by decide) (Or.inr rfl) (w_p1 (by decide) (Or.inr rfl) (w_e1 _ _ _))), (w_p1 (by decide) (Or.inr rfl) (w_e1 _ _ _)), (w_e1 _ _ _), by omega, by omega, by omega⟩ ⟨by omega, by omega⟩
                · have c14034_ : a1.toInt ≠ 0 := en_k_eq_f c14034
                  refine At.enter rfl ?_
                  refine r_iload_n (w_p1 (by decide) (Or.inr rfl) e13995) ?_
                  refine r_iconst 1 rfl ?_
                  refine r_ics 120 rfl (fun c14042 => ?_) (fun c14042 => ?_)
                  · have c14042_ : a1.toInt ≠ 1 := en_i_ne_t c14042
                    refine At.enter rfl ?_
                    refine r_iconst (-1) rfl ?_
                    refine Ar.fall 133 rfl ?_
                    refine At.enter rfl ?_
                    refine r_istore _ rfl ?_
                    refine q_iinc (w_p1 (by decide) (Or.inr rfl) (w_p1 (by decide) (Or.inr rfl) e13999)) (x13987.toInt + 1) rfl (by omega) (fun v14043 hv14043 => ?_)
                    refine r_goto ?_
                    exact ih13993 (400 - v14043.toInt) _ _ ⟨v14024, (-1), v14043, by first | rfl | omega, hI14029, hF14033, (w_p1 (by decide) (Or.inr rfl) (w_p1 (by decide) (Or.inr rfl) (w_p1 (by decide) (Or.inr rfl) e13994))), (w_p1 (by decide) (Or.inr rfl) (w_p1 (by decide) (Or.inr rfl) (w_p1 (by decide) (Or.inr rfl) e13995))), (w_p1 (by decide) (Or.inr rfl) (w_p1 (by decide) (Or.inr rfl) (w_p1 (by decide) (Or.inr rfl) e13996))), (w_p1 (by decide) (Or.inr rfl) (w_p1 (by decide) (Or.inr rfl) (w_e1 _ _ _))), (w_p1 (by decide) (Or.inr rfl) (w_e1 _ _ _)), (w_e1 _ _ _), by omega, by decide, by omega⟩ ⟨by omega, by omega⟩
                  · have c14042_ : a1.toInt = 1 := en_i_ne_f c14042
                    refine At.enter rfl ?_
                    refine r_aload_n (w_p1 (by decide) (Or.inr rfl) e13994) ?_
                    refine q_getR (Sh.ref hI14029.1 kx_176 rfl) ?_
                    refine r_iload_n (w_e1 _ _ _) ?_
                    refine r_iconst 0 rfl ?_
                    refine r_callV 129 rfl [.ref 177, .int v14024, .int 0] [] (Nat.le_of_ble_eq_true rfl) rfl (T_X4_add_177 _ hI14029 v14024 0) ?_
                    rintro _ _ ⟨g14044, rfl, hI14045, hF14046, v14047, rfl, hr14048⟩
                    refine At.sti ?_
                    have hF14049 := Fr.tr hF14033 hF14046 rfl rfl
                    refine At.enter rfl ?_
                    refine r_goto ?_
                    refine At.enter rfl ?_
                    refine r_istore _ rfl ?_
                    refine q_iinc (w_p1 (by decide) (Or.inr rfl) (w_p1 (by decide) (Or.inr rfl) e13999)) (x13987.toInt + 1) rfl (by omega) (fun v14050 hv14050 => ?_)
                    refine r_goto ?_
                    exact ih13993 (400 - v14050.toInt) _ _ ⟨v14024, v14047, v14050, by first | rfl | omega, hI14045, hF14049, (w_p1 (by decide) (Or.inr rfl) (w_p1 (by decide) (Or.inr rfl) (w_p1 (by decide) (Or.inr rfl) e13994))), (w_p1 (by decide) (Or.inr rfl) (w_p1 (by decide) (Or.inr rfl) (w_p1 (by decide) (Or.inr rfl) e13995))), (w_p1 (by decide) (Or.inr rfl) (w_p1 (by decide) (Or.inr rfl) (w_p1 (by decide) (Or.inr rfl) e13996))), (w_p1 (by decide) (Or.inr rfl) (w_p1 (by decide) (Or.inr rfl) (w_e1 _ _ _))), (w_p1 (by decide) (Or.inr rfl) (w_e1 _ _ _)), (w_e1 _ _ _), by omega, by omega, by omega⟩ ⟨by omega, by omega⟩
              · have c14027_ : v14024.toInt = (-1) := en_i_ne_f c14027
                refine At.enter rfl ?_
                refine r_vret ?_
                exact ⟨_, rfl, hI14022, hF14026, rfl⟩
          · have c14018_ : x13985.toInt ≠ (-1) := en_i_eq_f c14018
            refine At.enter rfl ?_
            refine r_aload_n e13994 ?_
            refine q_getR (Sh.ref hI14012.1 kx_176 rfl) ?_
            refine r_iload_n e13997 ?_
            refine r_iconst 0 rfl ?_
            refine r_callV 82 rfl [.ref 177, .int x13985, .int 0] [] (Nat.le_of_ble_eq_true rfl) rfl (T_X4_add_177 _ hI14012 x13985 0) ?_
            rintro _ _ ⟨g14051, rfl, hI14052, hF14053, v14054, rfl, hr14055⟩
            refine At.sti ?_
            have hF14056 := Fr.tr hF14016 hF14053 rfl rfl
            refine At.enter rfl ?_
            refine r_pop rfl ?_
            refine Ar.fall 83 rfl ?_
            refine At.enter rfl ?_
            refine r_aload_n e13994 ?_
            obtain ⟨v14057, hv14057⟩ : ∃ v, gI g14011 176 2 = v := ⟨_, rfl⟩
            refine q_getI (Sh.int hI14052.1 kx_176 rfl) v14057 ((hF14053.1 176 2 (by decide)).trans hv14057) ?_
            refine r_iconst (-1) rfl ?_
            refine r_ics 91 rfl (fun c14058 => ?_) (fun c14058 => ?_)
            · have c14058_ : v14057.toInt ≠ (-1) := en_i_ne_t c14058
              refine At.enter rfl ?_
              refine r_iconst (-1) rfl ?_
              refine Ar.fall 100 rfl ?_
              refine At.enter rfl ?_
              refine r_istore_n _ rfl ?_
              refine r_iload_n (w_e1 _ _ _) ?_
              refine r_iconst (-1) rfl ?_
              refine r_icf 106 rfl (by decide) ?_
              refine At.enter rfl ?_
              refine r_vret ?_
              exact ⟨_, rfl, hI14052, hF14056, rfl⟩
            · have c14058_ : v14057.toInt = (-1) := en_i_ne_f c14058
              refine At.enter rfl ?_
              refine r_aload_n e13994 ?_
              refine r_iload_n e13995 ?_
              refine r_callV 96 rfl [.ref 176, .int a1] [] (Nat.le_of_ble_eq_true rfl) rfl (T_X5_joinHere_176 _ hI14052 a1) ?_
              rintro _ _ ⟨g14059, rfl, hI14060, hF14061, v14062, rfl, hr14063⟩
              refine At.sti ?_
              have hF14064 := Fr.tr hF14056 hF14061 rfl rfl
              refine At.enter rfl ?_
              refine r_goto ?_
              refine At.enter rfl ?_
              refine r_istore_n _ rfl ?_
              refine r_iload_n (w_e1 _ _ _) ?_
              refine r_iconst (-1) rfl ?_
              refine r_ics 106 rfl (fun c14065 => ?_) (fun c14065 => ?_)
              · have c14065_ : v14062.toInt ≠ (-1) := en_i_ne_t c14065
                refine At.enter rfl ?_
                refine r_aload_n (w_p1 (by decide) (Or.inr rfl) e13994) ?_
                refine r_callV 111 rfl [.ref 176] [] (Nat.le_of_ble_eq_true rfl) rfl (T_X5_step_176 _ hI14060) ?_
                rintro _ _ ⟨g14066, rfl, hI14067, hF14068, rfl⟩
                refine At.stn ?_
                have hF14071 := Fr.tr hF14064 hF14068 rfl rfl
                refine At.enter rfl ?_
                refine r_iload_n (w_p1 (by decide) (Or.inr rfl) e13995) ?_
                refine r_ifs 115 rfl (fun c14072 => ?_) (fun c14072 => ?_)
                · have c14072_ : a1.toInt = 0 := en_k_eq_t c14072
                  refine At.enter rfl ?_
                  refine r_aload_n (w_p1 (by decide) (Or.inr rfl) e13994) ?_
                  refine q_getR (Sh.ref hI14067.1 kx_176 rfl) ?_
                  refine r_iload_n (w_e1 _ _ _) ?_
                  refine r_iconst 0 rfl ?_
                  refine r_callV 129 rfl [.ref 177, .int v14062, .int 0] [] (Nat.le_of_ble_eq_true rfl) rfl (T_X4_add_177 _ hI14067 v14062 0) ?_
                  rintro _ _ ⟨g14073, rfl, hI14074, hF14075, v14076, rfl, hr14077⟩
                  refine At.sti ?_
                  have hF14078 := Fr.tr hF14071 hF14075 rfl rfl
                  refine At.enter rfl ?_
                  refine r_goto ?_
                  refine At.enter rfl ?_
                  refine r_istore _ rfl ?_
                  refine q_iinc (w_p1 (by decide) (Or.inr rfl) (w_p1 (by decide) (Or.inr rfl) e13999)) (x13987.toInt + 1) rfl (by omega) (fun v14079 hv14079 => ?_)
                  refine r_goto ?_
                  exact ih13993 (400 - v14079.toInt) _ _ ⟨v14062, v14076, v14079, by first | rfl | omega, hI14074, hF14078, (w_p1 (by decide) (Or.inr rfl) (w_p1 (by decide) (Or.inr rfl) (w_p1 (by decide) (Or.inr rfl) e13994))), (w_p1 (by decide) (Or.inr rfl) (w_p1 (by decide) (Or.inr rfl) (w_p1 (by decide) (Or.inr rfl) e13995))), (w_p1 (by decide) (Or.inr rfl) (w_p1 (by decide) (Or.inr rfl) (w_p1 (by decide) (Or.inr rfl) e13996))), (w_p1 (by decide) (Or.inr rfl) (w_p1 (by decide) (Or.inr rfl) (w_e1 _ _ _))), (w_p1 (by decide) (Or.inr rfl) (w_e1 _ _ _)), (w_e1 _ _ _), by omega, by omega, by omega⟩ ⟨by omega, by omega⟩
                · have c14072_ : a1.toInt ≠ 0 := en_k_eq_f c14072
                  refine At.enter rfl ?_
                  refine r_iload_n (w_p1 (by decide) (Or.inr rfl) e13995) ?_
                  refine r_iconst 1 rfl ?_
                  refine r_ics 120 rfl (fun c14080 => ?_) (fun c14080 => ?_)
                  · have c14080_ : a1.toInt ≠ 1 := en_i_ne_t c14080
                    refine At.enter rfl ?_
                    refine r_iconst (-1) rfl ?_
                    refine Ar.fall 133 rfl ?_
                    refine At.enter rfl ?_
                    refine r_istore _ rfl ?_
                    refine q_iinc (w_p1 (by decide) (Or.inr rfl) (w_p1 (by decide) (Or.inr rfl) e13999)) (x13987.toInt + 1) rfl (by omega) (fun v14081 hv14081 => ?_)
                    refine r_goto ?_
                    exact ih13993 (400 - v14081.toInt) _ _ ⟨v14062, (-1), v14081, by first | rfl | omega, hI14067, hF14071, (w_p1 (by decide) (Or.inr rfl) (w_p1 (by decide) (Or.inr rfl) (w_p1 (by decide) (Or.inr rfl) e13994))), (w_p1 (by decide) (Or.inr rfl) (w_p1 (by decide) (Or.inr rfl) (w_p1 (by decide) (Or.inr rfl) e13995))), (w_p1 (by decide) (Or.inr rfl) (w_p1 (by decide) (Or.inr rfl) (w_p1 (by decide) (Or.inr rfl) e13996))), (w_p1 (by decide) (Or.inr rfl) (w_p1 (by decide) (Or.inr rfl) (w_e1 _ _ _))), (w_p1 (by decide) (Or.inr rfl) (w_e1 _ _ _)), (w_e1 _ _ _), by omega, by decide, by omega⟩ ⟨by omega, by omega⟩
                  · have c14080_ : a1.toInt = 1 := en_i_ne_f c14080
                    refine At.enter rfl ?_
                    refine r_aload_n (w_p1 (by decide) (Or.inr rfl) e13994) ?_
                    refine q_getR (Sh.ref hI14067.1 kx_176 rfl) ?_
                    refine r_iload_n (w_e1 _ _ _) ?_
                    refine r_iconst 0 rfl ?_
                    refine r_callV 129 rfl [.ref 177, .int v14062, .int 0] [] (Nat.le_of_ble_eq_true rfl) rfl (T_X4_add_177 _ hI14067 v14062 0) ?_
                    rintro _ _ ⟨g14082, rfl, hI14083, hF14084, v14085, rfl, hr14086⟩
                    refine At.sti ?_
                    have hF14087 := Fr.tr hF14071 hF14084 rfl rfl
                    refine At.enter rfl ?_
                    refine r_goto ?_
                    refine At.enter rfl ?_
                    refine r_istore _ rfl ?_
                    refine q_iinc (w_p1 (by decide) (Or.inr rfl) (w_p1 (by decide) (Or.inr rfl) e13999)) (x13987.toInt + 1) rfl (by omega) (fun v14088 hv14088 => ?_)
                    refine r_goto ?_
                    exact ih13993 (400 - v14088.toInt) _ _ ⟨v14062, v14085, v14088, by first | rfl | omega, hI14083, hF14087, (w_p1 (by decide) (Or.inr rfl) (w_p1 (by decide) (Or.inr rfl) (w_p1 (by decide) (Or.inr rfl) e13994))), (w_p1 (by decide) (Or.inr rfl) (w_p1 (by decide) (Or.inr rfl) (w_p1 (by decide) (Or.inr rfl) e13995))), (w_p1 (by decide) (Or.inr rfl) (w_p1 (by decide) (Or.inr rfl) (w_p1 (by decide) (Or.inr rfl) e13996))), (w_p1 (by decide) (Or.inr rfl) (w_p1 (by decide) (Or.inr rfl) (w_e1 _ _ _))), (w_p1 (by decide) (Or.inr rfl) (w_e1 _ _ _)), (w_e1 _ _ _), by omega, by omega, by omega⟩ ⟨by omega, by omega⟩
              · have c14065_ : v14062.toInt = (-1) := en_i_ne_f c14065
                refine At.enter rfl ?_
                refine r_vret ?_
                exact ⟨_, rfl, hI14060, hF14064, rfl⟩
        · have c14017_ : x13986.toInt ≠ (-1) := en_i_eq_f c14017
          refine At.enter rfl ?_
          refine r_aload_n e13994 ?_
          refine q_getR (Sh.ref hI14012.1 kx_176 rfl) ?_
          refine r_iload e13998 ?_
          refine r_callV 65 rfl [.ref 177, .int x13986] [] (Nat.le_of_ble_eq_true rfl) rfl (T_X4_aimAtEnd_177 _ hI14012 x13986) ?_
          rintro _ _ ⟨g14089, rfl, hI14090, hF14091, rfl⟩
          refine At.stn ?_
          have hF14094 := Fr.tr hF14016 hF14091 rfl rfl
          refine At.enter rfl ?_
          refine r_goto ?_
          refine At.enter rfl ?_
          refine r_aload_n e13994 ?_
          obtain ⟨v14095, hv14095⟩ : ∃ v, gI g14011 176 2 = v := ⟨_, rfl⟩
          refine q_getI (Sh.int hI14090.1 kx_176 rfl) v14095 ((hF14091.1 176 2 (by decide)).trans hv14095) ?_
          refine r_iconst (-1) rfl ?_
          refine r_ics 91 rfl (fun c14096 => ?_) (fun c14096 => ?_)
          · have c14096_ : v14095.toInt ≠ (-1) := en_i_ne_t c14096
            refine At.enter rfl ?_
            refine r_iconst (-1) rfl ?_
            refine Ar.fall 100 rfl ?_
            refine At.enter rfl ?_
            refine r_istore_n _ rfl ?_
            refine r_iload_n (w_e1 _ _ _) ?_
            refine r_iconst (-1) rfl ?_
            refine r_icf 106 rfl (by decide) ?_
            refine At.enter rfl ?_
            refine r_vret ?_
            exact ⟨_, rfl, hI14090, hF14094, rfl⟩
          · have c14096_ : v14095.toInt = (-1) := en_i_ne_f c14096
            refine At.enter rfl ?_
            refine r_aload_n e13994 ?_
            refine r_iload_n e13995 ?_
            refine r_callV 96 rfl [.ref 176, .int a1] [] (Nat.le_of_ble_eq_true rfl) rfl (T_X5_joinHere_176 _ hI14090 a1) ?_
            rintro _ _ ⟨g14097, rfl, hI14098, hF14099, v14100, rfl, hr14101⟩
            refine At.sti ?_
            have hF14102 := Fr.tr hF14094 hF14099 rfl rfl
            refine At.enter rfl ?_
            refine r_goto ?_
            refine At.enter rfl ?_
            refine r_istore_n _ rfl ?_
            refine r_iload_n (w_e1 _ _ _) ?_
            refine r_iconst (-1) rfl ?_
            refine r_ics 106 rfl (fun c14103 => ?_) (fun c14103 => ?_)
            · have c14103_ : v14100.toInt ≠ (-1) := en_i_ne_t c14103
              refine At.enter rfl ?_
              refine r_aload_n (w_p1 (by decide) (Or.inr rfl) e13994) ?_
              refine r_callV 111 rfl [.ref 176] [] (Nat.le_of_ble_eq_true rfl) rfl (T_X5_step_176 _ hI14098) ?_
              rintro _ _ ⟨g14104, rfl, hI14105, hF14106, rfl⟩
              refine At.stn ?_
              have hF14109 := Fr.tr hF14102 hF14106 rfl rfl
              refine At.enter rfl ?_
              refine r_iload_n (w_p1 (by decide) (Or.inr rfl) e13995) ?_
              refine r_ifs 115 rfl (fun c14110 => ?_) (fun c14110 => ?_)
              · have c14110_ : a1.toInt = 0 := en_k_eq_t c14110
                refine At.enter rfl ?_
                refine r_aload_n (w_p1 (by decide) (Or.inr rfl) e13994) ?_
                refine q_getR (Sh.ref hI14105.1 kx_176 rfl) ?_
                refine r_iload_n (w_e1 _ _ _) ?_
                refine r_iconst 0 rfl ?_
                refine r_callV 129 rfl [.ref 177, .int v14100, .int 0] [] (Nat.le_of_ble_eq_true rfl) rfl (T_X4_add_177 _ hI14105 v14100 0) ?_
                rintro _ _ ⟨g14111, rfl, hI14112, hF14113, v14114, rfl, hr14115⟩
                refine At.sti ?_
                have hF14116 := Fr.tr hF14109 hF14113 rfl rfl
                refine At.enter rfl ?_
                refine r_goto ?_
                refine At.enter rfl ?_
                refine r_istore _ rfl ?_
                refine q_iinc (w_p1 (by decide) (Or.inr rfl) (w_p1 (by decide) (Or.inr rfl) e13999)) (x13987.toInt + 1) rfl (by omega) (fun v14117 hv14117 => ?_)
                refine r_goto ?_
                exact ih13993 (400 - v14117.toInt) _ _ ⟨v14100, v14114, v14117, by first | rfl | omega, hI14112, hF14116, (w_p1 (by decide) (Or.inr rfl) (w_p1 (by decide) (Or.inr rfl) (w_p1 (by decide) (Or.inr rfl) e13994))), (w_p1 (by decide) (Or.inr rfl) (w_p1 (by decide) (Or.inr rfl) (w_p1 (by decide) (Or.inr rfl) e13995))), (w_p1 (by decide) (Or.inr rfl) (w_p1 (by decide) (Or.inr rfl) (w_p1 (by decide) (Or.inr rfl) e13996))), (w_p1 (by decide) (Or.inr rfl) (w_p1 (by decide) (Or.inr rfl) (w_e1 _ _ _))), (w_p1 (by decide) (Or.inr rfl) (w_e1 _ _ _)), (w_e1 _ _ _), by omega, by omega, by omega⟩ ⟨by omega, by omega⟩
              · have c14110_ : a1.toInt ≠ 0 := en_k_eq_f c14110
                refine At.enter rfl ?_
                refine r_iload_n (w_p1 (by decide) (Or.inr rfl) e13995) ?_
                refine r_iconst 1 rfl ?_
                refine r_ics 120 rfl (fun c14118 => ?_) (fun c14118 => ?_)
                · have c14118_ : a1.toInt ≠ 1 := en_i_ne_t c14118
                  refine At.enter rfl ?_
                  refine r_iconst (-1) rfl ?_
                  refine Ar.fall 133 rfl ?_
                  refine At.enter rfl ?_
                  refine r_istore _ rfl ?_
                  refine q_iinc (w_p1 (by decide) (Or.inr rfl) (w_p1 (by decide) (Or.inr rfl) e13999)) (x13987.toInt + 1) rfl (by omega) (fun v14119 hv14119 => ?_)
                  refine r_goto ?_
                  exact ih13993 (400 - v14119.toInt) _ _ ⟨v14100, (-1), v14119, by first | rfl | omega, hI14105, hF14109, (w_p1 (by decide) (Or.inr rfl) (w_p1 (by decide) (Or.inr rfl) (w_p1 (by decide) (Or.inr rfl) e13994))), (w_p1 (by decide) (Or.inr rfl) (w_p1 (by decide) (Or.inr rfl) (w_p1 (by decide) (Or.inr rfl) e13995))), (w_p1 (by decide) (Or.inr rfl) (w_p1 (by decide) (Or.inr rfl) (w_p1 (by decide) (Or.inr rfl) e13996))), (w_p1 (by decide) (Or.inr rfl) (w_p1 (by decide) (Or.inr rfl) (w_e1 _ _ _))), (w_p1 (by decide) (Or.inr rfl) (w_e1 _ _ _)), (w_e1 _ _ _), by omega, by decide, by omega⟩ ⟨by omega, by omega⟩
                · have c14118_ : a1.toInt = 1 := en_i_ne_f c14118
                  refine At.enter rfl ?_
                  refine r_aload_n (w_p1 (by decide) (Or.inr rfl) e13994) ?_
                  refine q_getR (Sh.ref hI14105.1 kx_176 rfl) ?_
                  refine r_iload_n (w_e1 _ _ _) ?_
                  refine r_iconst 0 rfl ?_
                  refine r_callV 129 rfl [.ref 177, .int v14100, .int 0] [] (Nat.le_of_ble_eq_true rfl) rfl (T_X4_add_177 _ hI14105 v14100 0) ?_
                  rintro _ _ ⟨g14120, rfl, hI14121, hF14122, v14123, rfl, hr14124⟩
                  refine At.sti ?_
                  have hF14125 := Fr.tr hF14109 hF14122 rfl rfl
                  refine At.enter rfl ?_
                  refine r_goto ?_
                  refine At.enter rfl ?_
                  refine r_istore _ rfl ?_
                  refine q_iinc (w_p1 (by decide) (Or.inr rfl) (w_p1 (by decide) (Or.inr rfl) e13999)) (x13987.toInt + 1) rfl (by omega) (fun v14126 hv14126 => ?_)
                  refine r_goto ?_
                  exact ih13993 (400 - v14126.toInt) _ _ ⟨v14100, v14123, v14126, by first | rfl | omega, hI14121, hF14125, (w_p1 (by decide) (Or.inr rfl) (w_p1 (by decide) (Or.inr rfl) (w_p1 (by decide) (Or.inr rfl) e13994))), (w_p1 (by decide) (Or.inr rfl) (w_p1 (by decide) (Or.inr rfl) (w_p1 (by decide) (Or.inr rfl) e13995))), (w_p1 (by decide) (Or.inr rfl) (w_p1 (by decide) (Or.inr rfl) (w_p1 (by decide) (Or.inr rfl) e13996))), (w_p1 (by decide) (Or.inr rfl) (w_p1 (by decide) (Or.inr rfl) (w_e1 _ _ _))), (w_p1 (by decide) (Or.inr rfl) (w_e1 _ _ _)), (w_e1 _ _ _), by omega, by omega, by omega⟩ ⟨by omega, by omega⟩
            · have c14103_ : v14100.toInt = (-1) := en_i_ne_f c14103
              refine At.enter rfl ?_
              refine r_vret ?_
              exact ⟨_, rfl, hI14098, hF14102, rfl⟩
      · have c14009_ : a1.toInt = 3 := en_i_ne_f c14009
        refine At.enter rfl ?_
        refine r_aload_n e13994 ?_
        refine r_iload_n e13996 ?_
        refine r_callV 39 rfl [.ref 176, .int a2] [] (Nat.le_of_ble_eq_true rfl) rfl (IHT _ (by omega) hI13989 a2 (by omega) (by omega)) ?_
        rintro _ _ ⟨g14127, rfl, hI14128, hF14129, rfl⟩
        refine At.stn ?_
        have hF14132 := Fr.tr hF13990 hF14129 rfl rfl
        refine At.enter rfl ?_
        refine r_goto ?_
        refine At.enter rfl ?_
        refine r_iload e13998 ?_
        refine r_iconst (-1) rfl ?_
        refine r_ics 56 rfl (fun c14133 => ?_) (fun c14133 => ?_)
        · have c14133_ : x13986.toInt = (-1) := en_i_eq_t c14133
          refine At.enter rfl ?_
          refine r_iload_n e13997 ?_
          refine r_iconst (-1) rfl ?_
          refine r_ics 73 rfl (fun c14134 => ?_) (fun c14134 => ?_)
          · have c14134_ : x13985.toInt = (-1) := en_i_eq_t c14134
            refine At.enter rfl ?_
            refine r_aload_n e13994 ?_
            obtain ⟨v14135, hv14135⟩ : ∃ v, gI g14127 176 2 = v := ⟨_, rfl⟩
            refine q_getI (Sh.int hI14128.1 kx_176 rfl) v14135 hv14135 ?_
            refine r_iconst (-1) rfl ?_
            refine r_ics 91 rfl (fun c14136 => ?_) (fun c14136 => ?_)
            · have c14136_ : v14135.toInt ≠ (-1) := en_i_ne_t c14136
              refine At.enter rfl ?_
              refine r_iconst (-1) rfl ?_
              refine Ar.fall 100 rfl ?_
              refine At.enter rfl ?_
              refine r_istore_n _ rfl ?_
              refine r_iload_n (w_e1 _ _ _) ?_
              refine r_iconst (-1) rfl ?_
              refine r_icf 106 rfl (by decide) ?_
              refine At.enter rfl ?_
              refine r_vret ?_
              exact ⟨_, rfl, hI14128, hF14132, rfl⟩
            · have c14136_ : v14135.toInt = (-1) := en_i_ne_f c14136
              refine At.enter rfl ?_
              refine r_aload_n e13994 ?_
              refine r_iload_n e13995 ?_
              refine r_callV 96 rfl [.ref 176, .int a1] [] (Nat.le_of_ble_eq_true rfl) rfl (T_X5_joinHere_176 _ hI14128 a1) ?_
              rintro _ _ ⟨g14137, rfl, hI14138, hF14139, v14140, rfl, hr14141⟩
              refine At.sti ?_
              have hF14142 := Fr.tr hF14132 hF14139 rfl rfl
              refine At.enter rfl ?_
              refine r_goto ?_
              refine At.enter rfl ?_
              refine r_istore_n _ rfl ?_
              refine r_iload_n (w_e1 _ _ _) ?_
              refine r_iconst (-1) rfl ?_
              refine r_ics 106 rfl (fun c14143 => ?_) (fun c14143 => ?_)
              · have c14143_ : v14140.toInt ≠ (-1) := en_i_ne_t c14143
                refine At.enter rfl ?_
                refine r_aload_n (w_p1 (by decide) (Or.inr rfl) e13994) ?_
                refine r_callV 111 rfl [.ref 176] [] (Nat.le_of_ble_eq_true rfl) rfl (T_X5_step_176 _ hI14138) ?_
                rintro _ _ ⟨g14144, rfl, hI14145, hF14146, rfl⟩
                refine At.stn ?_
                have hF14149 := Fr.tr hF14142 hF14146 rfl rfl
                refine At.enter rfl ?_
                refine r_iload_n (w_p1 (by decide) (Or.inr rfl) e13995) ?_
                refine r_ifs 115 rfl (fun c14150 => ?_) (fun c14150 => ?_)
                · have c14150_ : a1.toInt = 0 := en_k_eq_t c14150
                  exfalso; omega
                · have c14150_ : a1.toInt ≠ 0 := en_k_eq_f c14150
                  refine At.enter rfl ?_
                  refine r_iload_n (w_p1 (by decide) (Or.inr rfl) e13995) ?_
                  refine r_iconst 1 rfl ?_
                  refine r_ics 120 rfl (fun c14151 => ?_) (fun c14151 => ?_)
                  · have c14151_ : a1.toInt ≠ 1 := en_i_ne_t c14151
                    refine At.enter rfl ?_
                    refine r_iconst (-1) rfl ?_
                    refine Ar.fall 133 rfl ?_
                    refine At.enter rfl ?_
                    refine r_istore _ rfl ?_
                    refine q_iinc (w_p1 (by decide) (Or.inr rfl) (w_p1 (by decide) (Or.inr rfl) e13999)) (x13987.toInt + 1) rfl (by omega) (fun v14152 hv14152 => ?_)
                    refine r_goto ?_
                    exact ih13993 (400 - v14152.toInt) _ _ ⟨v14140, (-1), v14152, by first | rfl | omega, hI14145, hF14149, (w_p1 (by decide) (Or.inr rfl) (w_p1 (by decide) (Or.inr rfl) (w_p1 (by decide) (Or.inr rfl) e13994))), (w_p1 (by decide) (Or.inr rfl) (w_p1 (by decide) (Or.inr rfl) (w_p1 (by decide) (Or.inr rfl) e13995))), (w_p1 (by decide) (Or.inr rfl) (w_p1 (by decide) (Or.inr rfl) (w_p1 (by decide) (Or.inr rfl) e13996))), (w_p1 (by decide) (Or.inr rfl) (w_p1 (by decide) (Or.inr rfl) (w_e1 _ _ _))), (w_p1 (by decide) (Or.inr rfl) (w_e1 _ _ _)), (w_e1 _ _ _), by omega, by decide, by omega⟩ ⟨by omega, by omega⟩
                  · have c14151_ : a1.toInt = 1 := en_i_ne_f c14151
                    exfalso; omega
              · have c14143_ : v14140.toInt = (-1) := en_i_ne_f c14143
                refine At.enter rfl ?_
                refine r_vret ?_
                exact ⟨_, rfl, hI14138, hF14142, rfl⟩
          · have c14134_ : x13985.toInt ≠ (-1) := en_i_eq_f c14134
            refine At.enter rfl ?_
            refine r_aload_n e13994 ?_
            refine q_getR (Sh.ref hI14128.1 kx_176 rfl) ?_
            refine r_iload_n e13997 ?_
            refine r_iconst 0 rfl ?_
            refine r_callV 82 rfl [.ref 177, .int x13985, .int 0] [] (Nat.le_of_ble_eq_true rfl) rfl (T_X4_add_177 _ hI14128 x13985 0) ?_
            rintro _ _ ⟨g14153, rfl, hI14154, hF14155, v14156, rfl, hr14157⟩
            refine At.sti ?_
            have hF14158 := Fr.tr hF14132 hF14155 rfl rfl
            refine At.enter rfl ?_
            refine r_pop rfl ?_
            refine Ar.fall 83 rfl ?_
            refine At.enter rfl ?_
            refine r_aload_n e13994 ?_
            obtain ⟨v14159, hv14159⟩ : ∃ v, gI g14127 176 2 = v := ⟨_, rfl⟩
            refine q_getI (Sh.int hI14154.1 kx_176 rfl) v14159 ((hF14155.1 176 2 (by decide)).trans hv14159) ?_
            refine r_iconst (-1) rfl ?_
            refine r_ics 91 rfl (fun c14160 => ?_) (fun c14160 => ?_)
            · have c14160_ : v14159.toInt ≠ (-1) := en_i_ne_t c14160
              refine At.enter rfl ?_
              refine r_iconst (-1) rfl ?_
              refine Ar.fall 100 rfl ?_
              refine At.enter rfl ?_
              refine r_istore_n _ rfl ?_
              refine r_iload_n (w_e1 _ _ _) ?_
              refine r_iconst (-1) rfl ?_
              refine r_icf 106 rfl (by decide) ?_
              refine At.enter rfl ?_
              refine r_vret ?_
              exact ⟨_, rfl, hI14154, hF14158, rfl⟩
            · have c14160_ : v14159.toInt = (-1) := en_i_ne_f c14160
              refine At.enter rfl ?_
              refine r_aload_n e13994 ?_
              refine r_iload_n e13995 ?_
              refine r_callV 96 rfl [.ref 176, .int a1] [] (Nat.le_of_ble_eq_true rfl) rfl (T_X5_joinHere_176 _ hI14154 a1) ?_
              rintro _ _ ⟨g14161, rfl, hI14162, hF14163, v14164, rfl, hr14165⟩
              refine At.sti ?_
              have hF14166 := Fr.tr hF14158 hF14163 rfl rfl
              refine At.enter rfl ?_
              refine r_goto ?_
              refine At.enter rfl ?_
              refine r_istore_n _ rfl ?_
              refine r_iload_n (w_e1 _ _ _) ?_
              refine r_iconst (-1) rfl ?_
              refine r_ics 106 rfl (fun c14167 => ?_) (fun c14167 => ?_)
              · have c14167_ : v14164.toInt ≠ (-1) := en_i_ne_t c14167
                refine At.enter rfl ?_
                refine r_aload_n (w_p1 (by decide) (Or.inr rfl) e13994) ?_
                refine r_callV 111 rfl [.ref 176] [] (Nat.le_of_ble_eq_true rfl) rfl (T_X5_step_176 _ hI14162) ?_
                rintro _ _ ⟨g14168, rfl, hI14169, hF14170, rfl⟩
                refine At.stn ?_
                have hF14173 := Fr.tr hF14166 hF14170 rfl rfl
                refine At.enter rfl ?_
                refine r_iload_n (w_p1 (by decide) (Or.inr rfl) e13995) ?_
                refine r_ifs 115 rfl (fun c14174 => ?_) (fun c14174 => ?_)
                · have c14174_ : a1.toInt = 0 := en_k_eq_t c14174
                  exfalso; omega
                · have c14174_ : a1.toInt ≠ 0 := en_k_eq_f c14174
                  refine At.enter rfl ?_
                  refine r_iload_n (w_p1 (by decide) (Or.inr rfl) e13995) ?_
                  refine r_iconst 1 rfl ?_
                  refine r_ics 120 rfl (fun c14175 => ?_) (fun c14175 => ?_)
                  · have c14175_ : a1.toInt ≠ 1 := en_i_ne_t c14175
                    refine At.enter rfl ?_
                    refine r_iconst (-1) rfl ?_
                    refine Ar.fall 133 rfl ?_
                    refine At.enter rfl ?_
                    refine r_istore _ rfl ?_
                    refine q_iinc (w_p1 (by decide) (Or.inr rfl) (w_p1 (by decide) (Or.inr rfl) e13999)) (x13987.toInt + 1) rfl (by omega) (fun v14176 hv14176 => ?_)
                    refine r_goto ?_
                    exact ih13993 (400 - v14176.toInt) _ _ ⟨v14164, (-1), v14176, by first | rfl | omega, hI14169, hF14173, (w_p1 (by decide) (Or.inr rfl) (w_p1 (by decide) (Or.inr rfl) (w_p1 (by decide) (Or.inr rfl) e13994))), (w_p1 (by decide) (Or.inr rfl) (w_p1 (by decide) (Or.inr rfl) (w_p1 (by decide) (Or.inr rfl) e13995))), (w_p1 (by decide) (Or.inr rfl) (w_p1 (by decide) (Or.inr rfl) (w_p1 (by decide) (Or.inr rfl) e13996))), (w_p1 (by decide) (Or.inr rfl) (w_p1 (by decide) (Or.inr rfl) (w_e1 _ _ _))), (w_p1 (by decide) (Or.inr rfl) (w_e1 _ _ _)), (w_e1 _ _ _), by omega, by decide, by omega⟩ ⟨by omega, by omega⟩
                  · have c14175_ : a1.toInt = 1 := en_i_ne_f c14175
                    exfalso; omega
              · have c14167_ : v14164.toInt = (-1) := en_i_ne_f c14167
                refine At.enter rfl ?_
                refine r_vret ?_
                exact ⟨_, rfl, hI14162, hF14166, rfl⟩
        · have c14133_ : x13986.toInt ≠ (-1) := en_i_eq_f c14133
          refine At.enter rfl ?_
          refine r_aload_n e13994 ?_
          refine q_getR (Sh.ref hI14128.1 kx_176 rfl) ?_
          refine r_iload e13998 ?_
          refine r_callV 65 rfl [.ref 177, .int x13986] [] (Nat.le_of_ble_eq_true rfl) rfl (T_X4_aimAtEnd_177 _ hI14128 x13986) ?_
          rintro _ _ ⟨g14177, rfl, hI14178, hF14179, rfl⟩
          refine At.stn ?_
          have hF14182 := Fr.tr hF14132 hF14179 rfl rfl
          refine At.enter rfl ?_
          refine r_goto ?_
          refine At.enter rfl ?_
          refine r_aload_n e13994 ?_
          obtain ⟨v14183, hv14183⟩ : ∃ v, gI g14127 176 2 = v := ⟨_, rfl⟩
          refine q_getI (Sh.int hI14178.1 kx_176 rfl) v14183 ((hF14179.1 176 2 (by decide)).trans hv14183) ?_
          refine r_iconst (-1) rfl ?_
          refine r_ics 91 rfl (fun c14184 => ?_) (fun c14184 => ?_)
          · have c14184_ : v14183.toInt ≠ (-1) := en_i_ne_t c14184
            refine At.enter rfl ?_
            refine r_iconst (-1) rfl ?_
            refine Ar.fall 100 rfl ?_
            refine At.enter rfl ?_
            refine r_istore_n _ rfl ?_
            refine r_iload_n (w_e1 _ _ _) ?_
            refine r_iconst (-1) rfl ?_
            refine r_icf 106 rfl (by decide) ?_
            refine At.enter rfl ?_
            refine r_vret ?_
            exact ⟨_, rfl, hI14178, hF14182, rfl⟩
          · have c14184_ : v14183.toInt = (-1) := en_i_ne_f c14184
            refine At.enter rfl ?_
            refine r_aload_n e13994 ?_
            refine r_iload_n e13995 ?_
            refine r_callV 96 rfl [.ref 176, .int a1] [] (Nat.le_of_ble_eq_true rfl) rfl (T_X5_joinHere_176 _ hI14178 a1) ?_
            rintro _ _ ⟨g14185, rfl, hI14186, hF14187, v14188, rfl, hr14189⟩
            refine At.sti ?_
            have hF14190 := Fr.tr hF14182 hF14187 rfl rfl
            refine At.enter rfl ?_
            refine r_goto ?_
            refine At.enter rfl ?_
            refine r_istore_n _ rfl ?_
            refine r_iload_n (w_e1 _ _ _) ?_
            refine r_iconst (-1) rfl ?_
            refine r_ics 106 rfl (fun c14191 => ?_) (fun c14191 => ?_)
            · have c14191_ : v14188.toInt ≠ (-1) := en_i_ne_t c14191
              refine At.enter rfl ?_
              refine r_aload_n (w_p1 (by decide) (Or.inr rfl) e13994) ?_
              refine r_callV 111 rfl [.ref 176] [] (Nat.le_of_ble_eq_true rfl) rfl (T_X5_step_176 _ hI14186) ?_
              rintro _ _ ⟨g14192, rfl, hI14193, hF14194, rfl⟩
              refine At.stn ?_
              have hF14197 := Fr.tr hF14190 hF14194 rfl rfl
              refine At.enter rfl ?_
              refine r_iload_n (w_p1 (by decide) (Or.inr rfl) e13995) ?_
              refine r_ifs 115 rfl (fun c14198 => ?_) (fun c14198 => ?_)
              · have c14198_ : a1.toInt = 0 := en_k_eq_t c14198
                exfalso; omega
              · have c14198_ : a1.toInt ≠ 0 := en_k_eq_f c14198
                refine At.enter rfl ?_
                refine r_iload_n (w_p1 (by decide) (Or.inr rfl) e13995) ?_
                refine r_iconst 1 rfl ?_
                refine r_ics 120 rfl (fun c14199 => ?_) (fun c14199 => ?_)
                · have c14199_ : a1.toInt ≠ 1 := en_i_ne_t c14199
                  refine At.enter rfl ?_
                  refine r_iconst (-1) rfl ?_
                  refine Ar.fall 133 rfl ?_
                  refine At.enter rfl ?_
                  refine r_istore _ rfl ?_
                  refine q_iinc (w_p1 (by decide) (Or.inr rfl) (w_p1 (by decide) (Or.inr rfl) e13999)) (x13987.toInt + 1) rfl (by omega) (fun v14200 hv14200 => ?_)
                  refine r_goto ?_
                  exact ih13993 (400 - v14200.toInt) _ _ ⟨v14188, (-1), v14200, by first | rfl | omega, hI14193, hF14197, (w_p1 (by decide) (Or.inr rfl) (w_p1 (by decide) (Or.inr rfl) (w_p1 (by decide) (Or.inr rfl) e13994))), (w_p1 (by decide) (Or.inr rfl) (w_p1 (by decide) (Or.inr rfl) (w_p1 (by decide) (Or.inr rfl) e13995))), (w_p1 (by decide) (Or.inr rfl) (w_p1 (by decide) (Or.inr rfl) (w_p1 (by decide) (Or.inr rfl) e13996))), (w_p1 (by decide) (Or.inr rfl) (w_p1 (by decide) (Or.inr rfl) (w_e1 _ _ _))), (w_p1 (by decide) (Or.inr rfl) (w_e1 _ _ _)), (w_e1 _ _ _), by omega, by decide, by omega⟩ ⟨by omega, by omega⟩
                · have c14199_ : a1.toInt = 1 := en_i_ne_f c14199
                  exfalso; omega
            · have c14191_ : v14188.toInt = (-1) := en_i_ne_f c14191
              refine At.enter rfl ?_
              refine r_vret ?_
              exact ⟨_, rfl, hI14186, hF14190, rfl⟩
    · have c14008_ : a1.toInt = 1 := en_i_ne_f c14008
      refine At.enter rfl ?_
      refine r_aload_n e13994 ?_
      refine r_iload_n e13996 ?_
      refine r_callV 26 rfl [.ref 176, .int a2] [] (Nat.le_of_ble_eq_true rfl) rfl (IHP _ (by omega) hI13989 a2 (by omega) (by omega)) ?_
      rintro _ _ ⟨g14201, rfl, hI14202, hF14203, rfl⟩
      refine At.stn ?_
      have hF14206 := Fr.tr hF13990 hF14203 rfl rfl
      refine At.enter rfl ?_
      refine r_goto ?_
      refine At.enter rfl ?_
      refine r_iload e13998 ?_
      refine r_iconst (-1) rfl ?_
      refine r_ics 56 rfl (fun c14207 => ?_) (fun c14207 => ?_)
      · have c14207_ : x13986.toInt = (-1) := en_i_eq_t c14207
        refine At.enter rfl ?_
        refine r_iload_n e13997 ?_
        refine r_iconst (-1) rfl ?_
        refine r_ics 73 rfl (fun c14208 => ?_) (fun c14208 => ?_)
        · have c14208_ : x13985.toInt = (-1) := en_i_eq_t c14208
          refine At.enter rfl ?_
          refine r_aload_n e13994 ?_
          obtain ⟨v14209, hv14209⟩ : ∃ v, gI g14201 176 2 = v := ⟨_, rfl⟩
          refine q_getI (Sh.int hI14202.1 kx_176 rfl) v14209 hv14209 ?_
          refine r_iconst (-1) rfl ?_
          refine r_ics 91 rfl (fun c14210 => ?_) (fun c14210 => ?_)
          · have c14210_ : v14209.toInt ≠ (-1) := en_i_ne_t c14210
            refine At.enter rfl ?_
            refine r_iconst (-1) rfl ?_
            refine Ar.fall 100 rfl ?_
            refine At.enter rfl ?_
            refine r_istore_n _ rfl ?_
            refine r_iload_n (w_e1 _ _ _) ?_
            refine r_iconst (-1) rfl ?_
            refine r_icf 106 rfl (by decide) ?_
            refine At.enter rfl ?_
            refine r_vret ?_
            exact ⟨_, rfl, hI14202, hF14206, rfl⟩
          · have c14210_ : v14209.toInt = (-1) := en_i_ne_f c14210
            refine At.enter rfl ?_
            refine r_aload_n e13994 ?_
            refine r_iload_n e13995 ?_
            refine r_callV 96 rfl [.ref 176, .int a1] [] (Nat.le_of_ble_eq_true rfl) rfl (T_X5_joinHere_176 _ hI14202 a1) ?_
            rintro _ _ ⟨g14211, rfl, hI14212, hF14213, v14214, rfl, hr14215⟩
            refine At.sti ?_
            have hF14216 := Fr.tr hF14206 hF14213 rfl rfl
            refine At.enter rfl ?_
            refine r_goto ?_
            refine At.enter rfl ?_
            refine r_istore_n _ rfl ?_
            refine r_iload_n (w_e1 _ _ _) ?_
            refine r_iconst (-1) rfl ?_
            refine r_ics 106 rfl (fun c14217 => ?_) (fun c14217 => ?_)
            · have c14217_ : v14214.toInt ≠ (-1) := en_i_ne_t c14217
              refine At.enter rfl ?_
              refine r_aload_n (w_p1 (by decide) (Or.inr rfl) e13994) ?_
              refine r_callV 111 rfl [.ref 176] [] (Nat.le_of_ble_eq_true rfl) rfl (T_X5_step_176 _ hI14212) ?_
              rintro _ _ ⟨g14218, rfl, hI14219, hF14220, rfl⟩
              refine At.stn ?_
              have hF14223 := Fr.tr hF14216 hF14220 rfl rfl
              refine At.enter rfl ?_
              refine r_iload_n (w_p1 (by decide) (Or.inr rfl) e13995) ?_
              refine r_ifs 115 rfl (fun c14224 => ?_) (fun c14224 => ?_)
              · have c14224_ : a1.toInt = 0 := en_k_eq_t c14224
                exfalso; omega
              · have c14224_ : a1.toInt ≠ 0 := en_k_eq_f c14224
                refine At.enter rfl ?_
                refine r_iload_n (w_p1 (by decide) (Or.inr rfl) e13995) ?_
                refine r_iconst 1 rfl ?_
                refine r_ics 120 rfl (fun c14225 => ?_) (fun c14225 => ?_)
                · have c14225_ : a1.toInt ≠ 1 := en_i_ne_t c14225
                  exfalso; omega
                · have c14225_ : a1.toInt = 1 := en_i_ne_f c14225
                  refine At.enter rfl ?_
                  refine r_aload_n (w_p1 (by decide) (Or.inr rfl) e13994) ?_
                  refine q_getR (Sh.ref hI14219.1 kx_176 rfl) ?_
                  refine r_iload_n (w_e1 _ _ _) ?_
                  refine r_iconst 0 rfl ?_
                  refine r_callV 129 rfl [.ref 177, .int v14214, .int 0] [] (Nat.le_of_ble_eq_true rfl) rfl (T_X4_add_177 _ hI14219 v14214 0) ?_
                  rintro _ _ ⟨g14226, rfl, hI14227, hF14228, v14229, rfl, hr14230⟩
                  refine At.sti ?_
                  have hF14231 := Fr.tr hF14223 hF14228 rfl rfl
                  refine At.enter rfl ?_
                  refine r_goto ?_
                  refine At.enter rfl ?_
                  refine r_istore _ rfl ?_
                  refine q_iinc (w_p1 (by decide) (Or.inr rfl) (w_p1 (by decide) (Or.inr rfl) e13999)) (x13987.toInt + 1) rfl (by omega) (fun v14232 hv14232 => ?_)
                  refine r_goto ?_
                  exact ih13993 (400 - v14232.toInt) _ _ ⟨v14214, v14229, v14232, by first | rfl | omega, hI14227, hF14231, (w_p1 (by decide) (Or.inr rfl) (w_p1 (by decide) (Or.inr rfl) (w_p1 (by decide) (Or.inr rfl) e13994))), (w_p1 (by decide) (Or.inr rfl) (w_p1 (by decide) (Or.inr rfl) (w_p1 (by decide) (Or.inr rfl) e13995))), (w_p1 (by decide) (Or.inr rfl) (w_p1 (by decide) (Or.inr rfl) (w_p1 (by decide) (Or.inr rfl) e13996))), (w_p1 (by decide) (Or.inr rfl) (w_p1 (by decide) (Or.inr rfl) (w_e1 _ _ _))), (w_p1 (by decide) (Or.inr rfl) (w_e1 _ _ _)), (w_e1 _ _ _), by omega, by omega, by omega⟩ ⟨by omega, by omega⟩
            · have c14217_ : v14214.toInt = (-1) := en_i_ne_f c14217
              refine At.enter rfl ?_
              refine r_vret ?_
              exact ⟨_, rfl, hI14212, hF14216, rfl⟩
        · have c14208_ : x13985.toInt ≠ (-1) := en_i_eq_f c14208
          refine At.enter rfl ?_
          refine r_aload_n e13994 ?_
          refine q_getR (Sh.ref hI14202.1 kx_176 rfl) ?_
          refine r_iload_n e13997 ?_
          refine r_iconst 0 rfl ?_
          refine r_callV 82 rfl [.ref 177, .int x13985, .int 0] [] (Nat.le_of_ble_eq_true rfl) rfl (T_X4_add_177 _ hI14202 x13985 0) ?_
          rintro _ _ ⟨g14233, rfl, hI14234, hF14235, v14236, rfl, hr14237⟩
          refine At.sti ?_
          have hF14238 := Fr.tr hF14206 hF14235 rfl rfl
          refine At.enter rfl ?_
          refine r_pop rfl ?_
          refine Ar.fall 83 rfl ?_
          refine At.enter rfl ?_
          refine r_aload_n e13994 ?_
          obtain ⟨v14239, hv14239⟩ : ∃ v, gI g14201 176 2 = v := ⟨_, rfl⟩
          refine q_getI (Sh.int hI14234.1 kx_176 rfl) v14239 ((hF14235.1 176 2 (by decide)).trans hv14239) ?_
          refine r_iconst (-1) rfl ?_
          refine r_ics 91 rfl (fun c14240 => ?_) (fun c14240 => ?_)
          · have c14240_ : v14239.toInt ≠ (-1) := en_i_ne_t c14240
            refine At.enter rfl ?_
            refine r_iconst (-1) rfl ?_
            refine Ar.fall 100 rfl ?_
            refine At.enter rfl ?_
            refine r_istore_n _ rfl ?_
            refine r_iload_n (w_e1 _ _ _) ?_
            refine r_iconst (-1) rfl ?_
            refine r_icf 106 rfl (by decide) ?_
            refine At.enter rfl ?_
            refine r_vret ?_
            exact ⟨_, rfl, hI14234, hF14238, rfl⟩
          · have c14240_ : v14239.toInt = (-1) := en_i_ne_f c14240
            refine At.enter rfl ?_
            refine r_aload_n e13994 ?_
            refine r_iload_n e13995 ?_
            refine r_callV 96 rfl [.ref 176, .int a1] [] (Nat.le_of_ble_eq_true rfl) rfl (T_X5_joinHere_176 _ hI14234 a1) ?_
            rintro _ _ ⟨g14241, rfl, hI14242, hF14243, v14244, rfl, hr14245⟩
            refine At.sti ?_
            have hF14246 := Fr.tr hF14238 hF14243 rfl rfl
            refine At.enter rfl ?_
            refine r_goto ?_
            refine At.enter rfl ?_
            refine r_istore_n _ rfl ?_
            refine r_iload_n (w_e1 _ _ _) ?_
            refine r_iconst (-1) rfl ?_
            refine r_ics 106 rfl (fun c14247 => ?_) (fun c14247 => ?_)
            · have c14247_ : v14244.toInt ≠ (-1) := en_i_ne_t c14247
              refine At.enter rfl ?_
              refine r_aload_n (w_p1 (by decide) (Or.inr rfl) e13994) ?_
              refine r_callV 111 rfl [.ref 176] [] (Nat.le_of_ble_eq_true rfl) rfl (T_X5_step_176 _ hI14242) ?_
              rintro _ _ ⟨g14248, rfl, hI14249, hF14250, rfl⟩
              refine At.stn ?_
              have hF14253 := Fr.tr hF14246 hF14250 rfl rfl
              refine At.enter rfl ?_
              refine r_iload_n (w_p1 (by decide) (Or.inr rfl) e13995) ?_
              refine r_ifs 115 rfl (fun c14254 => ?_) (fun c14254 => ?_)
              · have c14254_ : a1.toInt = 0 := en_k_eq_t c14254
                exfalso; omega
              · have c14254_ : a1.toInt ≠ 0 := en_k_eq_f c14254
                refine At.enter rfl ?_
                refine r_iload_n (w_p1 (by decide) (Or.inr rfl) e13995) ?_
                refine r_iconst 1 rfl ?_
                refine r_ics 120 rfl (fun c14255 => ?_) (fun c14255 => ?_)
                · have c14255_ : a1.toInt ≠ 1 := en_i_ne_t c14255
                  exfalso; omega
                · have c14255_ : a1.toInt = 1 := en_i_ne_f c14255
                  refine At.enter rfl ?_
                  refine r_aload_n (w_p1 (by decide) (Or.inr rfl) e13994) ?_
                  refine q_getR (Sh.ref hI14249.1 kx_176 rfl) ?_
                  refine r_iload_n (w_e1 _ _ _) ?_
                  refine r_iconst 0 rfl ?_
                  refine r_callV 129 rfl [.ref 177, .int v14244, .int 0] [] (Nat.le_of_ble_eq_true rfl) rfl (T_X4_add_177 _ hI14249 v14244 0) ?_
                  rintro _ _ ⟨g14256, rfl, hI14257, hF14258, v14259, rfl, hr14260⟩
                  refine At.sti ?_
                  have hF14261 := Fr.tr hF14253 hF14258 rfl rfl
                  refine At.enter rfl ?_
                  refine r_goto ?_
                  refine At.enter rfl ?_
                  refine r_istore _ rfl ?_
                  refine q_iinc (w_p1 (by decide) (Or.inr rfl) (w_p1 (by decide) (Or.inr rfl) e13999)) (x13987.toInt + 1) rfl (by omega) (fun v14262 hv14262 => ?_)
                  refine r_goto ?_
                  exact ih13993 (400 - v14262.toInt) _ _ ⟨v14244, v14259, v14262, by first | rfl | omega, hI14257, hF14261, (w_p1 (by decide) (Or.inr rfl) (w_p1 (by decide) (Or.inr rfl) (w_p1 (by decide) (Or.inr rfl) e13994))), (w_p1 (by decide) (Or.inr rfl) (w_p1 (by decide) (Or.inr rfl) (w_p1 (by decide) (Or.inr rfl) e13995))), (w_p1 (by decide) (Or.inr rfl) (w_p1 (by decide) (Or.inr rfl) (w_p1 (by decide) (Or.inr rfl) e13996))), (w_p1 (by decide) (Or.inr rfl) (w_p1 (by decide) (Or.inr rfl) (w_e1 _ _ _))), (w_p1 (by decide) (Or.inr rfl) (w_e1 _ _ _)), (w_e1 _ _ _), by omega, by omega, by omega⟩ ⟨by omega, by omega⟩
            · have c14247_ : v14244.toInt = (-1) := en_i_ne_f c14247
              refine At.enter rfl ?_
              refine r_vret ?_
              exact ⟨_, rfl, hI14242, hF14246, rfl⟩
      · have c14207_ : x13986.toInt ≠ (-1) := en_i_eq_f c14207
        refine At.enter rfl ?_
        refine r_aload_n e13994 ?_
        refine q_getR (Sh.ref hI14202.1 kx_176 rfl) ?_
        refine r_iload e13998 ?_
        refine r_callV 65 rfl [.ref 177, .int x13986] [] (Nat.le_of_ble_eq_true rfl) rfl (T_X4_aimAtEnd_177 _ hI14202 x13986) ?_
        rintro _ _ ⟨g14263, rfl, hI14264, hF14265, rfl⟩
        refine At.stn ?_
        have hF14268 := Fr.tr hF14206 hF14265 rfl rfl
        refine At.enter rfl ?_
        refine r_goto ?_
        refine At.enter rfl ?_
        refine r_aload_n e13994 ?_
        obtain ⟨v14269, hv14269⟩ : ∃ v, gI g14201 176 2 = v := ⟨_, rfl⟩
        refine q_getI (Sh.int hI14264.1 kx_176 rfl) v14269 ((hF14265.1 176 2 (by decide)).trans hv14269) ?_
        refine r_iconst (-1) rfl ?_
        refine r_ics 91 rfl (fun c14270 => ?_) (fun c14270 => ?_)
        · have c14270_ : v14269.toInt ≠ (-1) := en_i_ne_t c14270
          refine At.enter rfl ?_
          refine r_iconst (-1) rfl ?_
          refine Ar.fall 100 rfl ?_
          refine At.enter rfl ?_
          refine r_istore_n _ rfl ?_
          refine r_iload_n (w_e1 _ _ _) ?_
          refine r_iconst (-1) rfl ?_
          refine r_icf 106 rfl (by decide) ?_
          refine At.enter rfl ?_
          refine r_vret ?_
          exact ⟨_, rfl, hI14264, hF14268, rfl⟩
        · have c14270_ : v14269.toInt = (-1) := en_i_ne_f c14270
          refine At.enter rfl ?_
          refine r_aload_n e13994 ?_
          refine r_iload_n e13995 ?_
          refine r_callV 96 rfl [.ref 176, .int a1] [] (Nat.le_of_ble_eq_true rfl) rfl (T_X5_joinHere_176 _ hI14264 a1) ?_
          rintro _ _ ⟨g14271, rfl, hI14272, hF14273, v14274, rfl, hr14275⟩
          refine At.sti ?_
          have hF14276 := Fr.tr hF14268 hF14273 rfl rfl
          refine At.enter rfl ?_
          refine r_goto ?_
          refine At.enter rfl ?_
          refine r_istore_n _ rfl ?_
          refine r_iload_n (w_e1 _ _ _) ?_
          refine r_iconst (-1) rfl ?_
          refine r_ics 106 rfl (fun c14277 => ?_) (fun c14277 => ?_)
          · have c14277_ : v14274.toInt ≠ (-1) := en_i_ne_t c14277
            refine At.enter rfl ?_
            refine r_aload_n (w_p1 (by decide) (Or.inr rfl) e13994) ?_
            refine r_callV 111 rfl [.ref 176] [] (Nat.le_of_ble_eq_true rfl) rfl (T_X5_step_176 _ hI14272) ?_
            rintro _ _ ⟨g14278, rfl, hI14279, hF14280, rfl⟩
            refine At.stn ?_
            have hF14283 := Fr.tr hF14276 hF14280 rfl rfl
            refine At.enter rfl ?_
            refine r_iload_n (w_p1 (by decide) (Or.inr rfl) e13995) ?_
            refine r_ifs 115 rfl (fun c14284 => ?_) (fun c14284 => ?_)
            · have c14284_ : a1.toInt = 0 := en_k_eq_t c14284
              exfalso; omega
            · have c14284_ : a1.toInt ≠ 0 := en_k_eq_f c14284
              refine At.enter rfl ?_
              refine r_iload_n (w_p1 (by decide) (Or.inr rfl) e13995) ?_
              refine r_iconst 1 rfl ?_
              refine r_ics 120 rfl (fun c14285 => ?_) (fun c14285 => ?_)
              · have c14285_ : a1.toInt ≠ 1 := en_i_ne_t c14285
                exfalso; omega
              · have c14285_ : a1.toInt = 1 := en_i_ne_f c14285
                refine At.enter rfl ?_
                refine r_aload_n (w_p1 (by decide) (Or.inr rfl) e13994) ?_
                refine q_getR (Sh.ref hI14279.1 kx_176 rfl) ?_
                refine r_iload_n (w_e1 _ _ _) ?_
                refine r_iconst 0 rfl ?_
                refine r_callV 129 rfl [.ref 177, .int v14274, .int 0] [] (Nat.le_of_ble_eq_true rfl) rfl (T_X4_add_177 _ hI14279 v14274 0) ?_
                rintro _ _ ⟨g14286, rfl, hI14287, hF14288, v14289, rfl, hr14290⟩
                refine At.sti ?_
                have hF14291 := Fr.tr hF14283 hF14288 rfl rfl
                refine At.enter rfl ?_
                refine r_goto ?_
                refine At.enter rfl ?_
                refine r_istore _ rfl ?_
                refine q_iinc (w_p1 (by decide) (Or.inr rfl) (w_p1 (by decide) (Or.inr rfl) e13999)) (x13987.toInt + 1) rfl (by omega) (fun v14292 hv14292 => ?_)
                refine r_goto ?_
                exact ih13993 (400 - v14292.toInt) _ _ ⟨v14274, v14289, v14292, by first | rfl | omega, hI14287, hF14291, (w_p1 (by decide) (Or.inr rfl) (w_p1 (by decide) (Or.inr rfl) (w_p1 (by decide) (Or.inr rfl) e13994))), (w_p1 (by decide) (Or.inr rfl) (w_p1 (by decide) (Or.inr rfl) (w_p1 (by decide) (Or.inr rfl) e13995))), (w_p1 (by decide) (Or.inr rfl) (w_p1 (by decide) (Or.inr rfl) (w_p1 (by decide) (Or.inr rfl) e13996))), (w_p1 (by decide) (Or.inr rfl) (w_p1 (by decide) (Or.inr rfl) (w_e1 _ _ _))), (w_p1 (by decide) (Or.inr rfl) (w_e1 _ _ _)), (w_e1 _ _ _), by omega, by omega, by omega⟩ ⟨by omega, by omega⟩
          · have c14277_ : v14274.toInt = (-1) := en_i_ne_f c14277
            refine At.enter rfl ?_
            refine r_vret ?_
            exact ⟨_, rfl, hI14272, hF14276, rfl⟩
