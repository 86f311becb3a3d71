def F_X5_comparisonHere_176 : List (Nat × Nat) := []
def A_X5_comparisonHere_176 : List Nat := []
theorem ma_X5_joinHere_176_175 : memA A_X5_joinHere_176 175 = false := by decide
theorem mf_X5_joinHere_176_174_1 : memF F_X5_joinHere_176 174 1 = false := by decide
theorem mf_X5_joinHere_176_176_3 : memF F_X5_joinHere_176 176 3 = false := by decide
theorem mf_X5_joinHere_176_176_4 : memF F_X5_joinHere_176 176 4 = false := by decide
theorem mf_X5_joinHere_176_176_5 : memF F_X5_joinHere_176 176 5 = false := by decide
theorem mf_X4_add_177_176_4 : memF F_X4_add_177 176 4 = false := by decide
theorem mf_X5_step_176_176_2 : memF F_X5_step_176 176 2 = false := by decide
theorem mf_X5_joinHere_176_176_2 : memF F_X5_joinHere_176 176 2 = false := by decide
theorem ma_X4_add_177_175 : memA A_X4_add_177 175 = false := by decide
theorem mf_X4_add_177_174_1 : memF F_X4_add_177 174 1 = false := by decide
theorem mf_X4_add_177_176_3 : memF F_X4_add_177 176 3 = false := by decide
theorem mf_X4_add_177_176_5 : memF F_X4_add_177 176 5 = false := by decide
theorem mf_X5_step_176_176_6 : memF F_X5_step_176 176 6 = false := by decide
theorem mf_X5_joinHere_176_176_6 : memF F_X5_joinHere_176 176 6 = false := by decide
theorem mf_X4_add_177_176_2 : memF F_X4_add_177 176 2 = false := by decide
theorem mf_X4_add_177_176_6 : memF F_X4_add_177 176 6 = false := by decide
theorem ma_X5_step_176_178 : memA A_X5_step_176 178 = false := by decide
theorem ma_X5_joinHere_176_178 : memA A_X5_joinHere_176 178 = false := by decide
theorem ma_X5_step_176_179 : memA A_X5_step_176 179 = false := by decide
theorem ma_X5_joinHere_176_179 : memA A_X5_joinHere_176 179 = false := by decide
theorem mf_X5_step_176_177_0 : memF F_X5_step_176 177 0 = false := by decide
theorem mf_X5_joinHere_176_177_0 : memF F_X5_joinHere_176 177 0 = false := by decide
theorem mf_X4_aimAtEnd_177_176_2 : memF F_X4_aimAtEnd_177 176 2 = false := by decide
theorem mf_X4_aimAtEnd_177_176_4 : memF F_X4_aimAtEnd_177 176 4 = false := by decide
theorem mf_X4_aimAtEnd_177_176_6 : memF F_X4_aimAtEnd_177 176 6 = false := by decide
theorem ma_X4_aimAtEnd_177_175 : memA A_X4_aimAtEnd_177 175 = false := by decide
theorem mf_X4_aimAtEnd_177_174_1 : memF F_X4_aimAtEnd_177 174 1 = false := by decide
theorem mf_X4_aimAtEnd_177_176_3 : memF F_X4_aimAtEnd_177 176 3 = false := by decide
theorem mf_X4_aimAtEnd_177_176_5 : memF F_X4_aimAtEnd_177 176 5 = false := by decide
set_option maxRecDepth 100000 in
set_option maxHeartbeats 4000000 in
theorem T_X5_comparisonHere_176 (d : Nat) {N : Nat} {g0 : List en_E} (hI0 : HI g0) (hT : TKX g0) : Ev (d + 3) 68 [.ref 176] (g0, N) (fun w h' => ∃ g', h' = (g', N) ∧ HI g' ∧ Fr F_X5_comparisonHere_176 A_X5_comparisonHere_176 g0 g' ∧ ∃ r : Int32, w = some (.int r) ∧ ((-1) ≤ r.toInt ∧ r.toInt ≤ 8) ∧ (BLN (24 ≤ CDX g0 ∧ CDX g0 ≤ 26) r.toInt ∧ (r.toInt ≠ -1 → r.toInt = CDX g0 - 18))) := by
  have hF0 : Fr F_X5_comparisonHere_176 A_X5_comparisonHere_176 g0 g0 := Fr.rf
  refine Ev.mk rfl rfl ⟨Nat.le_of_ble_eq_true rfl, Or.inr (q_rc hI0.1 kx_176 rfl)⟩ ?_
  show At _ none _ _ (0, [(0, .ref 176)], [], (_, _)) _
  refine At.enter rfl ?_
  refine r_aload_n rfl ?_
  refine r_bipush 60 rfl ?_
  refine r_callV 6 rfl [.ref 176, .int 60] [] (Nat.le_of_ble_eq_true rfl) rfl (T_X5_isSingle_176 _ hI0 60 (by decide)) ?_
  rintro _ _ ⟨g67, rfl, hI68, hF69, v70, rfl, hr71⟩
  refine At.sti ?_
  have hF72 := Fr.tr hF0 hF69 rfl rfl
  have zv73 : (60 : Int32).toInt = 60 := rfl
  have hb74 : BL (CDX g0 = 24) v70.toInt := ISX.code (c := 24) hr71.2 hT (isSC_d (by omega)) (by decide)
  refine At.enter rfl ?_
  refine r_ifs 9 rfl (fun c75 => ?_) (fun c75 => ?_)
  · have c75_ : v70.toInt = 0 := en_k_eq_t c75
    have i76 := BL.no hb74 (by omega)
    refine At.enter rfl ?_
    refine r_aload_n rfl ?_
    refine r_bipush 62 rfl ?_
    refine r_callV 20 rfl [.ref 176, .int 62] [] (Nat.le_of_ble_eq_true rfl) rfl (T_X5_isSingle_176 _ hI68 62 (by decide)) ?_
    rintro _ _ ⟨g77, rfl, hI78, hF79, v80, rfl, hr81⟩
    refine At.sti ?_
    have hF82 := Fr.tr hF72 hF79 rfl rfl
    have zv83 : (62 : Int32).toInt = 62 := rfl
    have hb84 : BL (CDX g0 = 25) v80.toInt := by have z := ISX.code (c := 25) hr81.2 (TKX.c hT ((hF69.2.1 175 ma_X5_isSingle_176_175)) ((hF69.1 174 1 mf_X5_isSingle_176_174_1)) ((hF69.1 176 3 mf_X5_isSingle_176_176_3)) ((hF69.1 176 4 mf_X5_isSingle_176_176_4)) ((hF69.1 176 5 mf_X5_isSingle_176_176_5))) (isSC_d (by omega)) (by decide); rw [CDX.c ((hF69.2.1 175 ma_X5_isSingle_176_175)) ((hF69.1 176 3 mf_X5_isSingle_176_176_3)) ((hF69.1 176 4 mf_X5_isSingle_176_176_4)) ((hF69.1 176 5 mf_X5_isSingle_176_176_5))] at z; exact z
    refine At.enter rfl ?_
    refine r_ifs 23 rfl (fun c85 => ?_) (fun c85 => ?_)
    · have c85_ : v80.toInt = 0 := en_k_eq_t c85
      have i86 := BL.no hb84 (by omega)
      refine At.enter rfl ?_
      refine r_aload_n rfl ?_
      refine r_bipush 61 rfl ?_
      refine r_callV 34 rfl [.ref 176, .int 61] [] (Nat.le_of_ble_eq_true rfl) rfl (T_X5_isSingle_176 _ hI78 61 (by decide)) ?_
      rintro _ _ ⟨g87, rfl, hI88, hF89, v90, rfl, hr91⟩
      refine At.sti ?_
      have hF92 := Fr.tr hF82 hF89 rfl rfl
      have zv93 : (61 : Int32).toInt = 61 := rfl
      have hb94 : BL (CDX g0 = 26) v90.toInt := by have z := ISX.code (c := 26) hr91.2 (TKX.c hT (((hF79.2.1 175 ma_X5_isSingle_176_175).trans (hF69.2.1 175 ma_X5_isSingle_176_175))) (((hF79.1 174 1 mf_X5_isSingle_176_174_1).trans (hF69.1 174 1 mf_X5_isSingle_176_174_1))) (((hF79.1 176 3 mf_X5_isSingle_176_176_3).trans (hF69.1 176 3 mf_X5_isSingle_176_176_3))) (((hF79.1 176 4 mf_X5_isSingle_176_176_4).trans (hF69.1 176 4 mf_X5_isSingle_176_176_4))) (((hF79.1 176 5 mf_X5_isSingle_176_176_5).trans (hF69.1 176 5 mf_X5_isSingle_176_176_5)))) (isSC_d (by omega)) (by decide); rw [CDX.c (((hF79.2.1 175 ma_X5_isSingle_176_175).trans (hF69.2.1 175 ma_X5_isSingle_176_175))) (((hF79.1 176 3 mf_X5_isSingle_176_176_3).trans (hF69.1 176 3 mf_X5_isSingle_176_176_3))) (((hF79.1 176 4 mf_X5_isSingle_176_176_4).trans (hF69.1 176 4 mf_X5_isSingle_176_176_4))) (((hF79.1 176 5 mf_X5_isSingle_176_176_5).trans (hF69.1 176 5 mf_X5_isSingle_176_176_5)))] at z; exact z
      refine At.enter rfl ?_
      refine r_ifs 37 rfl (fun c95 => ?_) (fun c95 => ?_)
      · have c95_ : v90.toInt = 0 := en_k_eq_t c95
        have i96 := BL.no hb94 (by omega)
        refine At.enter rfl ?_
        refine r_iconst (-1) rfl ?_
        refine Ar.fall 43 rfl ?_
        refine At.enter rfl ?_
        refine r_ireti ?_
        have zv97 : ((-1) : Int32).toInt = (-1) := rfl
        exact ⟨_, rfl, hI88, hF92, _, rfl, by decide, ⟨(CMX.mk (Or.inl ⟨by omega, by omega, by omega, by omega⟩)), fun _ => by omega⟩⟩
      · have c95_ : v90.toInt ≠ 0 := en_k_eq_f c95
        have i98 := BL.yes hb94 (by omega)
        refine At.enter rfl ?_
        refine r_bipush 8 rfl ?_
        refine r_goto ?_
        refine At.enter rfl ?_
        refine r_ireti ?_
        have zv99 : (8 : Int32).toInt = 8 := rfl
        exact ⟨_, rfl, hI88, hF92, _, rfl, by decide, ⟨(CMX.mk (Or.inr ⟨by omega, by omega, by omega⟩)), fun _ => by omega⟩⟩
    · have c85_ : v80.toInt ≠ 0 := en_k_eq_f c85
      have i100 := BL.yes hb84 (by omega)
      refine At.enter rfl ?_
      refine r_bipush 7 rfl ?_
      refine r_goto ?_
      refine At.enter rfl ?_
      refine r_ireti ?_
      have zv101 : (7 : Int32).toInt = 7 := rfl
      exact ⟨_, rfl, hI78, hF82, _, rfl, by decide, ⟨(CMX.mk (Or.inr ⟨by omega, by omega, by omega⟩)), fun _ => by omega⟩⟩
  · have c75_ : v70.toInt ≠ 0 := en_k_eq_f c75
    have i102 := BL.yes hb74 (by omega)
    refine At.enter rfl ?_
    refine r_bipush 6 rfl ?_
    refine r_goto ?_
    refine At.enter rfl ?_
    refine r_ireti ?_
    have zv103 : (6 : Int32).toInt = 6 := rfl
    exact ⟨_, rfl, hI68, hF72, _, rfl, by decide, ⟨(CMX.mk (Or.inr ⟨by omega, by omega, by omega⟩)), fun _ => by omega⟩⟩

def QJ (n : Nat) : Prop := ∀ e : Nat, 4 * n + 20 ≤ e → ∀ {N : Nat} {g0 : List en_E}, HI g0 → ∀ (a1 : Int32) (h_a1 : 0 ≤ a1.toInt ∧ a1.toInt ≤ 3) (a2 : Int32) (h_a2 : 0 ≤ a2.toInt ∧ a2.toInt ≤ 8), 10 * (9 - a2.toInt) + (8 - 2 * a1.toInt) ≤ (n : Int) → TKX g0 → Ev e 65 [.ref 176, .int a1, .int a2] (g0, N) (fun w h' => ∃ g', h' = (g', N) ∧ HI g' ∧ Fr F_rd A_rd g0 g' ∧ w = none ∧ (JPX g0 g' a1.toInt a2.toInt ∧ GPX (TX g0) (nX g0) g0 g' (t0f a1.toInt) (lev a1.toInt) (t1f a1.toInt) (tyr a1.toInt)))
def QP (n : Nat) : Prop := ∀ e : Nat, 4 * n + 20 ≤ e → ∀ {N : Nat} {g0 : List en_E}, HI g0 → ∀ (a1 : Int32) (h_a1 : 0 ≤ a1.toInt ∧ a1.toInt ≤ 8), 10 * (9 - a1.toInt) + 5 ≤ (n : Int) → TKX g0 → Ev e 67 [.ref 176, .int a1] (g0, N) (fun w h' => ∃ g', h' = (g', N) ∧ HI g' ∧ Fr F_rd A_rd g0 g' ∧ w = none ∧ (PPX g0 g' a1.toInt ∧ GPX (TX g0) (nX g0) g0 g' 0 3 2 1))
def QT (n : Nat) : Prop := ∀ e : Nat, 4 * n + 20 ≤ e → ∀ {N : Nat} {g0 : List en_E}, HI g0 → ∀ (a1 : Int32) (h_a1 : 0 ≤ a1.toInt ∧ a1.toInt ≤ 8), 10 * (9 - a1.toInt) + 1 ≤ (n : Int) → TKX g0 → Ev e 69 [.ref 176, .int a1] (g0, N) (fun w h' => ∃ g', h' = (g', N) ∧ HI g' ∧ Fr F_rd A_rd g0 g' ∧ w = none ∧ (TPX g0 g' a1.toInt ∧ GPX (TX g0) (nX g0) g0 g' 1 7 3 0))

set_option maxRecDepth 100000 in
set_option maxHeartbeats 4000000 in
theorem S_X5_readJoined_176 (n : Nat) (IHJ : QJ n) (IHP : QP n) (IHT : QT n) : QJ (n + 1) := by
  intro e he N g0 hI0 a1 h_a1 a2 h_a2 hm hT
  obtain ⟨d, rfl⟩ : ∃ d, e = d + 4 := ⟨e - 4, by omega⟩
  have hF0 : Fr F_rd A_rd g0 g0 := Fr.rf
  refine Ev.mk rfl rfl ⟨Nat.le_of_ble_eq_true rfl, Or.inr (q_rc hI0.1 kx_176 rfl)⟩ ?_
  show At _ none _ _ (0, [(0, .ref 176), (1, .int a1), (2, .int a2)], [], (_, _)) _
  refine At.enter rfl ?_
  refine r_iconst (-1) rfl ?_
  refine r_istore_n ([(3, .int (-1)), (0, .ref 176), (1, .int a1), (2, .int a2)]) rfl ?_
  refine r_iconst (-1) rfl ?_
  refine r_istore ([(4, .int (-1)), (3, .int (-1)), (0, .ref 176), (1, .int a1), (2, .int a2)]) rfl ?_
  refine r_iconst 0 rfl ?_
  refine r_istore ([(5, .int 0), (4, .int (-1)), (3, .int (-1)), (0, .ref 176), (1, .int a1), (2, .int a2)]) rfl ?_
  refine Ar.fall 8 rfl ?_
  have z_21170 : ((-1) : Int32).toInt = (-1) := rfl
  have z_21171 : ((-1) : Int32).toInt = (-1) := rfl
  have z_21172 : (0 : Int32).toInt = 0 := rfl
  obtain ⟨v21173, hv21173⟩ : ∃ v, gI g0 176 4 = v := ⟨_, rfl⟩
  have rv21173 := RgF.at hI0.2.1 (p := 176) (b := 4) rfl
  rw [hv21173] at rv21173
  dsimp only at rv21173
  have tv21173 := congrArg Int32.toInt hv21173
  have x21174 := rX.e hI0 (b := 4) (hv21173)
  refine w_loopI (fun n_ l_ g_ => ∃ x21147 : Int32, ∃ x21148 : Int32, ∃ x21149 : Int32, n_ = 400 - x21149.toInt ∧ HI g_ ∧ Fr F_rd A_rd g0 g_ ∧ en_get 0 l_ = some (.ref 176) ∧ en_get 1 l_ = some (.int a1) ∧ en_get 2 l_ = some (.int a2) ∧ en_get 3 l_ = some (.int x21147) ∧ en_get 4 l_ = some (.int x21148) ∧ en_get 5 l_ = some (.int x21149) ∧ ((-1) ≤ x21147.toInt ∧ x21147.toInt ≤ 11) ∧ ((-1) ≤ x21148.toInt ∧ x21148.toInt ≤ 399) ∧ (0 ≤ x21149.toInt ∧ x21149.toInt ≤ 400) ∧ (TKX g_) ∧ (LPI (TX g0) (nX g0) g0 g_ a1.toInt a2.toInt) ∧ (PRG0 0 (rX g0 2) (rX g_ 2) (rX g0 4) (rX g_ 4)) ∧ (2 * x21149.toInt ≤ rX g_ 4) ∧ (LPG (TX g0) (nX g0) g0 g_ a1.toInt x21147.toInt x21148.toInt)) ?_ (400 - 0) ⟨(-1), (-1), 0, by first | rfl | omega, hI0, hF0, rfl, rfl, rfl, rfl, rfl, rfl, by decide, by decide, by decide, hT, LPI.rf, PRG0.rf, by omega, (LPG.rf (by first | rfl | omega) (by first | rfl | omega))⟩
  rintro n21154 l21153 g21150 ⟨x21147, x21148, x21149, hm21175, hI21151, hF21152, e21156, e21157, e21158, e21159, e21160, e21161, r21162, r21163, r21164, q21165, q21166, q21167, q21168, q21169⟩ ih21155
  obtain ⟨v21176, hv21176⟩ : ∃ v, gI g21150 176 4 = v := ⟨_, rfl⟩
  have rv21176 := RgF.at hI21151.2.1 (p := 176) (b := 4) rfl
  rw [hv21176] at rv21176
  dsimp only at rv21176
  have tv21176 := congrArg Int32.toInt hv21176
  have x21177 := rX.e hI21151 (b := 4) (hv21176)
  refine At.enter rfl ?_
  refine r_iload e21161 ?_
  refine r_sipush 400 rfl ?_
  refine r_ics 16 rfl (fun c21178 => ?_) (fun c21178 => ?_)
  · have c21178_ : x21149.toInt ≥ 400 := en_i_ge_t c21178
    refine At.enter rfl ?_
    refine r_vret ?_
    obtain ⟨v21179, hv21179⟩ : ∃ v, gI g21150 176 2 = v := ⟨_, rfl⟩
    have tv21179 := congrArg Int32.toInt hv21179
    have x21180 := rX.e hI21151 (b := 2) (hv21179)
    have x21181 := rX.e hI21151 (b := 4) (hv21176)
    obtain ⟨v21182, hv21182⟩ : ∃ v, gI g21150 176 6 = v := ⟨_, rfl⟩
    have tv21182 := congrArg Int32.toInt hv21182
    have x21183 := rX.e hI21151 (b := 6) (hv21182)
    obtain ⟨v21184, hv21184⟩ : ∃ v, gI g0 176 2 = v := ⟨_, rfl⟩
    have tv21184 := congrArg Int32.toInt hv21184
    have x21185 := rX.e hI0 (b := 2) (hv21184)
    have x21186 := rX.e hI0 (b := 4) (hv21173)
    have x21187 := rX.e hI21151 (b := 2) (hv21179)
    have x21188 := rX.e hI21151 (b := 4) (hv21176)
    exact ⟨_, rfl, hI21151, hF21152, rfl, ⟨(False.elim (by have z := q21167.2.2; omega)), (False.elim (by omega))⟩⟩
  · have c21178_ : x21149.toInt < 400 := en_i_ge_f c21178
    refine At.enter rfl ?_
    refine r_iload_n e21157 ?_
    refine r_iconst 1 rfl ?_
    refine r_ics 21 rfl (fun c21189 => ?_) (fun c21189 => ?_)
    · have c21189_ : a1.toInt ≠ 1 := en_i_ne_t c21189
      refine At.enter rfl ?_
      refine r_iload_n e21157 ?_
      refine r_iconst 3 rfl ?_
      refine r_ics 34 rfl (fun c21190 => ?_) (fun c21190 => ?_)
      · have c21190_ : a1.toInt ≠ 3 := en_i_ne_t c21190
        refine At.enter rfl ?_
        refine r_aload_n e21156 ?_
        refine r_iload_n e21157 ?_
        refine r_iconst 1 rfl ?_
        refine q_iadd (a1.toInt + 1) rfl (by omega) (fun v21191 hv21191 => ?_)
        refine r_iload_n e21158 ?_
        refine r_callV 50 rfl [.ref 176, .int v21191, .int a2] [] (Nat.le_of_ble_eq_true rfl) rfl (IHJ _ (by omega) hI21151 v21191 (by omega) a2 (by omega) (by omega) q21165) ?_
        rintro _ _ ⟨g21192, rfl, hI21193, hF21194, rfl, hr21196⟩
        refine At.stn ?_
        have hF21197 := Fr.tr hF21152 hF21194 rfl rfl
        obtain ⟨v21202, hv21202⟩ : ∃ v, gI g21150 176 2 = v := ⟨_, rfl⟩
        have tv21202 := congrArg Int32.toInt hv21202
        have x21203 := rX.e hI21151 (b := 2) (hv21202)
        have x21204 := rX.e hI21151 (b := 4) (hv21176)
        obtain ⟨o21198, o21199, o21200, o21201⟩ := hr21196.1
        have gx21205 := hr21196.2
        rw [TX.ci hI21151 ((hF21152.2.1 175 (by decide))), nX.ci hI21151 ((hF21152.1 174 1 (by decide)))] at gx21205
        have o21206 := OPD.tc o21200 ((hF21152.2.1 175 (by decide))) ((hF21152.1 174 1 (by decide)))
        obtain ⟨v21207, hv21207⟩ : ∃ v, gI g21192 176 2 = v := ⟨_, rfl⟩
        have tv21207 := congrArg Int32.toInt hv21207
        have x21208 := rX.e hI21193 (b := 2) (hv21207)
        obtain ⟨v21209, hv21209⟩ : ∃ v, gI g21192 176 4 = v := ⟨_, rfl⟩
        have rv21209 := RgF.at hI21193.2.1 (p := 176) (b := 4) rfl
        rw [hv21209] at rv21209
        dsimp only at rv21209
        have tv21209 := congrArg Int32.toInt hv21209
        have x21210 := rX.e hI21193 (b := 4) (hv21209)
        refine At.enter rfl ?_
        refine r_iload e21160 ?_
        refine r_iconst (-1) rfl ?_
        refine r_ics 56 rfl (fun c21211 => ?_) (fun c21211 => ?_)
        · have c21211_ : x21148.toInt = (-1) := en_i_eq_t c21211
          refine At.enter rfl ?_
          refine r_iload_n e21159 ?_
          refine r_iconst (-1) rfl ?_
          refine r_ics 73 rfl (fun c21212 => ?_) (fun c21212 => ?_)
          · have c21212_ : x21147.toInt = (-1) := en_i_eq_t c21212
            refine At.enter rfl ?_
            refine r_aload_n e21156 ?_
            refine q_getI (Sh.int hI21193.1 kx_176 rfl) v21207 hv21207 ?_
            refine r_iconst (-1) rfl ?_
            refine r_ics 91 rfl (fun c21213 => ?_) (fun c21213 => ?_)
            · have c21213_ : v21207.toInt ≠ (-1) := en_i_ne_t c21213
              refine At.enter rfl ?_
              refine r_iconst (-1) rfl ?_
              refine Ar.fall 100 rfl ?_
              refine At.enter rfl ?_
              refine r_istore_n _ rfl ?_
              refine r_iload_n (w_e1 _ _ _) ?_
              refine r_iconst (-1) rfl ?_
              refine r_icf 106 rfl (by decide) ?_
              refine At.enter rfl ?_
              refine r_vret ?_
              have x21214 := rX.e hI21193 (b := 2) (hv21207)
              have x21215 := rX.e hI21193 (b := 4) (hv21209)
              obtain ⟨v21216, hv21216⟩ : ∃ v, gI g21192 176 6 = v := ⟨_, rfl⟩
              have tv21216 := congrArg Int32.toInt hv21216
              have x21217 := rX.e hI21193 (b := 6) (hv21216)
              obtain ⟨v21218, hv21218⟩ : ∃ v, gI g0 176 2 = v := ⟨_, rfl⟩
              have tv21218 := congrArg Int32.toInt hv21218
              have x21219 := rX.e hI0 (b := 2) (hv21218)
              have x21220 := rX.e hI0 (b := 4) (hv21173)
              have x21221 := rX.e hI21151 (b := 2) (hv21202)
              have x21222 := rX.e hI21151 (b := 4) (hv21176)
              have x21223 := rX.e hI21193 (b := 2) (hv21207)
              have x21224 := rX.e hI21193 (b := 4) (hv21209)
              exact ⟨_, rfl, hI21193, hF21197, rfl, ⟨⟨o21198, (PRG0.tr q21167 (PRG0.tr o21199 (PRG0.eq rfl rfl))).le (by omega), LPI.end_ q21166 (OPD.join o21206 (by omega)) rfl rfl rfl, (fun hz => absurd hz (by omega))⟩, (LPG.opA q21169 (GPX.k gx21205 (by have r1 := rul (r := a1.toInt) (by omega); have r2 := rul (r := v21191.toInt) (by omega); omega) (by have r1 := rul (r := a1.toInt) (by omega); have r2 := rul (r := v21191.toInt) (by omega); omega) (by have r1 := rul (r := a1.toInt) (by omega); have r2 := rul (r := v21191.toInt) (by omega); omega) (by have r1 := rul (r := a1.toInt) (by omega); have r2 := rul (r := v21191.toInt) (by omega); omega)) ⟨by omega, by omega⟩ (fun z => (o21199.2.2 z).1) (by omega) (by omega))⟩⟩
            · have c21213_ : v21207.toInt = (-1) := en_i_ne_f c21213
              refine At.enter rfl ?_
              refine r_aload_n e21156 ?_
              refine r_iload_n e21157 ?_
              refine r_callV 96 rfl [.ref 176, .int a1] [] (Nat.le_of_ble_eq_true rfl) rfl (T_X5_joinHere_176 _ hI21193 a1 (by omega) o21198) ?_
              rintro _ _ ⟨g21225, rfl, hI21226, hF21227, v21228, rfl, hr21229⟩
              refine At.sti ?_
              have hF21230 := Fr.tr hF21197 hF21227 rfl rfl
              have je21231 : v21228.toInt ≠ -1 → v21228.toInt = CDX g21192 - 18 := hr21229.2.2
              have hb21232 : BLN (JN a1.toInt (CDX g21192)) v21228.toInt := hr21229.2.1
              refine At.enter rfl ?_
              refine r_goto ?_
              refine At.enter rfl ?_
              refine r_istore_n _ rfl ?_
              refine r_iload_n (w_e1 _ _ _) ?_
              refine r_iconst (-1) rfl ?_
              refine r_ics 106 rfl (fun c21233 => ?_) (fun c21233 => ?_)
              · have c21233_ : v21228.toInt ≠ (-1) := en_i_ne_t c21233
                have i21234 := BLN.yes hb21232 (by omega)
                refine At.enter rfl ?_
                refine r_aload_n (w_p1 (by decide) (Or.inr rfl) e21156) ?_
                refine r_callV 111 rfl [.ref 176] [] (Nat.le_of_ble_eq_true rfl) rfl (T_X5_step_176 _ hI21226 (TKX.c o21198 ((hF21227.2.1 175 ma_X5_joinHere_176_175)) ((hF21227.1 174 1 mf_X5_joinHere_176_174_1)) ((hF21227.1 176 3 mf_X5_joinHere_176_176_3)) ((hF21227.1 176 4 mf_X5_joinHere_176_176_4)) ((hF21227.1 176 5 mf_X5_joinHere_176_176_5))).1 (TKX.c o21198 ((hF21227.2.1 175 ma_X5_joinHere_176_175)) ((hF21227.1 174 1 mf_X5_joinHere_176_174_1)) ((hF21227.1 176 3 mf_X5_joinHere_176_176_3)) ((hF21227.1 176 4 mf_X5_joinHere_176_176_4)) ((hF21227.1 176 5 mf_X5_joinHere_176_176_5))).2.1.le.2.1) ?_
                rintro _ _ ⟨g21235, rfl, hI21236, hF21237, rfl, hr21239⟩
                refine At.stn ?_
                have hF21240 := Fr.tr hF21230 hF21237 rfl rfl
                have tok21241_ := hr21239.2
                rw [TX.c ((hF21227.2.1 175 ma_X5_joinHere_176_175)), nX.c ((hF21227.1 174 1 mf_X5_joinHere_176_174_1)), rX.c (b := 5) ((hF21227.1 176 5 mf_X5_joinHere_176_176_5))] at tok21241_
                have tok21241 := TKX.tok o21198 tok21241_
                rw [TX.c (((hF21194.2.1 175 (by decide)).trans (hF21152.2.1 175 (by decide)))), nX.c (((hF21194.1 174 1 (by decide)).trans (hF21152.1 174 1 (by decide))))] at tok21241
                have hT21242 := hr21239.1
                have x21243 := rX.e hI21226 (b := 4) (((hF21227.1 176 4 mf_X5_joinHere_176_176_4).trans hv21209))
                obtain ⟨v21244, hv21244⟩ : ∃ v, gI g21235 176 4 = v := ⟨_, rfl⟩
                have rv21244 := RgF.at hI21236.2.1 (p := 176) (b := 4) rfl
                rw [hv21244] at rv21244
                dsimp only at rv21244
                have tv21244 := congrArg Int32.toInt hv21244
                have x21245 := rX.e hI21236 (b := 4) (hv21244)
                refine At.enter rfl ?_
                refine r_iload_n (w_p1 (by decide) (Or.inr rfl) e21157) ?_
                refine r_ifs 115 rfl (fun c21246 => ?_) (fun c21246 => ?_)
                · have c21246_ : a1.toInt = 0 := en_k_eq_t c21246
                  refine At.enter rfl ?_
                  refine r_aload_n (w_p1 (by decide) (Or.inr rfl) e21156) ?_
                  refine q_getR (Sh.ref hI21236.1 kx_176 rfl) ?_
                  refine r_iload_n (w_e1 _ _ _) ?_
                  refine r_iconst 0 rfl ?_
                  refine r_callV 129 rfl [.ref 177, .int v21228, .int 0] [] (Nat.le_of_ble_eq_true rfl) rfl (T_X4_add_177 _ hI21236 v21228 0) ?_
                  rintro _ _ ⟨g21247, rfl, hI21248, hF21249, v21250, rfl, hr21251⟩
                  refine At.sti ?_
                  have hF21252 := Fr.tr hF21240 hF21249 rfl rfl
                  have zv21253 : (0 : Int32).toInt = 0 := rfl
                  refine At.enter rfl ?_
                  refine r_goto ?_
                  refine At.enter rfl ?_
                  refine r_istore _ rfl ?_
                  refine q_iinc (w_p1 (by decide) (Or.inr rfl) (w_p1 (by decide) (Or.inr rfl) e21161)) (x21149.toInt + 1) rfl (by omega) (fun v21254 hv21254 => ?_)
                  refine r_goto ?_
                  have jj21255 := i21234
                  unfold JN at jj21255
                  have x21256 := rX.e hI21193 (b := 2) (hv21207)
                  have x21257 := rX.e hI21193 (b := 4) (hv21209)
                  have x21258 := rX.e hI21193 (b := 4) (hv21209)
                  have x21259 := rX.e hI21236 (b := 4) (hv21244)
                  have x21260 := rX.e hI21151 (b := 4) (hv21176)
                  have x21261 := rX.e hI21193 (b := 2) (hv21207)
                  have x21262 := rX.e hI21193 (b := 4) (hv21209)
                  have x21263 := rX.e hI21236 (b := 4) (hv21244)
                  have x21264 := rX.e hI21248 (b := 4) (((hF21249.1 176 4 mf_X4_add_177_176_4).trans hv21244))
                  have y21265 := (o21199.2.2 (by omega)).2
                  have y21266 := ((PRG0.step o21198 tok21241_ (rX.c (b := 2) (((hF21237.1 176 2 mf_X5_step_176_176_2).trans (hF21227.1 176 2 mf_X5_joinHere_176_176_2)))) (JN.ne i21234)).2.2 (by rw [(rX.c (b := 2) (((hF21237.1 176 2 mf_X5_step_176_176_2).trans (hF21227.1 176 2 mf_X5_joinHere_176_176_2))))]; omega)).2
                  exact ih21155 (400 - v21254.toInt) _ _ ⟨v21228, v21250, v21254, by first | rfl | omega, hI21248, hF21252, (w_p1 (by decide) (Or.inr rfl) (w_p1 (by decide) (Or.inr rfl) (w_p1 (by decide) (Or.inr rfl) e21156))), (w_p1 (by decide) (Or.inr rfl) (w_p1 (by decide) (Or.inr rfl) (w_p1 (by decide) (Or.inr rfl) e21157))), (w_p1 (by decide) (Or.inr rfl) (w_p1 (by decide) (Or.inr rfl) (w_p1 (by decide) (Or.inr rfl) e21158))), (w_p1 (by decide) (Or.inr rfl) (w_p1 (by decide) (Or.inr rfl) (w_e1 _ _ _))), (w_p1 (by decide) (Or.inr rfl) (w_e1 _ _ _)), (w_e1 _ _ _), by omega, by omega, by omega, (TKX.c hT21242 ((hF21249.2.1 175 ma_X4_add_177_175)) ((hF21249.1 174 1 mf_X4_add_177_174_1)) ((hF21249.1 176 3 mf_X4_add_177_176_3)) ((hF21249.1 176 4 mf_X4_add_177_176_4)) ((hF21249.1 176 5 mf_X4_add_177_176_5))), (LPI.eq (LPI.next q21166 (OPD.join o21206 (by omega)) tok21241 i21234 ⟨by omega, by omega⟩ (rX.c (b := 2) (((hF21237.1 176 2 mf_X5_step_176_176_2).trans (hF21227.1 176 2 mf_X5_joinHere_176_176_2)))) (rX.c (b := 6) (((hF21237.1 176 6 mf_X5_step_176_176_6).trans (hF21227.1 176 6 mf_X5_joinHere_176_176_6))))) (rX.c (b := 2) ((hF21249.1 176 2 mf_X4_add_177_176_2))) (rX.c (b := 4) ((hF21249.1 176 4 mf_X4_add_177_176_4))) (rX.c (b := 6) ((hF21249.1 176 6 mf_X4_add_177_176_6)))), ((PRG0.tr q21167 (PRG0.tr o21199 (PRG0.tr (PRG0.step o21198 tok21241_ (rX.c (b := 2) (((hF21237.1 176 2 mf_X5_step_176_176_2).trans (hF21227.1 176 2 mf_X5_joinHere_176_176_2)))) (JN.ne i21234)) (PRG0.eq (rX.c (b := 4) ((hF21249.1 176 4 mf_X4_add_177_176_4))) (rX.c (b := 2) ((hF21249.1 176 2 mf_X4_add_177_176_2))))))).le (by omega)), by omega, (GPX.joinC (LPG.opA q21169 (GPX.k gx21205 (by have r1 := rul (r := a1.toInt) (by omega); have r2 := rul (r := v21191.toInt) (by omega); omega) (by have r1 := rul (r := a1.toInt) (by omega); have r2 := rul (r := v21191.toInt) (by omega); omega) (by have r1 := rul (r := a1.toInt) (by omega); have r2 := rul (r := v21191.toInt) (by omega); omega) (by have r1 := rul (r := a1.toInt) (by omega); have r2 := rul (r := v21191.toInt) (by omega); omega)) ⟨by omega, by omega⟩ (fun z => (o21199.2.2 z).1) (by omega) (by omega)) ⟨by omega, by omega⟩ tok21241 (by omega) (by omega) (by omega) (rX.c (b := 2) (((hF21237.1 176 2 mf_X5_step_176_176_2).trans (hF21227.1 176 2 mf_X5_joinHere_176_176_2)))) (rX.c (b := 6) (((hF21237.1 176 6 mf_X5_step_176_176_6).trans (hF21227.1 176 6 mf_X5_joinHere_176_176_6)))) (((hF21237.2.1 178 ma_X5_step_176_178).trans (hF21227.2.1 178 ma_X5_joinHere_176_178))) (((hF21237.2.1 179 ma_X5_step_176_179).trans (hF21227.2.1 179 ma_X5_joinHere_176_179))) (((hF21237.1 177 0 mf_X5_step_176_177_0).trans (hF21227.1 177 0 mf_X5_joinHere_176_177_0))) (fun _ hl => ADP.j (ADP.fr hr21251.2 SCX.rf SCX.rf) (by omega)) (rX.c (b := 2) ((hF21249.1 176 2 mf_X4_add_177_176_2))) (rX.c (b := 4) ((hF21249.1 176 4 mf_X4_add_177_176_4))) (rX.c (b := 6) ((hF21249.1 176 6 mf_X4_add_177_176_6))))⟩ ⟨by omega, by omega⟩
                · have c21246_ : a1.toInt ≠ 0 := en_k_eq_f c21246
                  refine At.enter rfl ?_
                  refine r_iload_n (w_p1 (by decide) (Or.inr rfl) e21157) ?_
                  refine r_iconst 1 rfl ?_
                  refine r_ics 120 rfl (fun c21267 => ?_) (fun c21267 => ?_)
                  · have c21267_ : a1.toInt ≠ 1 := en_i_ne_t c21267
                    refine At.enter rfl ?_
                    refine r_iconst (-1) rfl ?_
                    refine Ar.fall 133 rfl ?_
                    refine At.enter rfl ?_
                    refine r_istore _ rfl ?_
                    refine q_iinc (w_p1 (by decide) (Or.inr rfl) (w_p1 (by decide) (Or.inr rfl) e21161)) (x21149.toInt + 1) rfl (by omega) (fun v21268 hv21268 => ?_)
                    refine r_goto ?_
                    have jj21269 := i21234
                    unfold JN at jj21269
                    have x21270 := rX.e hI21193 (b := 2) (hv21207)
                    have x21271 := rX.e hI21193 (b := 4) (hv21209)
                    have x21272 := rX.e hI21193 (b := 4) (hv21209)
                    have x21273 := rX.e hI21236 (b := 4) (hv21244)
                    have x21274 := rX.e hI21151 (b := 4) (hv21176)
                    have x21275 := rX.e hI21193 (b := 2) (hv21207)
                    have x21276 := rX.e hI21193 (b := 4) (hv21209)
                    have x21277 := rX.e hI21236 (b := 4) (hv21244)
                    have x21278 := rX.e hI21236 (b := 4) (hv21244)
                    have y21279 := (o21199.2.2 (by omega)).2
                    have y21280 := ((PRG0.step o21198 tok21241_ (rX.c (b := 2) (((hF21237.1 176 2 mf_X5_step_176_176_2).trans (hF21227.1 176 2 mf_X5_joinHere_176_176_2)))) (JN.ne i21234)).2.2 (by rw [(rX.c (b := 2) (((hF21237.1 176 2 mf_X5_step_176_176_2).trans (hF21227.1 176 2 mf_X5_joinHere_176_176_2))))]; omega)).2
                    have zv21281 : ((-1) : Int32).toInt = (-1) := rfl
                    exact ih21155 (400 - v21268.toInt) _ _ ⟨v21228, (-1), v21268, by first | rfl | omega, hI21236, hF21240, (w_p1 (by decide) (Or.inr rfl) (w_p1 (by decide) (Or.inr rfl) (w_p1 (by decide) (Or.inr rfl) e21156))), (w_p1 (by decide) (Or.inr rfl) (w_p1 (by decide) (Or.inr rfl) (w_p1 (by decide) (Or.inr rfl) e21157))), (w_p1 (by decide) (Or.inr rfl) (w_p1 (by decide) (Or.inr rfl) (w_p1 (by decide) (Or.inr rfl) e21158))), (w_p1 (by decide) (Or.inr rfl) (w_p1 (by decide) (Or.inr rfl) (w_e1 _ _ _))), (w_p1 (by decide) (Or.inr rfl) (w_e1 _ _ _)), (w_e1 _ _ _), by omega, by decide, by omega, hT21242, (LPI.eq (LPI.next q21166 (OPD.join o21206 (by omega)) tok21241 i21234 ⟨by omega, by omega⟩ (rX.c (b := 2) (((hF21237.1 176 2 mf_X5_step_176_176_2).trans (hF21227.1 176 2 mf_X5_joinHere_176_176_2)))) (rX.c (b := 6) (((hF21237.1 176 6 mf_X5_step_176_176_6).trans (hF21227.1 176 6 mf_X5_joinHere_176_176_6))))) rfl rfl rfl), ((PRG0.tr q21167 (PRG0.tr o21199 (PRG0.tr (PRG0.step o21198 tok21241_ (rX.c (b := 2) (((hF21237.1 176 2 mf_X5_step_176_176_2).trans (hF21227.1 176 2 mf_X5_joinHere_176_176_2)))) (JN.ne i21234)) (PRG0.eq rfl rfl)))).le (by omega)), by omega, (GPX.joinB (LPG.opA q21169 (GPX.k gx21205 (by have r1 := rul (r := a1.toInt) (by omega); have r2 := rul (r := v21191.toInt) (by omega); omega) (by have r1 := rul (r := a1.toInt) (by omega); have r2 := rul (r := v21191.toInt) (by omega); omega) (by have r1 := rul (r := a1.toInt) (by omega); have r2 := rul (r := v21191.toInt) (by omega); omega) (by have r1 := rul (r := a1.toInt) (by omega); have r2 := rul (r := v21191.toInt) (by omega); omega)) ⟨by omega, by omega⟩ (fun z => (o21199.2.2 z).1) (by omega) (by omega)) ⟨by omega, by omega⟩ tok21241 (by omega) (by omega) (by omega) (rX.c (b := 2) (((hF21237.1 176 2 mf_X5_step_176_176_2).trans (hF21227.1 176 2 mf_X5_joinHere_176_176_2)))) (rX.c (b := 6) (((hF21237.1 176 6 mf_X5_step_176_176_6).trans (hF21227.1 176 6 mf_X5_joinHere_176_176_6)))) (((hF21237.2.1 178 ma_X5_step_176_178).trans (hF21227.2.1 178 ma_X5_joinHere_176_178))) (((hF21237.2.1 179 ma_X5_step_176_179).trans (hF21227.2.1 179 ma_X5_joinHere_176_179))) (((hF21237.1 177 0 mf_X5_step_176_177_0).trans (hF21227.1 177 0 mf_X5_joinHere_176_177_0))) (by omega))⟩ ⟨by omega, by omega⟩
                  · have c21267_ : a1.toInt = 1 := en_i_ne_f c21267
                    refine At.enter rfl ?_
                    refine r_aload_n (w_p1 (by decide) (Or.inr rfl) e21156) ?_
                    refine q_getR (Sh.ref hI21236.1 kx_176 rfl) ?_
                    refine r_iload_n (w_e1 _ _ _) ?_
                    refine r_iconst 0 rfl ?_
                    refine r_callV 129 rfl [.ref 177, .int v21228, .int 0] [] (Nat.le_of_ble_eq_true rfl) rfl (T_X4_add_177 _ hI21236 v21228 0) ?_
                    rintro _ _ ⟨g21282, rfl, hI21283, hF21284, v21285, rfl, hr21286⟩
                    refine At.sti ?_
                    have hF21287 := Fr.tr hF21240 hF21284 rfl rfl
                    have zv21288 : (0 : Int32).toInt = 0 := rfl
                    refine At.enter rfl ?_
                    refine r_goto ?_
                    refine At.enter rfl ?_
                    refine r_istore _ rfl ?_
                    refine q_iinc (w_p1 (by decide) (Or.inr rfl) (w_p1 (by decide) (Or.inr rfl) e21161)) (x21149.toInt + 1) rfl (by omega) (fun v21289 hv21289 => ?_)
                    refine r_goto ?_
                    have jj21290 := i21234
                    unfold JN at jj21290
                    have x21291 := rX.e hI21193 (b := 2) (hv21207)
                    have x21292 := rX.e hI21193 (b := 4) (hv21209)
                    have x21293 := rX.e hI21193 (b := 4) (hv21209)
                    have x21294 := rX.e hI21236 (b := 4) (hv21244)
                    have x21295 := rX.e hI21151 (b := 4) (hv21176)
                    have x21296 := rX.e hI21193 (b := 2) (hv21207)
                    have x21297 := rX.e hI21193 (b := 4) (hv21209)
                    have x21298 := rX.e hI21236 (b := 4) (hv21244)
                    have x21299 := rX.e hI21283 (b := 4) (((hF21284.1 176 4 mf_X4_add_177_176_4).trans hv21244))
                    have y21300 := (o21199.2.2 (by omega)).2
                    have y21301 := ((PRG0.step o21198 tok21241_ (rX.c (b := 2) (((hF21237.1 176 2 mf_X5_step_176_176_2).trans (hF21227.1 176 2 mf_X5_joinHere_176_176_2)))) (JN.ne i21234)).2.2 (by rw [(rX.c (b := 2) (((hF21237.1 176 2 mf_X5_step_176_176_2).trans (hF21227.1 176 2 mf_X5_joinHere_176_176_2))))]; omega)).2
                    exact ih21155 (400 - v21289.toInt) _ _ ⟨v21228, v21285, v21289, by first | rfl | omega, hI21283, hF21287, (w_p1 (by decide) (Or.inr rfl) (w_p1 (by decide) (Or.inr rfl) (w_p1 (by decide) (Or.inr rfl) e21156))), (w_p1 (by decide) (Or.inr rfl) (w_p1 (by decide) (Or.inr rfl) (w_p1 (by decide) (Or.inr rfl) e21157))), (w_p1 (by decide) (Or.inr rfl) (w_p1 (by decide) (Or.inr rfl) (w_p1 (by decide) (Or.inr rfl) e21158))), (w_p1 (by decide) (Or.inr rfl) (w_p1 (by decide) (Or.inr rfl) (w_e1 _ _ _))), (w_p1 (by decide) (Or.inr rfl) (w_e1 _ _ _)), (w_e1 _ _ _), by omega, by omega, by omega, (TKX.c hT21242 ((hF21284.2.1 175 ma_X4_add_177_175)) ((hF21284.1 174 1 mf_X4_add_177_174_1)) ((hF21284.1 176 3 mf_X4_add_177_176_3)) ((hF21284.1 176 4 mf_X4_add_177_176_4)) ((hF21284.1 176 5 mf_X4_add_177_176_5))), (LPI.eq (LPI.next q21166 (OPD.join o21206 (by omega)) tok21241 i21234 ⟨by omega, by omega⟩ (rX.c (b := 2) (((hF21237.1 176 2 mf_X5_step_176_176_2).trans (hF21227.1 176 2 mf_X5_joinHere_176_176_2)))) (rX.c (b := 6) (((hF21237.1 176 6 mf_X5_step_176_176_6).trans (hF21227.1 176 6 mf_X5_joinHere_176_176_6))))) (rX.c (b := 2) ((hF21284.1 176 2 mf_X4_add_177_176_2))) (rX.c (b := 4) ((hF21284.1 176 4 mf_X4_add_177_176_4))) (rX.c (b := 6) ((hF21284.1 176 6 mf_X4_add_177_176_6)))), ((PRG0.tr q21167 (PRG0.tr o21199 (PRG0.tr (PRG0.step o21198 tok21241_ (rX.c (b := 2) (((hF21237.1 176 2 mf_X5_step_176_176_2).trans (hF21227.1 176 2 mf_X5_joinHere_176_176_2)))) (JN.ne i21234)) (PRG0.eq (rX.c (b := 4) ((hF21284.1 176 4 mf_X4_add_177_176_4))) (rX.c (b := 2) ((hF21284.1 176 2 mf_X4_add_177_176_2))))))).le (by omega)), by omega, (GPX.joinC (LPG.opA q21169 (GPX.k gx21205 (by have r1 := rul (r := a1.toInt) (by omega); have r2 := rul (r := v21191.toInt) (by omega); omega) (by have r1 := rul (r := a1.toInt) (by omega); have r2 := rul (r := v21191.toInt) (by omega); omega) (by have r1 := rul (r := a1.toInt) (by omega); have r2 := rul (r := v21191.toInt) (by omega); omega) (by have r1 := rul (r := a1.toInt) (by omega); have r2 := rul (r := v21191.toInt) (by omega); omega)) ⟨by omega, by omega⟩ (fun z => (o21199.2.2 z).1) (by omega) (by omega)) ⟨by omega, by omega⟩ tok21241 (by omega) (by omega) (by omega) (rX.c (b := 2) (((hF21237.1 176 2 mf_X5_step_176_176_2).trans (hF21227.1 176 2 mf_X5_joinHere_176_176_2)))) (rX.c (b := 6) (((hF21237.1 176 6 mf_X5_step_176_176_6).trans (hF21227.1 176 6 mf_X5_joinHere_176_176_6)))) (((hF21237.2.1 178 ma_X5_step_176_178).trans (hF21227.2.1 178 ma_X5_joinHere_176_178))) (((hF21237.2.1 179 ma_X5_step_176_179).trans (hF21227.2.1 179 ma_X5_joinHere_176_179))) (((hF21237.1 177 0 mf_X5_step_176_177_0).trans (hF21227.1 177 0 mf_X5_joinHere_176_177_0))) (fun _ hl => ADP.j (ADP.fr hr21286.2 SCX.rf SCX.rf) (by omega)) (rX.c (b := 2) ((hF21284.1 176 2 mf_X4_add_177_176_2))) (rX.c (b := 4) ((hF21284.1 176 4 mf_X4_add_177_176_4))) (rX.c (b := 6) ((hF21284.1 176 6 mf_X4_add_177_176_6))))⟩ ⟨by omega, by omega⟩
              · have c21233_ : v21228.toInt = (-1) := en_i_ne_f c21233
                have i21302 := BLN.no hb21232 (by omega)
                refine At.enter rfl ?_
                refine r_vret ?_
                have x21303 := rX.e hI21226 (b := 2) (((hF21227.1 176 2 mf_X5_joinHere_176_176_2).trans hv21207))
                have x21304 := rX.e hI21226 (b := 4) (((hF21227.1 176 4 mf_X5_joinHere_176_176_4).trans hv21209))
                obtain ⟨v21305, hv21305⟩ : ∃ v, gI g21192 176 6 = v := ⟨_, rfl⟩
                have tv21305 := congrArg Int32.toInt hv21305
                have x21306 := rX.e hI21226 (b := 6) (((hF21227.1 176 6 mf_X5_joinHere_176_176_6).trans hv21305))
                obtain ⟨v21307, hv21307⟩ : ∃ v, gI g0 176 2 = v := ⟨_, rfl⟩
                have tv21307 := congrArg Int32.toInt hv21307
                have x21308 := rX.e hI0 (b := 2) (hv21307)
                have x21309 := rX.e hI0 (b := 4) (hv21173)
                have x21310 := rX.e hI21151 (b := 2) (hv21202)
                have x21311 := rX.e hI21151 (b := 4) (hv21176)
                have x21312 := rX.e hI21193 (b := 2) (hv21207)
                have x21313 := rX.e hI21193 (b := 4) (hv21209)
                exact ⟨_, rfl, hI21226, hF21230, rfl, ⟨⟨(TKX.c o21198 ((hF21227.2.1 175 ma_X5_joinHere_176_175)) ((hF21227.1 174 1 mf_X5_joinHere_176_174_1)) ((hF21227.1 176 3 mf_X5_joinHere_176_176_3)) ((hF21227.1 176 4 mf_X5_joinHere_176_176_4)) ((hF21227.1 176 5 mf_X5_joinHere_176_176_5))), (PRG0.tr q21167 (PRG0.tr o21199 (PRG0.eq (rX.c (b := 4) ((hF21227.1 176 4 mf_X5_joinHere_176_176_4))) (rX.c (b := 2) ((hF21227.1 176 2 mf_X5_joinHere_176_176_2)))))).le (by omega), LPI.end_ q21166 (OPD.join o21206 (by omega)) (rX.c (b := 2) ((hF21227.1 176 2 mf_X5_joinHere_176_176_2))) (rX.c (b := 4) ((hF21227.1 176 4 mf_X5_joinHere_176_176_4))) (rX.c (b := 6) ((hF21227.1 176 6 mf_X5_joinHere_176_176_6))), (fun hz => (by rw [CDX.c ((hF21227.2.1 175 ma_X5_joinHere_176_175)) ((hF21227.1 176 3 mf_X5_joinHere_176_176_3)) ((hF21227.1 176 4 mf_X5_joinHere_176_176_4)) ((hF21227.1 176 5 mf_X5_joinHere_176_176_5))]; exact NJ.mk (o21201 (by omega)) (by omega) i21302))⟩, (GPX.eq (LPG.opA q21169 (GPX.k gx21205 (by have r1 := rul (r := a1.toInt) (by omega); have r2 := rul (r := v21191.toInt) (by omega); omega) (by have r1 := rul (r := a1.toInt) (by omega); have r2 := rul (r := v21191.toInt) (by omega); omega) (by have r1 := rul (r := a1.toInt) (by omega); have r2 := rul (r := v21191.toInt) (by omega); omega) (by have r1 := rul (r := a1.toInt) (by omega); have r2 := rul (r := v21191.toInt) (by omega); omega)) ⟨by omega, by omega⟩ (fun z => (o21199.2.2 z).1) (by omega) (by omega)) ((hF21227.2.1 178 ma_X5_joinHere_176_178)) ((hF21227.2.1 179 ma_X5_joinHere_176_179)) ((hF21227.1 177 0 mf_X5_joinHere_176_177_0)) (rX.c (b := 2) ((hF21227.1 176 2 mf_X5_joinHere_176_176_2))) (rX.c (b := 4) ((hF21227.1 176 4 mf_X5_joinHere_176_176_4))) (rX.c (b := 6) ((hF21227.1 176 6 mf_X5_joinHere_176_176_6))))⟩⟩
          · have c21212_ : x21147.toInt ≠ (-1) := en_i_eq_f c21212
            refine At.enter rfl ?_
            refine r_aload_n e21156 ?_
            refine q_getR (Sh.ref hI21193.1 kx_176 rfl) ?_
            refine r_iload_n e21159 ?_
            refine r_iconst 0 rfl ?_
            refine r_callV 82 rfl [.ref 177, .int x21147, .int 0] [] (Nat.le_of_ble_eq_true rfl) rfl (T_X4_add_177 _ hI21193 x21147 0) ?_
            rintro _ _ ⟨g21314, rfl, hI21315, hF21316, v21317, rfl, hr21318⟩
            refine At.sti ?_
            have hF21319 := Fr.tr hF21197 hF21316 rfl rfl
            have zv21320 : (0 : Int32).toInt = 0 := rfl
            refine At.enter rfl ?_
            refine r_pop rfl ?_
            refine Ar.fall 83 rfl ?_
            refine At.enter rfl ?_
            refine r_aload_n e21156 ?_
            refine q_getI (Sh.int hI21315.1 kx_176 rfl) v21207 ((hF21316.1 176 2 mf_X4_add_177_176_2).trans hv21207) ?_
            refine r_iconst (-1) rfl ?_
            refine r_ics 91 rfl (fun c21321 => ?_) (fun c21321 => ?_)
            · have c21321_ : v21207.toInt ≠ (-1) := en_i_ne_t c21321
              refine At.enter rfl ?_
              refine r_iconst (-1) rfl ?_
              refine Ar.fall 100 rfl ?_
              refine At.enter rfl ?_
              refine r_istore_n _ rfl ?_
              refine r_iload_n (w_e1 _ _ _) ?_
              refine r_iconst (-1) rfl ?_
              refine r_icf 106 rfl (by decide) ?_
              refine At.enter rfl ?_
              refine r_vret ?_
              have x21322 := rX.e hI21315 (b := 2) (((hF21316.1 176 2 mf_X4_add_177_176_2).trans hv21207))
              have x21323 := rX.e hI21315 (b := 4) (((hF21316.1 176 4 mf_X4_add_177_176_4).trans hv21209))
              obtain ⟨v21324, hv21324⟩ : ∃ v, gI g21192 176 6 = v := ⟨_, rfl⟩
              have tv21324 := congrArg Int32.toInt hv21324
              have x21325 := rX.e hI21315 (b := 6) (((hF21316.1 176 6 mf_X4_add_177_176_6).trans hv21324))
              obtain ⟨v21326, hv21326⟩ : ∃ v, gI g0 176 2 = v := ⟨_, rfl⟩
              have tv21326 := congrArg Int32.toInt hv21326
              have x21327 := rX.e hI0 (b := 2) (hv21326)
              have x21328 := rX.e hI0 (b := 4) (hv21173)
              have x21329 := rX.e hI21151 (b := 2) (hv21202)
              have x21330 := rX.e hI21151 (b := 4) (hv21176)
              have x21331 := rX.e hI21193 (b := 2) (hv21207)
              have x21332 := rX.e hI21193 (b := 4) (hv21209)
              exact ⟨_, rfl, hI21315, hF21319, rfl, ⟨⟨(TKX.c o21198 ((hF21316.2.1 175 ma_X4_add_177_175)) ((hF21316.1 174 1 mf_X4_add_177_174_1)) ((hF21316.1 176 3 mf_X4_add_177_176_3)) ((hF21316.1 176 4 mf_X4_add_177_176_4)) ((hF21316.1 176 5 mf_X4_add_177_176_5))), (PRG0.tr q21167 (PRG0.tr o21199 (PRG0.eq (rX.c (b := 4) ((hF21316.1 176 4 mf_X4_add_177_176_4))) (rX.c (b := 2) ((hF21316.1 176 2 mf_X4_add_177_176_2)))))).le (by omega), LPI.end_ q21166 (OPD.join o21206 (by omega)) (rX.c (b := 2) ((hF21316.1 176 2 mf_X4_add_177_176_2))) (rX.c (b := 4) ((hF21316.1 176 4 mf_X4_add_177_176_4))) (rX.c (b := 6) ((hF21316.1 176 6 mf_X4_add_177_176_6))), (fun hz => absurd hz (by omega))⟩, (LPG.opB q21169 (GPX.k gx21205 (by have r1 := rul (r := a1.toInt) (by omega); have r2 := rul (r := v21191.toInt) (by omega); omega) (by have r1 := rul (r := a1.toInt) (by omega); have r2 := rul (r := v21191.toInt) (by omega); omega) (by have r1 := rul (r := a1.toInt) (by omega); have r2 := rul (r := v21191.toInt) (by omega); omega) (by have r1 := rul (r := a1.toInt) (by omega); have r2 := rul (r := v21191.toInt) (by omega); omega)) ⟨by omega, by omega⟩ (fun z => (o21199.2.2 z).1) (by omega) (by omega) (TKX.someC o21198 (((hF21194.2.1 175 (by decide)).trans (hF21152.2.1 175 (by decide)))) (((hF21194.1 174 1 (by decide)).trans (hF21152.1 174 1 (by decide))))).choose_spec (by omega) (fun hz hr2 => (o21201 hz).2.2.2 (by omega)) (fun _ hl => ADP.b (ADP.fr hr21318.2 SCX.rf SCX.rf) hl) (rX.c (b := 2) ((hF21316.1 176 2 mf_X4_add_177_176_2))) (rX.c (b := 4) ((hF21316.1 176 4 mf_X4_add_177_176_4))) (rX.c (b := 6) ((hF21316.1 176 6 mf_X4_add_177_176_6))))⟩⟩
            · have c21321_ : v21207.toInt = (-1) := en_i_ne_f c21321
              refine At.enter rfl ?_
              refine r_aload_n e21156 ?_
              refine r_iload_n e21157 ?_
              refine r_callV 96 rfl [.ref 176, .int a1] [] (Nat.le_of_ble_eq_true rfl) rfl (T_X5_joinHere_176 _ hI21315 a1 (by omega) (TKX.c o21198 ((hF21316.2.1 175 ma_X4_add_177_175)) ((hF21316.1 174 1 mf_X4_add_177_174_1)) ((hF21316.1 176 3 mf_X4_add_177_176_3)) ((hF21316.1 176 4 mf_X4_add_177_176_4)) ((hF21316.1 176 5 mf_X4_add_177_176_5)))) ?_
              rintro _ _ ⟨g21333, rfl, hI21334, hF21335, v21336, rfl, hr21337⟩
              refine At.sti ?_
              have hF21338 := Fr.tr hF21319 hF21335 rfl rfl
              have je21339 : v21336.toInt ≠ -1 → v21336.toInt = CDX g21192 - 18 := by have z := hr21337.2.2; rw [CDX.c ((hF21316.2.1 175 ma_X4_add_177_175)) ((hF21316.1 176 3 mf_X4_add_177_176_3)) ((hF21316.1 176 4 mf_X4_add_177_176_4)) ((hF21316.1 176 5 mf_X4_add_177_176_5))] at z; exact z
              have hb21340 : BLN (JN a1.toInt (CDX g21192)) v21336.toInt := by have z := hr21337.2.1; rw [CDX.c ((hF21316.2.1 175 ma_X4_add_177_175)) ((hF21316.1 176 3 mf_X4_add_177_176_3)) ((hF21316.1 176 4 mf_X4_add_177_176_4)) ((hF21316.1 176 5 mf_X4_add_177_176_5))] at z; exact z
              refine At.enter rfl ?_
              refine r_goto ?_
              refine At.enter rfl ?_
              refine r_istore_n _ rfl ?_
              refine r_iload_n (w_e1 _ _ _) ?_
              refine r_iconst (-1) rfl ?_
              refine r_ics 106 rfl (fun c21341 => ?_) (fun c21341 => ?_)
              · have c21341_ : v21336.toInt ≠ (-1) := en_i_ne_t c21341
                have i21342 := BLN.yes hb21340 (by omega)
                refine At.enter rfl ?_
                refine r_aload_n (w_p1 (by decide) (Or.inr rfl) e21156) ?_
                refine r_callV 111 rfl [.ref 176] [] (Nat.le_of_ble_eq_true rfl) rfl (T_X5_step_176 _ hI21334 (TKX.c o21198 (((hF21335.2.1 175 ma_X5_joinHere_176_175).trans (hF21316.2.1 175 ma_X4_add_177_175))) (((hF21335.1 174 1 mf_X5_joinHere_176_174_1).trans (hF21316.1 174 1 mf_X4_add_177_174_1))) (((hF21335.1 176 3 mf_X5_joinHere_176_176_3).trans (hF21316.1 176 3 mf_X4_add_177_176_3))) (((hF21335.1 176 4 mf_X5_joinHere_176_176_4).trans (hF21316.1 176 4 mf_X4_add_177_176_4))) (((hF21335.1 176 5 mf_X5_joinHere_176_176_5).trans (hF21316.1 176 5 mf_X4_add_177_176_5)))).1 (TKX.c o21198 (((hF21335.2.1 175 ma_X5_joinHere_176_175).trans (hF21316.2.1 175 ma_X4_add_177_175))) (((hF21335.1 174 1 mf_X5_joinHere_176_174_1).trans (hF21316.1 174 1 mf_X4_add_177_174_1))) (((hF21335.1 176 3 mf_X5_joinHere_176_176_3).trans (hF21316.1 176 3 mf_X4_add_177_176_3))) (((hF21335.1 176 4 mf_X5_joinHere_176_176_4).trans (hF21316.1 176 4 mf_X4_add_177_176_4))) (((hF21335.1 176 5 mf_X5_joinHere_176_176_5).trans (hF21316.1 176 5 mf_X4_add_177_176_5)))).2.1.le.2.1) ?_
                rintro _ _ ⟨g21343, rfl, hI21344, hF21345, rfl, hr21347⟩
                refine At.stn ?_
                have hF21348 := Fr.tr hF21338 hF21345 rfl rfl
                have tok21349_ := hr21347.2
                rw [TX.c (((hF21335.2.1 175 ma_X5_joinHere_176_175).trans (hF21316.2.1 175 ma_X4_add_177_175))), nX.c (((hF21335.1 174 1 mf_X5_joinHere_176_174_1).trans (hF21316.1 174 1 mf_X4_add_177_174_1))), rX.c (b := 5) (((hF21335.1 176 5 mf_X5_joinHere_176_176_5).trans (hF21316.1 176 5 mf_X4_add_177_176_5)))] at tok21349_
                have tok21349 := TKX.tok o21198 tok21349_
                rw [TX.c (((hF21194.2.1 175 (by decide)).trans (hF21152.2.1 175 (by decide)))), nX.c (((hF21194.1 174 1 (by decide)).trans (hF21152.1 174 1 (by decide))))] at tok21349
                have hT21350 := hr21347.1
                have x21351 := rX.e hI21334 (b := 4) ((((hF21335.1 176 4 mf_X5_joinHere_176_176_4).trans (hF21316.1 176 4 mf_X4_add_177_176_4)).trans hv21209))
                obtain ⟨v21352, hv21352⟩ : ∃ v, gI g21343 176 4 = v := ⟨_, rfl⟩
                have rv21352 := RgF.at hI21344.2.1 (p := 176) (b := 4) rfl
                rw [hv21352] at rv21352
                dsimp only at rv21352
                have tv21352 := congrArg Int32.toInt hv21352
                have x21353 := rX.e hI21344 (b := 4) (hv21352)
                refine At.enter rfl ?_
                refine r_iload_n (w_p1 (by decide) (Or.inr rfl) e21157) ?_
                refine r_ifs 115 rfl (fun c21354 => ?_) (fun c21354 => ?_)
                · have c21354_ : a1.toInt = 0 := en_k_eq_t c21354
                  refine At.enter rfl ?_
                  refine r_aload_n (w_p1 (by decide) (Or.inr rfl) e21156) ?_
                  refine q_getR (Sh.ref hI21344.1 kx_176 rfl) ?_
                  refine r_iload_n (w_e1 _ _ _) ?_
                  refine r_iconst 0 rfl ?_
                  refine r_callV 129 rfl [.ref 177, .int v21336, .int 0] [] (Nat.le_of_ble_eq_true rfl) rfl (T_X4_add_177 _ hI21344 v21336 0) ?_
                  rintro _ _ ⟨g21355, rfl, hI21356, hF21357, v21358, rfl, hr21359⟩
                  refine At.sti ?_
                  have hF21360 := Fr.tr hF21348 hF21357 rfl rfl
                  have zv21361 : (0 : Int32).toInt = 0 := rfl
                  refine At.enter rfl ?_
                  refine r_goto ?_
                  refine At.enter rfl ?_
                  refine r_istore _ rfl ?_
                  refine q_iinc (w_p1 (by decide) (Or.inr rfl) (w_p1 (by decide) (Or.inr rfl) e21161)) (x21149.toInt + 1) rfl (by omega) (fun v21362 hv21362 => ?_)
                  refine r_goto ?_
                  have jj21363 := i21342
                  unfold JN at jj21363
                  have x21364 := rX.e hI21193 (b := 2) (hv21207)
                  have x21365 := rX.e hI21193 (b := 4) (hv21209)
                  have x21366 := rX.e hI21315 (b := 4) (((hF21316.1 176 4 mf_X4_add_177_176_4).trans hv21209))
                  have x21367 := rX.e hI21344 (b := 4) (hv21352)
                  have x21368 := rX.e hI21151 (b := 4) (hv21176)
                  have x21369 := rX.e hI21193 (b := 2) (hv21207)
                  have x21370 := rX.e hI21193 (b := 4) (hv21209)
                  have x21371 := rX.e hI21344 (b := 4) (hv21352)
                  have x21372 := rX.e hI21356 (b := 4) (((hF21357.1 176 4 mf_X4_add_177_176_4).trans hv21352))
                  have y21373 := (o21199.2.2 (by omega)).2
                  have y21374 := ((PRG0.step o21198 tok21349_ (rX.c (b := 2) (((hF21345.1 176 2 mf_X5_step_176_176_2).trans ((hF21335.1 176 2 mf_X5_joinHere_176_176_2).trans (hF21316.1 176 2 mf_X4_add_177_176_2))))) (JN.ne i21342)).2.2 (by rw [(rX.c (b := 2) (((hF21345.1 176 2 mf_X5_step_176_176_2).trans ((hF21335.1 176 2 mf_X5_joinHere_176_176_2).trans (hF21316.1 176 2 mf_X4_add_177_176_2)))))]; omega)).2
                  exact ih21155 (400 - v21362.toInt) _ _ ⟨v21336, v21358, v21362, by first | rfl | omega, hI21356, hF21360, (w_p1 (by decide) (Or.inr rfl) (w_p1 (by decide) (Or.inr rfl) (w_p1 (by decide) (Or.inr rfl) e21156))), (w_p1 (by decide) (Or.inr rfl) (w_p1 (by decide) (Or.inr rfl) (w_p1 (by decide) (Or.inr rfl) e21157))), (w_p1 (by decide) (Or.inr rfl) (w_p1 (by decide) (Or.inr rfl) (w_p1 (by decide) (Or.inr rfl) e21158))), (w_p1 (by decide) (Or.inr rfl) (w_p1 (by decide) (Or.inr rfl) (w_e1 _ _ _))), (w_p1 (by decide) (Or.inr rfl) (w_e1 _ _ _)), (w_e1 _ _ _), by omega, by omega, by omega, (TKX.c hT21350 ((hF21357.2.1 175 ma_X4_add_177_175)) ((hF21357.1 174 1 mf_X4_add_177_174_1)) ((hF21357.1 176 3 mf_X4_add_177_176_3)) ((hF21357.1 176 4 mf_X4_add_177_176_4)) ((hF21357.1 176 5 mf_X4_add_177_176_5))), (LPI.eq (LPI.next q21166 (OPD.join o21206 (by omega)) tok21349 i21342 ⟨by omega, by omega⟩ (rX.c (b := 2) (((hF21345.1 176 2 mf_X5_step_176_176_2).trans ((hF21335.1 176 2 mf_X5_joinHere_176_176_2).trans (hF21316.1 176 2 mf_X4_add_177_176_2))))) (rX.c (b := 6) (((hF21345.1 176 6 mf_X5_step_176_176_6).trans ((hF21335.1 176 6 mf_X5_joinHere_176_176_6).trans (hF21316.1 176 6 mf_X4_add_177_176_6)))))) (rX.c (b := 2) ((hF21357.1 176 2 mf_X4_add_177_176_2))) (rX.c (b := 4) ((hF21357.1 176 4 mf_X4_add_177_176_4))) (rX.c (b := 6) ((hF21357.1 176 6 mf_X4_add_177_176_6)))), ((PRG0.tr q21167 (PRG0.tr o21199 (PRG0.tr (PRG0.step o21198 tok21349_ (rX.c (b := 2) (((hF21345.1 176 2 mf_X5_step_176_176_2).trans ((hF21335.1 176 2 mf_X5_joinHere_176_176_2).trans (hF21316.1 176 2 mf_X4_add_177_176_2))))) (JN.ne i21342)) (PRG0.eq (rX.c (b := 4) ((hF21357.1 176 4 mf_X4_add_177_176_4))) (rX.c (b := 2) ((hF21357.1 176 2 mf_X4_add_177_176_2))))))).le (by omega)), by omega, (GPX.joinC (LPG.opB q21169 (GPX.k gx21205 (by have r1 := rul (r := a1.toInt) (by omega); have r2 := rul (r := v21191.toInt) (by omega); omega) (by have r1 := rul (r := a1.toInt) (by omega); have r2 := rul (r := v21191.toInt) (by omega); omega) (by have r1 := rul (r := a1.toInt) (by omega); have r2 := rul (r := v21191.toInt) (by omega); omega) (by have r1 := rul (r := a1.toInt) (by omega); have r2 := rul (r := v21191.toInt) (by omega); omega)) ⟨by omega, by omega⟩ (fun z => (o21199.2.2 z).1) (by omega) (by omega) (TKX.someC o21198 (((hF21194.2.1 175 (by decide)).trans (hF21152.2.1 175 (by decide)))) (((hF21194.1 174 1 (by decide)).trans (hF21152.1 174 1 (by decide))))).choose_spec (by omega) (fun hz hr2 => (o21201 hz).2.2.2 (by omega)) (fun _ hl => ADP.b (ADP.fr hr21318.2 SCX.rf SCX.rf) hl) (rX.c (b := 2) ((hF21316.1 176 2 mf_X4_add_177_176_2))) (rX.c (b := 4) ((hF21316.1 176 4 mf_X4_add_177_176_4))) (rX.c (b := 6) ((hF21316.1 176 6 mf_X4_add_177_176_6)))) ⟨by omega, by omega⟩ (by rw [(rX.c (b := 4) ((hF21316.1 176 4 mf_X4_add_177_176_4)))]; exact tok21349) (by omega) (by omega) (by omega) (rX.c (b := 2) (((hF21345.1 176 2 mf_X5_step_176_176_2).trans (hF21335.1 176 2 mf_X5_joinHere_176_176_2)))) (rX.c (b := 6) (((hF21345.1 176 6 mf_X5_step_176_176_6).trans (hF21335.1 176 6 mf_X5_joinHere_176_176_6)))) (((hF21345.2.1 178 ma_X5_step_176_178).trans (hF21335.2.1 178 ma_X5_joinHere_176_178))) (((hF21345.2.1 179 ma_X5_step_176_179).trans (hF21335.2.1 179 ma_X5_joinHere_176_179))) (((hF21345.1 177 0 mf_X5_step_176_177_0).trans (hF21335.1 177 0 mf_X5_joinHere_176_177_0))) (fun _ hl => ADP.j (ADP.fr hr21359.2 SCX.rf SCX.rf) (by omega)) (rX.c (b := 2) ((hF21357.1 176 2 mf_X4_add_177_176_2))) (rX.c (b := 4) ((hF21357.1 176 4 mf_X4_add_177_176_4))) (rX.c (b := 6) ((hF21357.1 176 6 mf_X4_add_177_176_6))))⟩ ⟨by omega, by omega⟩
                · have c21354_ : a1.toInt ≠ 0 := en_k_eq_f c21354
                  refine At.enter rfl ?_
                  refine r_iload_n (w_p1 (by decide) (Or.inr rfl) e21157) ?_
                  refine r_iconst 1 rfl ?_
                  refine r_ics 120 rfl (fun c21375 => ?_) (fun c21375 => ?_)
                  · have c21375_ : a1.toInt ≠ 1 := en_i_ne_t c21375
                    refine At.enter rfl ?_
                    refine r_iconst (-1) rfl ?_
                    refine Ar.fall 133 rfl ?_
                    refine At.enter rfl ?_
                    refine r_istore _ rfl ?_
                    refine q_iinc (w_p1 (by decide) (Or.inr rfl) (w_p1 (by decide) (Or.inr rfl) e21161)) (x21149.toInt + 1) rfl (by omega) (fun v21376 hv21376 => ?_)
                    refine r_goto ?_
                    have jj21377 := i21342
                    unfold JN at jj21377
                    have x21378 := rX.e hI21193 (b := 2) (hv21207)
                    have x21379 := rX.e hI21193 (b := 4) (hv21209)
                    have x21380 := rX.e hI21315 (b := 4) (((hF21316.1 176 4 mf_X4_add_177_176_4).trans hv21209))
                    have x21381 := rX.e hI21344 (b := 4) (hv21352)
                    have x21382 := rX.e hI21151 (b := 4) (hv21176)
                    have x21383 := rX.e hI21193 (b := 2) (hv21207)
                    have x21384 := rX.e hI21193 (b := 4) (hv21209)
                    have x21385 := rX.e hI21344 (b := 4) (hv21352)
                    have x21386 := rX.e hI21344 (b := 4) (hv21352)
                    have y21387 := (o21199.2.2 (by omega)).2
                    have y21388 := ((PRG0.step o21198 tok21349_ (rX.c (b := 2) (((hF21345.1 176 2 mf_X5_step_176_176_2).trans ((hF21335.1 176 2 mf_X5_joinHere_176_176_2).trans (hF21316.1 176 2 mf_X4_add_177_176_2))))) (JN.ne i21342)).2.2 (by rw [(rX.c (b := 2) (((hF21345.1 176 2 mf_X5_step_176_176_2).trans ((hF21335.1 176 2 mf_X5_joinHere_176_176_2).trans (hF21316.1 176 2 mf_X4_add_177_176_2)))))]; omega)).2
                    have zv21389 : ((-1) : Int32).toInt = (-1) := rfl
                    exact ih21155 (400 - v21376.toInt) _ _ ⟨v21336, (-1), v21376, by first | rfl | omega, hI21344, hF21348, (w_p1 (by decide) (Or.inr rfl) (w_p1 (by decide) (Or.inr rfl) (w_p1 (by decide) (Or.inr rfl) e21156))), (w_p1 (by decide) (Or.inr rfl) (w_p1 (by decide) (Or.inr rfl) (w_p1 (by decide) (Or.inr rfl) e21157))), (w_p1 (by decide) (Or.inr rfl) (w_p1 (by decide) (Or.inr rfl) (w_p1 (by decide) (Or.inr rfl) e21158))), (w_p1 (by decide) (Or.inr rfl) (w_p1 (by decide) (Or.inr rfl) (w_e1 _ _ _))), (w_p1 (by decide) (Or.inr rfl) (w_e1 _ _ _)), (w_e1 _ _ _), by omega, by decide, by omega, hT21350, (LPI.eq (LPI.next q21166 (OPD.join o21206 (by omega)) tok21349 i21342 ⟨by omega, by omega⟩ (rX.c (b := 2) (((hF21345.1 176 2 mf_X5_step_176_176_2).trans ((hF21335.1 176 2 mf_X5_joinHere_176_176_2).trans (hF21316.1 176 2 mf_X4_add_177_176_2))))) (rX.c (b := 6) (((hF21345.1 176 6 mf_X5_step_176_176_6).trans ((hF21335.1 176 6 mf_X5_joinHere_176_176_6).trans (hF21316.1 176 6 mf_X4_add_177_176_6)))))) rfl rfl rfl), ((PRG0.tr q21167 (PRG0.tr o21199 (PRG0.tr (PRG0.step o21198 tok21349_ (rX.c (b := 2) (((hF21345.1 176 2 mf_X5_step_176_176_2).trans ((hF21335.1 176 2 mf_X5_joinHere_176_176_2).trans (hF21316.1 176 2 mf_X4_add_177_176_2))))) (JN.ne i21342)) (PRG0.eq rfl rfl)))).le (by omega)), by omega, (GPX.joinB (LPG.opB q21169 (GPX.k gx21205 (by have r1 := rul (r := a1.toInt) (by omega); have r2 := rul (r := v21191.toInt) (by omega); omega) (by have r1 := rul (r := a1.toInt) (by omega); have r2 := rul (r := v21191.toInt) (by omega); omega) (by have r1 := rul (r := a1.toInt) (by omega); have r2 := rul (r := v21191.toInt) (by omega); omega) (by have r1 := rul (r := a1.toInt) (by omega); have r2 := rul (r := v21191.toInt) (by omega); omega)) ⟨by omega, by omega⟩ (fun z => (o21199.2.2 z).1) (by omega) (by omega) (TKX.someC o21198 (((hF21194.2.1 175 (by decide)).trans (hF21152.2.1 175 (by decide)))) (((hF21194.1 174 1 (by decide)).trans (hF21152.1 174 1 (by decide))))).choose_spec (by omega) (fun hz hr2 => (o21201 hz).2.2.2 (by omega)) (fun _ hl => ADP.b (ADP.fr hr21318.2 SCX.rf SCX.rf) hl) (rX.c (b := 2) ((hF21316.1 176 2 mf_X4_add_177_176_2))) (rX.c (b := 4) ((hF21316.1 176 4 mf_X4_add_177_176_4))) (rX.c (b := 6) ((hF21316.1 176 6 mf_X4_add_177_176_6)))) ⟨by omega, by omega⟩ (by rw [(rX.c (b := 4) ((hF21316.1 176 4 mf_X4_add_177_176_4)))]; exact tok21349) (by omega) (by omega) (by omega) (rX.c (b := 2) (((hF21345.1 176 2 mf_X5_step_176_176_2).trans (hF21335.1 176 2 mf_X5_joinHere_176_176_2)))) (rX.c (b := 6) (((hF21345.1 176 6 mf_X5_step_176_176_6).trans (hF21335.1 176 6 mf_X5_joinHere_176_176_6)))) (((hF21345.2.1 178 ma_X5_step_176_178).trans (hF21335.2.1 178 ma_X5_joinHere_176_178))) (((hF21345.2.1 179 ma_X5_step_176_179).trans (hF21335.2.1 179 ma_X5_joinHere_176_179))) (((hF21345.1 177 0 mf_X5_step_176_177_0).trans (hF21335.1 177 0 mf_X5_joinHere_176_177_0))) (by omega))⟩ ⟨by omega, by omega⟩
                  · have c21375_ : a1.toInt = 1 := en_i_ne_f c21375
                    refine At.enter rfl ?_
                    refine r_aload_n (w_p1 (by decide) (Or.inr rfl) e21156) ?_
                    refine q_getR (Sh.ref hI21344.1 kx_176 rfl) ?_
                    refine r_iload_n (w_e1 _ _ _) ?_
                    refine r_iconst 0 rfl ?_
                    refine r_callV 129 rfl [.ref 177, .int v21336, .int 0] [] (Nat.le_of_ble_eq_true rfl) rfl (T_X4_add_177 _ hI21344 v21336 0) ?_
                    rintro _ _ ⟨g21390, rfl, hI21391, hF21392, v21393, rfl, hr21394⟩
                    refine At.sti ?_
                    have hF21395 := Fr.tr hF21348 hF21392 rfl rfl
                    have zv21396 : (0 : Int32).toInt = 0 := rfl
                    refine At.enter rfl ?_
                    refine r_goto ?_
                    refine At.enter rfl ?_
                    refine r_istore _ rfl ?_
                    refine q_iinc (w_p1 (by decide) (Or.inr rfl) (w_p1 (by decide) (Or.inr rfl) e21161)) (x21149.toInt + 1) rfl (by omega) (fun v21397 hv21397 => ?_)
                    refine r_goto ?_
                    have jj21398 := i21342
                    unfold JN at jj21398
                    have x21399 := rX.e hI21193 (b := 2) (hv21207)
                    have x21400 := rX.e hI21193 (b := 4) (hv21209)
                    have x21401 := rX.e hI21315 (b := 4) (((hF21316.1 176 4 mf_X4_add_177_176_4).trans hv21209))
                    have x21402 := rX.e hI21344 (b := 4) (hv21352)
                    have x21403 := rX.e hI21151 (b := 4) (hv21176)
                    have x21404 := rX.e hI21193 (b := 2) (hv21207)
                    have x21405 := rX.e hI21193 (b := 4) (hv21209)
                    have x21406 := rX.e hI21344 (b := 4) (hv21352)
                    have x21407 := rX.e hI21391 (b := 4) (((hF21392.1 176 4 mf_X4_add_177_176_4).trans hv21352))
                    have y21408 := (o21199.2.2 (by omega)).2
                    have y21409 := ((PRG0.step o21198 tok21349_ (rX.c (b := 2) (((hF21345.1 176 2 mf_X5_step_176_176_2).trans ((hF21335.1 176 2 mf_X5_joinHere_176_176_2).trans (hF21316.1 176 2 mf_X4_add_177_176_2))))) (JN.ne i21342)).2.2 (by rw [(rX.c (b := 2) (((hF21345.1 176 2 mf_X5_step_176_176_2).trans ((hF21335.1 176 2 mf_X5_joinHere_176_176_2).trans (hF21316.1 176 2 mf_X4_add_177_176_2)))))]; omega)).2
                    exact ih21155 (400 - v21397.toInt) _ _ ⟨v21336, v21393, v21397, by first | rfl | omega, hI21391, hF21395, (w_p1 (by decide) (Or.inr rfl) (w_p1 (by decide) (Or.inr rfl) (w_p1 (by decide) (Or.inr rfl) e21156))), (w_p1 (by decide) (Or.inr rfl) (w_p1 (by decide) (Or.inr rfl) (w_p1 (by decide) (Or.inr rfl) e21157))), (w_p1 (by decide) (Or.inr rfl) (w_p1 (by decide) (Or.inr rfl) (w_p1 (by decide) (Or.inr rfl) e21158))), (w_p1 (by decide) (Or.inr rfl) (w_p1 (by decide) (Or.inr rfl) (w_e1 _ _ _))), (w_p1 (by decide) (Or.inr rfl) (w_e1 _ _ _)), (w_e1 _ _ _), by omega, by omega, by omega, (TKX.c hT21350 ((hF21392.2.1 175 ma_X4_add_177_175)) ((hF21392.1 174 1 mf_X4_add_177_174_1)) ((hF21392.1 176 3 mf_X4_add_177_176_3)) ((hF21392.1 176 4 mf_X4_add_177_176_4)) ((hF21392.1 176 5 mf_X4_add_177_176_5))), (LPI.eq (LPI.next q21166 (OPD.join o21206 (by omega)) tok21349 i21342 ⟨by omega, by omega⟩ (rX.c (b := 2) (((hF21345.1 176 2 mf_X5_step_176_176_2).trans ((hF21335.1 176 2 mf_X5_joinHere_176_176_2).trans (hF21316.1 176 2 mf_X4_add_177_176_2))))) (rX.c (b := 6) (((hF21345.1 176 6 mf_X5_step_176_176_6).trans ((hF21335.1 176 6 mf_X5_joinHere_176_176_6).trans (hF21316.1 176 6 mf_X4_add_177_176_6)))))) (rX.c (b := 2) ((hF21392.1 176 2 mf_X4_add_177_176_2))) (rX.c (b := 4) ((hF21392.1 176 4 mf_X4_add_177_176_4))) (rX.c (b := 6) ((hF21392.1 176 6 mf_X4_add_177_176_6)))), ((PRG0.tr q21167 (PRG0.tr o21199 (PRG0.tr (PRG0.step o21198 tok21349_ (rX.c (b := 2) (((hF21345.1 176 2 mf_X5_step_176_176_2).trans ((hF21335.1 176 2 mf_X5_joinHere_176_176_2).trans (hF21316.1 176 2 mf_X4_add_177_176_2))))) (JN.ne i21342)) (PRG0.eq (rX.c (b := 4) ((hF21392.1 176 4 mf_X4_add_177_176_4))) (rX.c (b := 2) ((hF21392.1 176 2 mf_X4_add_177_176_2))))))).le (by omega)), by omega, (GPX.joinC (LPG.opB q21169 (GPX.k gx21205 (by have r1 := rul (r := a1.toInt) (by omega); have r2 := rul (r := v21191.toInt) (by omega); omega) (by have r1 := rul (r := a1.toInt) (by omega); have r2 := rul (r := v21191.toInt) (by omega); omega) (by have r1 := rul (r := a1.toInt) (by omega); have r2 := rul (r := v21191.toInt) (by omega); omega) (by have r1 := rul (r := a1.toInt) (by omega); have r2 := rul (r := v21191.toInt) (by omega); omega)) ⟨by omega, by omega⟩ (fun z => (o21199.2.2 z).1) (by omega) (by omega) (TKX.someC o21198 (((hF21194.2.1 175 (by decide)).trans (hF21152.2.1 175 (by decide)))) (((hF21194.1 174 1 (by decide)).trans (hF21152.1 174 1 (by decide))))).choose_spec (by omega) (fun hz hr2 => (o21201 hz).2.2.2 (by omega)) (fun _ hl => ADP.b (ADP.fr hr21318.2 SCX.rf SCX.rf) hl) (rX.c (b := 2) ((hF21316.1 176 2 mf_X4_add_177_176_2))) (rX.c (b := 4) ((hF21316.1 176 4 mf_X4_add_177_176_4))) (rX.c (b := 6) ((hF21316.1 176 6 mf_X4_add_177_176_6)))) ⟨by omega, by omega⟩ (by rw [(rX.c (b := 4) ((hF21316.1 176 4 mf_X4_add_177_176_4)))]; exact tok21349) (by omega) (by omega) (by omega) (rX.c (b := 2) (((hF21345.1 176 2 mf_X5_step_176_176_2).trans (hF21335.1 176 2 mf_X5_joinHere_176_176_2)))) (rX.c (b := 6) (((hF21345.1 176 6 mf_X5_step_176_176_6).trans (hF21335.1 176 6 mf_X5_joinHere_176_176_6)))) (((hF21345.2.1 178 ma_X5_step_176_178).trans (hF21335.2.1 178 ma_X5_joinHere_176_178))) (((hF21345.2.1 179 ma_X5_step_176_179).trans (hF21335.2.1 179 ma_X5_joinHere_176_179))) (((hF21345.1 177 0 mf_X5_step_176_177_0).trans (hF21335.1 177 0 mf_X5_joinHere_176_177_0))) (fun _ hl => ADP.j (ADP.fr hr21394.2 SCX.rf SCX.rf) (by omega)) (rX.c (b := 2) ((hF21392.1 176 2 mf_X4_add_177_176_2))) (rX.c (b := 4) ((hF21392.1 176 4 mf_X4_add_177_176_4))) (rX.c (b := 6) ((hF21392.1 176 6 mf_X4_add_177_176_6))))⟩ ⟨by omega, by omega⟩
              · have c21341_ : v21336.toInt = (-1) := en_i_ne_f c21341
                have i21410 := BLN.no hb21340 (by omega)
                refine At.enter rfl ?_
                refine r_vret ?_
                have x21411 := rX.e hI21334 (b := 2) ((((hF21335.1 176 2 mf_X5_joinHere_176_176_2).trans (hF21316.1 176 2 mf_X4_add_177_176_2)).trans hv21207))
                have x21412 := rX.e hI21334 (b := 4) ((((hF21335.1 176 4 mf_X5_joinHere_176_176_4).trans (hF21316.1 176 4 mf_X4_add_177_176_4)).trans hv21209))
                obtain ⟨v21413, hv21413⟩ : ∃ v, gI g21192 176 6 = v := ⟨_, rfl⟩
                have tv21413 := congrArg Int32.toInt hv21413
                have x21414 := rX.e hI21334 (b := 6) ((((hF21335.1 176 6 mf_X5_joinHere_176_176_6).trans (hF21316.1 176 6 mf_X4_add_177_176_6)).trans hv21413))
                obtain ⟨v21415, hv21415⟩ : ∃ v, gI g0 176 2 = v := ⟨_, rfl⟩
                have tv21415 := congrArg Int32.toInt hv21415
                have x21416 := rX.e hI0 (b := 2) (hv21415)
                have x21417 := rX.e hI0 (b := 4) (hv21173)
                have x21418 := rX.e hI21151 (b := 2) (hv21202)
                have x21419 := rX.e hI21151 (b := 4) (hv21176)
                have x21420 := rX.e hI21193 (b := 2) (hv21207)
                have x21421 := rX.e hI21193 (b := 4) (hv21209)
                exact ⟨_, rfl, hI21334, hF21338, rfl, ⟨⟨(TKX.c o21198 (((hF21335.2.1 175 ma_X5_joinHere_176_175).trans (hF21316.2.1 175 ma_X4_add_177_175))) (((hF21335.1 174 1 mf_X5_joinHere_176_174_1).trans (hF21316.1 174 1 mf_X4_add_177_174_1))) (((hF21335.1 176 3 mf_X5_joinHere_176_176_3).trans (hF21316.1 176 3 mf_X4_add_177_176_3))) (((hF21335.1 176 4 mf_X5_joinHere_176_176_4).trans (hF21316.1 176 4 mf_X4_add_177_176_4))) (((hF21335.1 176 5 mf_X5_joinHere_176_176_5).trans (hF21316.1 176 5 mf_X4_add_177_176_5)))), (PRG0.tr q21167 (PRG0.tr o21199 (PRG0.eq (rX.c (b := 4) (((hF21335.1 176 4 mf_X5_joinHere_176_176_4).trans (hF21316.1 176 4 mf_X4_add_177_176_4)))) (rX.c (b := 2) (((hF21335.1 176 2 mf_X5_joinHere_176_176_2).trans (hF21316.1 176 2 mf_X4_add_177_176_2))))))).le (by omega), LPI.end_ q21166 (OPD.join o21206 (by omega)) (rX.c (b := 2) (((hF21335.1 176 2 mf_X5_joinHere_176_176_2).trans (hF21316.1 176 2 mf_X4_add_177_176_2)))) (rX.c (b := 4) (((hF21335.1 176 4 mf_X5_joinHere_176_176_4).trans (hF21316.1 176 4 mf_X4_add_177_176_4)))) (rX.c (b := 6) (((hF21335.1 176 6 mf_X5_joinHere_176_176_6).trans (hF21316.1 176 6 mf_X4_add_177_176_6)))), (fun hz => (by rw [CDX.c (((hF21335.2.1 175 ma_X5_joinHere_176_175).trans (hF21316.2.1 175 ma_X4_add_177_175))) (((hF21335.1 176 3 mf_X5_joinHere_176_176_3).trans (hF21316.1 176 3 mf_X4_add_177_176_3))) (((hF21335.1 176 4 mf_X5_joinHere_176_176_4).trans (hF21316.1 176 4 mf_X4_add_177_176_4))) (((hF21335.1 176 5 mf_X5_joinHere_176_176_5).trans (hF21316.1 176 5 mf_X4_add_177_176_5)))]; exact NJ.mk (o21201 (by omega)) (by omega) i21410))⟩, (GPX.eq (LPG.opB q21169 (GPX.k gx21205 (by have r1 := rul (r := a1.toInt) (by omega); have r2 := rul (r := v21191.toInt) (by omega); omega) (by have r1 := rul (r := a1.toInt) (by omega); have r2 := rul (r := v21191.toInt) (by omega); omega) (by have r1 := rul (r := a1.toInt) (by omega); have r2 := rul (r := v21191.toInt) (by omega); omega) (by have r1 := rul (r := a1.toInt) (by omega); have r2 := rul (r := v21191.toInt) (by omega); omega)) ⟨by omega, by omega⟩ (fun z => (o21199.2.2 z).1) (by omega) (by omega) (TKX.someC o21198 (((hF21194.2.1 175 (by decide)).trans (hF21152.2.1 175 (by decide)))) (((hF21194.1 174 1 (by decide)).trans (hF21152.1 174 1 (by decide))))).choose_spec (by omega) (fun hz hr2 => (o21201 hz).2.2.2 (by omega)) (fun _ hl => ADP.b (ADP.fr hr21318.2 SCX.rf SCX.rf) hl) (rX.c (b := 2) ((hF21316.1 176 2 mf_X4_add_177_176_2))) (rX.c (b := 4) ((hF21316.1 176 4 mf_X4_add_177_176_4))) (rX.c (b := 6) ((hF21316.1 176 6 mf_X4_add_177_176_6)))) ((hF21335.2.1 178 ma_X5_joinHere_176_178)) ((hF21335.2.1 179 ma_X5_joinHere_176_179)) ((hF21335.1 177 0 mf_X5_joinHere_176_177_0)) (rX.c (b := 2) ((hF21335.1 176 2 mf_X5_joinHere_176_176_2))) (rX.c (b := 4) ((hF21335.1 176 4 mf_X5_joinHere_176_176_4))) (rX.c (b := 6) ((hF21335.1 176 6 mf_X5_joinHere_176_176_6))))⟩⟩
        · have c21211_ : x21148.toInt ≠ (-1) := en_i_eq_f c21211
          refine At.enter rfl ?_
          refine r_aload_n e21156 ?_
          refine q_getR (Sh.ref hI21193.1 kx_176 rfl) ?_
          refine r_iload e21160 ?_
          refine r_callV 65 rfl [.ref 177, .int x21148] [] (Nat.le_of_ble_eq_true rfl) rfl (T_X4_aimAtEnd_177 _ hI21193 x21148) ?_
          rintro _ _ ⟨g21422, rfl, hI21423, hF21424, rfl, hr21426⟩
          refine At.stn ?_
          have hF21427 := Fr.tr hF21197 hF21424 rfl rfl
          refine At.enter rfl ?_
          refine r_goto ?_
          refine At.enter rfl ?_
          refine r_aload_n e21156 ?_
          refine q_getI (Sh.int hI21423.1 kx_176 rfl) v21207 ((hF21424.1 176 2 mf_X4_aimAtEnd_177_176_2).trans hv21207) ?_
          refine r_iconst (-1) rfl ?_
          refine r_ics 91 rfl (fun c21428 => ?_) (fun c21428 => ?_)
          · have c21428_ : v21207.toInt ≠ (-1) := en_i_ne_t c21428
            refine At.enter rfl ?_
            refine r_iconst (-1) rfl ?_
            refine Ar.fall 100 rfl ?_
            refine At.enter rfl ?_
            refine r_istore_n _ rfl ?_
            refine r_iload_n (w_e1 _ _ _) ?_
            refine r_iconst (-1) rfl ?_
            refine r_icf 106 rfl (by decide) ?_
            refine At.enter rfl ?_
            refine r_vret ?_
            have x21429 := rX.e hI21423 (b := 2) (((hF21424.1 176 2 mf_X4_aimAtEnd_177_176_2).trans hv21207))
            have x21430 := rX.e hI21423 (b := 4) (((hF21424.1 176 4 mf_X4_aimAtEnd_177_176_4).trans hv21209))
            obtain ⟨v21431, hv21431⟩ : ∃ v, gI g21192 176 6 = v := ⟨_, rfl⟩
            have tv21431 := congrArg Int32.toInt hv21431
            have x21432 := rX.e hI21423 (b := 6) (((hF21424.1 176 6 mf_X4_aimAtEnd_177_176_6).trans hv21431))
            obtain ⟨v21433, hv21433⟩ : ∃ v, gI g0 176 2 = v := ⟨_, rfl⟩
            have tv21433 := congrArg Int32.toInt hv21433
            have x21434 := rX.e hI0 (b := 2) (hv21433)
            have x21435 := rX.e hI0 (b := 4) (hv21173)
            have x21436 := rX.e hI21151 (b := 2) (hv21202)
            have x21437 := rX.e hI21151 (b := 4) (hv21176)
            have x21438 := rX.e hI21193 (b := 2) (hv21207)
            have x21439 := rX.e hI21193 (b := 4) (hv21209)
            exact ⟨_, rfl, hI21423, hF21427, rfl, ⟨⟨(TKX.c o21198 ((hF21424.2.1 175 ma_X4_aimAtEnd_177_175)) ((hF21424.1 174 1 mf_X4_aimAtEnd_177_174_1)) ((hF21424.1 176 3 mf_X4_aimAtEnd_177_176_3)) ((hF21424.1 176 4 mf_X4_aimAtEnd_177_176_4)) ((hF21424.1 176 5 mf_X4_aimAtEnd_177_176_5))), (PRG0.tr q21167 (PRG0.tr o21199 (PRG0.eq (rX.c (b := 4) ((hF21424.1 176 4 mf_X4_aimAtEnd_177_176_4))) (rX.c (b := 2) ((hF21424.1 176 2 mf_X4_aimAtEnd_177_176_2)))))).le (by omega), LPI.end_ q21166 (OPD.join o21206 (by omega)) (rX.c (b := 2) ((hF21424.1 176 2 mf_X4_aimAtEnd_177_176_2))) (rX.c (b := 4) ((hF21424.1 176 4 mf_X4_aimAtEnd_177_176_4))) (rX.c (b := 6) ((hF21424.1 176 6 mf_X4_aimAtEnd_177_176_6))), (fun hz => absurd hz (by omega))⟩, (LPG.opC q21169 (GPX.k gx21205 (by have r1 := rul (r := a1.toInt) (by omega); have r2 := rul (r := v21191.toInt) (by omega); omega) (by have r1 := rul (r := a1.toInt) (by omega); have r2 := rul (r := v21191.toInt) (by omega); omega) (by have r1 := rul (r := a1.toInt) (by omega); have r2 := rul (r := v21191.toInt) (by omega); omega) (by have r1 := rul (r := a1.toInt) (by omega); have r2 := rul (r := v21191.toInt) (by omega); omega)) ⟨by omega, by omega⟩ (fun z => (o21199.2.2 z).1) (by omega) (TKX.someC o21198 (((hF21194.2.1 175 (by decide)).trans (hF21152.2.1 175 (by decide)))) (((hF21194.1 174 1 (by decide)).trans (hF21152.1 174 1 (by decide))))).choose_spec (fun hz hr0 => (o21201 hz).2.1 (by omega)) (by omega) (fun _ hl => AIMP.b (AIMP.fr hr21426 SCX.rf SCX.rf) (by omega) hl) (rX.c (b := 2) ((hF21424.1 176 2 mf_X4_aimAtEnd_177_176_2))) (rX.c (b := 4) ((hF21424.1 176 4 mf_X4_aimAtEnd_177_176_4))) (rX.c (b := 6) ((hF21424.1 176 6 mf_X4_aimAtEnd_177_176_6))))⟩⟩
          · have c21428_ : v21207.toInt = (-1) := en_i_ne_f c21428
            refine At.enter rfl ?_
            refine r_aload_n e21156 ?_
            refine r_iload_n e21157 ?_
            refine r_callV 96 rfl [.ref 176, .int a1] [] (Nat.le_of_ble_eq_true rfl) rfl (T_X5_joinHere_176 _ hI21423 a1 (by omega) (TKX.c o21198 ((hF21424.2.1 175 ma_X4_aimAtEnd_177_175)) ((hF21424.1 174 1 mf_X4_aimAtEnd_177_174_1)) ((hF21424.1 176 3 mf_X4_aimAtEnd_177_176_3)) ((hF21424.1 176 4 mf_X4_aimAtEnd_177_176_4)) ((hF21424.1 176 5 mf_X4_aimAtEnd_177_176_5)))) ?_
            rintro _ _ ⟨g21440, rfl, hI21441, hF21442, v21443, rfl, hr21444⟩
            refine At.sti ?_
            have hF21445 := Fr.tr hF21427 hF21442 rfl rfl
            have je21446 : v21443.toInt ≠ -1 → v21443.toInt = CDX g21192 - 18 := by have z := hr21444.2.2; rw [CDX.c ((hF21424.2.1 175 ma_X4_aimAtEnd_177_175)) ((hF21424.1 176 3 mf_X4_aimAtEnd_177_176_3)) ((hF21424.1 176 4 mf_X4_aimAtEnd_177_176_4)) ((hF21424.1 176 5 mf_X4_aimAtEnd_177_176_5))] at z; exact z
            have hb21447 : BLN (JN a1.toInt (CDX g21192)) v21443.toInt := by have z := hr21444.2.1; rw [CDX.c ((hF21424.2.1 175 ma_X4_aimAtEnd_177_175)) ((hF21424.1 176 3 mf_X4_aimAtEnd_177_176_3)) ((hF21424.1 176 4 mf_X4_aimAtEnd_177_176_4)) ((hF21424.1 176 5 mf_X4_aimAtEnd_177_176_5))] at z; exact z
            refine At.enter rfl ?_
            refine r_goto ?_
            refine At.enter rfl ?_
            refine r_istore_n _ rfl ?_
            refine r_iload_n (w_e1 _ _ _) ?_
            refine r_iconst (-1) rfl ?_
            refine r_ics 106 rfl (fun c21448 => ?_) (fun c21448 => ?_)
            · have c21448_ : v21443.toInt ≠ (-1) := en_i_ne_t c21448
              have i21449 := BLN.yes hb21447 (by omega)
              refine At.enter rfl ?_
              refine r_aload_n (w_p1 (by decide) (Or.inr rfl) e21156) ?_
              refine r_callV 111 rfl [.ref 176] [] (Nat.le_of_ble_eq_true rfl) rfl (T_X5_step_176 _ hI21441 (TKX.c o21198 (((hF21442.2.1 175 ma_X5_joinHere_176_175).trans (hF21424.2.1 175 ma_X4_aimAtEnd_177_175))) (((hF21442.1 174 1 mf_X5_joinHere_176_174_1).trans (hF21424.1 174 1 mf_X4_aimAtEnd_177_174_1))) (((hF21442.1 176 3 mf_X5_joinHere_176_176_3).trans (hF21424.1 176 3 mf_X4_aimAtEnd_177_176_3))) (((hF21442.1 176 4 mf_X5_joinHere_176_176_4).trans (hF21424.1 176 4 mf_X4_aimAtEnd_177_176_4))) (((hF21442.1 176 5 mf_X5_joinHere_176_176_5).trans (hF21424.1 176 5 mf_X4_aimAtEnd_177_176_5)))).1 (TKX.c o21198 (((hF21442.2.1 175 ma_X5_joinHere_176_175).trans (hF21424.2.1 175 ma_X4_aimAtEnd_177_175))) (((hF21442.1 174 1 mf_X5_joinHere_176_174_1).trans (hF21424.1 174 1 mf_X4_aimAtEnd_177_174_1))) (((hF21442.1 176 3 mf_X5_joinHere_176_176_3).trans (hF21424.1 176 3 mf_X4_aimAtEnd_177_176_3))) (((hF21442.1 176 4 mf_X5_joinHere_176_176_4).trans (hF21424.1 176 4 mf_X4_aimAtEnd_177_176_4))) (((hF21442.1 176 5 mf_X5_joinHere_176_176_5).trans (hF21424.1 176 5 mf_X4_aimAtEnd_177_176_5)))).2.1.le.2.1) ?_
              rintro _ _ ⟨g21450, rfl, hI21451, hF21452, rfl, hr21454⟩
              refine At.stn ?_
              have hF21455 := Fr.tr hF21445 hF21452 rfl rfl
              have tok21456_ := hr21454.2
              rw [TX.c (((hF21442.2.1 175 ma_X5_joinHere_176_175).trans (hF21424.2.1 175 ma_X4_aimAtEnd_177_175))), nX.c (((hF21442.1 174 1 mf_X5_joinHere_176_174_1).trans (hF21424.1 174 1 mf_X4_aimAtEnd_177_174_1))), rX.c (b := 5) (((hF21442.1 176 5 mf_X5_joinHere_176_176_5).trans (hF21424.1 176 5 mf_X4_aimAtEnd_177_176_5)))] at tok21456_
              have tok21456 := TKX.tok o21198 tok21456_
              rw [TX.c (((hF21194.2.1 175 (by decide)).trans (hF21152.2.1 175 (by decide)))), nX.c (((hF21194.1 174 1 (by decide)).trans (hF21152.1 174 1 (by decide))))] at tok21456
              have hT21457 := hr21454.1
              have x21458 := rX.e hI21441 (b := 4) ((((hF21442.1 176 4 mf_X5_joinHere_176_176_4).trans (hF21424.1 176 4 mf_X4_aimAtEnd_177_176_4)).trans hv21209))
              obtain ⟨v21459, hv21459⟩ : ∃ v, gI g21450 176 4 = v := ⟨_, rfl⟩
              have rv21459 := RgF.at hI21451.2.1 (p := 176) (b := 4) rfl
              rw [hv21459] at rv21459
              dsimp only at rv21459
              have tv21459 := congrArg Int32.toInt hv21459
              have x21460 := rX.e hI21451 (b := 4) (hv21459)
              refine At.enter rfl ?_
              refine r_iload_n (w_p1 (by decide) (Or.inr rfl) e21157) ?_
              refine r_ifs 115 rfl (fun c21461 => ?_) (fun c21461 => ?_)
              · have c21461_ : a1.toInt = 0 := en_k_eq_t c21461
                refine At.enter rfl ?_
                refine r_aload_n (w_p1 (by decide) (Or.inr rfl) e21156) ?_
                refine q_getR (Sh.ref hI21451.1 kx_176 rfl) ?_
                refine r_iload_n (w_e1 _ _ _) ?_
                refine r_iconst 0 rfl ?_
                refine r_callV 129 rfl [.ref 177, .int v21443, .int 0] [] (Nat.le_of_ble_eq_true rfl) rfl (T_X4_add_177 _ hI21451 v21443 0) ?_
                rintro _ _ ⟨g21462, rfl, hI21463, hF21464, v21465, rfl, hr21466⟩
                refine At.sti ?_
                have hF21467 := Fr.tr hF21455 hF21464 rfl rfl
                have zv21468 : (0 : Int32).toInt = 0 := rfl
                refine At.enter rfl ?_
                refine r_goto ?_
                refine At.enter rfl ?_
                refine r_istore _ rfl ?_
                refine q_iinc (w_p1 (by decide) (Or.inr rfl) (w_p1 (by decide) (Or.inr rfl) e21161)) (x21149.toInt + 1) rfl (by omega) (fun v21469 hv21469 => ?_)
                refine r_goto ?_
                have jj21470 := i21449
                unfold JN at jj21470
                have x21471 := rX.e hI21193 (b := 2) (hv21207)
                have x21472 := rX.e hI21193 (b := 4) (hv21209)
                have x21473 := rX.e hI21423 (b := 4) (((hF21424.1 176 4 mf_X4_aimAtEnd_177_176_4).trans hv21209))
                have x21474 := rX.e hI21451 (b := 4) (hv21459)
                have x21475 := rX.e hI21151 (b := 4) (hv21176)
                have x21476 := rX.e hI21193 (b := 2) (hv21207)
                have x21477 := rX.e hI21193 (b := 4) (hv21209)
                have x21478 := rX.e hI21451 (b := 4) (hv21459)
                have x21479 := rX.e hI21463 (b := 4) (((hF21464.1 176 4 mf_X4_add_177_176_4).trans hv21459))
                have y21480 := (o21199.2.2 (by omega)).2
                have y21481 := ((PRG0.step o21198 tok21456_ (rX.c (b := 2) (((hF21452.1 176 2 mf_X5_step_176_176_2).trans ((hF21442.1 176 2 mf_X5_joinHere_176_176_2).trans (hF21424.1 176 2 mf_X4_aimAtEnd_177_176_2))))) (JN.ne i21449)).2.2 (by rw [(rX.c (b := 2) (((hF21452.1 176 2 mf_X5_step_176_176_2).trans ((hF21442.1 176 2 mf_X5_joinHere_176_176_2).trans (hF21424.1 176 2 mf_X4_aimAtEnd_177_176_2)))))]; omega)).2
                exact ih21155 (400 - v21469.toInt) _ _ ⟨v21443, v21465, v21469, by first | rfl | omega, hI21463, hF21467, (w_p1 (by decide) (Or.inr rfl) (w_p1 (by decide) (Or.inr rfl) (w_p1 (by decide) (Or.inr rfl) e21156))), (w_p1 (by decide) (Or.inr rfl) (w_p1 (by decide) (Or.inr rfl) (w_p1 (by decide) (Or.inr rfl) e21157))), (w_p1 (by decide) (Or.inr rfl) (w_p1 (by decide) (Or.inr rfl) (w_p1 (by decide) (Or.inr rfl) e21158))), (w_p1 (by decide) (Or.inr rfl) (w_p1 (by decide) (Or.inr rfl) (w_e1 _ _ _))), (w_p1 (by decide) (Or.inr rfl) (w_e1 _ _ _)), (w_e1 _ _ _), by omega, by omega, by omega, (TKX.c hT21457 ((hF21464.2.1 175 ma_X4_add_177_175)) ((hF21464.1 174 1 mf_X4_add_177_174_1)) ((hF21464.1 176 3 mf_X4_add_177_176_3)) ((hF21464.1 176 4 mf_X4_add_177_176_4)) ((hF21464.1 176 5 mf_X4_add_177_176_5))), (LPI.eq (LPI.next q21166 (OPD.join o21206 (by omega)) tok21456 i21449 ⟨by omega, by omega⟩ (rX.c (b := 2) (((hF21452.1 176 2 mf_X5_step_176_176_2).trans ((hF21442.1 176 2 mf_X5_joinHere_176_176_2).trans (hF21424.1 176 2 mf_X4_aimAtEnd_177_176_2))))) (rX.c (b := 6) (((hF21452.1 176 6 mf_X5_step_176_176_6).trans ((hF21442.1 176 6 mf_X5_joinHere_176_176_6).trans (hF21424.1 176 6 mf_X4_aimAtEnd_177_176_6)))))) (rX.c (b := 2) ((hF21464.1 176 2 mf_X4_add_177_176_2))) (rX.c (b := 4) ((hF21464.1 176 4 mf_X4_add_177_176_4))) (rX.c (b := 6) ((hF21464.1 176 6 mf_X4_add_177_176_6)))), ((PRG0.tr q21167 (PRG0.tr o21199 (PRG0.tr (PRG0.step o21198 tok21456_ (rX.c (b := 2) (((hF21452.1 176 2 mf_X5_step_176_176_2).trans ((hF21442.1 176 2 mf_X5_joinHere_176_176_2).trans (hF21424.1 176 2 mf_X4_aimAtEnd_177_176_2))))) (JN.ne i21449)) (PRG0.eq (rX.c (b := 4) ((hF21464.1 176 4 mf_X4_add_177_176_4))) (rX.c (b := 2) ((hF21464.1 176 2 mf_X4_add_177_176_2))))))).le (by omega)), by omega, (GPX.joinC (LPG.opC q21169 (GPX.k gx21205 (by have r1 := rul (r := a1.toInt) (by omega); have r2 := rul (r := v21191.toInt) (by omega); omega) (by have r1 := rul (r := a1.toInt) (by omega); have r2 := rul (r := v21191.toInt) (by omega); omega) (by have r1 := rul (r := a1.toInt) (by omega); have r2 := rul (r := v21191.toInt) (by omega); omega) (by have r1 := rul (r := a1.toInt) (by omega); have r2 := rul (r := v21191.toInt) (by omega); omega)) ⟨by omega, by omega⟩ (fun z => (o21199.2.2 z).1) (by omega) (TKX.someC o21198 (((hF21194.2.1 175 (by decide)).trans (hF21152.2.1 175 (by decide)))) (((hF21194.1 174 1 (by decide)).trans (hF21152.1 174 1 (by decide))))).choose_spec (fun hz hr0 => (o21201 hz).2.1 (by omega)) (by omega) (fun _ hl => AIMP.b (AIMP.fr hr21426 SCX.rf SCX.rf) (by omega) hl) (rX.c (b := 2) ((hF21424.1 176 2 mf_X4_aimAtEnd_177_176_2))) (rX.c (b := 4) ((hF21424.1 176 4 mf_X4_aimAtEnd_177_176_4))) (rX.c (b := 6) ((hF21424.1 176 6 mf_X4_aimAtEnd_177_176_6)))) ⟨by omega, by omega⟩ (by rw [(rX.c (b := 4) ((hF21424.1 176 4 mf_X4_aimAtEnd_177_176_4)))]; exact tok21456) (by omega) (by omega) (by omega) (rX.c (b := 2) (((hF21452.1 176 2 mf_X5_step_176_176_2).trans (hF21442.1 176 2 mf_X5_joinHere_176_176_2)))) (rX.c (b := 6) (((hF21452.1 176 6 mf_X5_step_176_176_6).trans (hF21442.1 176 6 mf_X5_joinHere_176_176_6)))) (((hF21452.2.1 178 ma_X5_step_176_178).trans (hF21442.2.1 178 ma_X5_joinHere_176_178))) (((hF21452.2.1 179 ma_X5_step_176_179).trans (hF21442.2.1 179 ma_X5_joinHere_176_179))) (((hF21452.1 177 0 mf_X5_step_176_177_0).trans (hF21442.1 177 0 mf_X5_joinHere_176_177_0))) (fun _ hl => ADP.j (ADP.fr hr21466.2 SCX.rf SCX.rf) (by omega)) (rX.c (b := 2) ((hF21464.1 176 2 mf_X4_add_177_176_2))) (rX.c (b := 4) ((hF21464.1 176 4 mf_X4_add_177_176_4))) (rX.c (b := 6) ((hF21464.1 176 6 mf_X4_add_177_176_6))))⟩ ⟨by omega, by omega⟩
              · have c21461_ : a1.toInt ≠ 0 := en_k_eq_f c21461
                refine At.enter rfl ?_
                refine r_iload_n (w_p1 (by decide) (Or.inr rfl) e21157) ?_
                refine r_iconst 1 rfl ?_
                refine r_ics 120 rfl (fun c21482 => ?_) (fun c21482 => ?_)
                · have c21482_ : a1.toInt ≠ 1 := en_i_ne_t c21482
                  refine At.enter rfl ?_
                  refine r_iconst (-1) rfl ?_
                  refine Ar.fall 133 rfl ?_
                  refine At.enter rfl ?_
                  refine r_istore _ rfl ?_
                  refine q_iinc (w_p1 (by decide) (Or.inr rfl) (w_p1 (by decide) (Or.inr rfl) e21161)) (x21149.toInt + 1) rfl (by omega) (fun v21483 hv21483 => ?_)
                  refine r_goto ?_
                  have jj21484 := i21449
                  unfold JN at jj21484
                  have x21485 := rX.e hI21193 (b := 2) (hv21207)
                  have x21486 := rX.e hI21193 (b := 4) (hv21209)
                  have x21487 := rX.e hI21423 (b := 4) (((hF21424.1 176 4 mf_X4_aimAtEnd_177_176_4).trans hv21209))
                  have x21488 := rX.e hI21451 (b := 4) (hv21459)
                  have x21489 := rX.e hI21151 (b := 4) (hv21176)
                  have x21490 := rX.e hI21193 (b := 2) (hv21207)
                  have x21491 := rX.e hI21193 (b := 4) (hv21209)
                  have x21492 := rX.e hI21451 (b := 4) (hv21459)
                  have x21493 := rX.e hI21451 (b := 4) (hv21459)
                  have y21494 := (o21199.2.2 (by omega)).2
                  have y21495 := ((PRG0.step o21198 tok21456_ (rX.c (b := 2) (((hF21452.1 176 2 mf_X5_step_176_176_2).trans ((hF21442.1 176 2 mf_X5_joinHere_176_176_2).trans (hF21424.1 176 2 mf_X4_aimAtEnd_177_176_2))))) (JN.ne i21449)).2.2 (by rw [(rX.c (b := 2) (((hF21452.1 176 2 mf_X5_step_176_176_2).trans ((hF21442.1 176 2 mf_X5_joinHere_176_176_2).trans (hF21424.1 176 2 mf_X4_aimAtEnd_177_176_2)))))]; omega)).2
                  have zv21496 : ((-1) : Int32).toInt = (-1) := rfl
                  exact ih21155 (400 - v21483.toInt) _ _ ⟨v21443, (-1), v21483, by first | rfl | omega, hI21451, hF21455, (w_p1 (by decide) (Or.inr rfl) (w_p1 (by decide) (Or.inr rfl) (w_p1 (by decide) (Or.inr rfl) e21156))), (w_p1 (by decide) (Or.inr rfl) (w_p1 (by decide) (Or.inr rfl) (w_p1 (by decide) (Or.inr rfl) e21157))), (w_p1 (by decide) (Or.inr rfl) (w_p1 (by decide) (Or.inr rfl) (w_p1 (by decide) (Or.inr rfl) e21158))), (w_p1 (by decide) (Or.inr rfl) (w_p1 (by decide) (Or.inr rfl) (w_e1 _ _ _))), (w_p1 (by decide) (Or.inr rfl) (w_e1 _ _ _)), (w_e1 _ _ _), by omega, by decide, by omega, hT21457, (LPI.eq (LPI.next q21166 (OPD.join o21206 (by omega)) tok21456 i21449 ⟨by omega, by omega⟩ (rX.c (b := 2) (((hF21452.1 176 2 mf_X5_step_176_176_2).trans ((hF21442.1 176 2 mf_X5_joinHere_176_176_2).trans (hF21424.1 176 2 mf_X4_aimAtEnd_177_176_2))))) (rX.c (b := 6) (((hF21452.1 176 6 mf_X5_step_176_176_6).trans ((hF21442.1 176 6 mf_X5_joinHere_176_176_6).trans (hF21424.1 176 6 mf_X4_aimAtEnd_177_176_6)))))) rfl rfl rfl), ((PRG0.tr q21167 (PRG0.tr o21199 (PRG0.tr (PRG0.step o21198 tok21456_ (rX.c (b := 2) (((hF21452.1 176 2 mf_X5_step_176_176_2).trans ((hF21442.1 176 2 mf_X5_joinHere_176_176_2).trans (hF21424.1 176 2 mf_X4_aimAtEnd_177_176_2))))) (JN.ne i21449)) (PRG0.eq rfl rfl)))).le (by omega)), by omega, (GPX.joinB (LPG.opC q21169 (GPX.k gx21205 (by have r1 := rul (r := a1.toInt) (by omega); have r2 := rul (r := v21191.toInt) (by omega); omega) (by have r1 := rul (r := a1.toInt) (by omega); have r2 := rul (r := v21191.toInt) (by omega); omega) (by have r1 := rul (r := a1.toInt) (by omega); have r2 := rul (r := v21191.toInt) (by omega); omega) (by have r1 := rul (r := a1.toInt) (by omega); have r2 := rul (r := v21191.toInt) (by omega); omega)) ⟨by omega, by omega⟩ (fun z => (o21199.2.2 z).1) (by omega) (TKX.someC o21198 (((hF21194.2.1 175 (by decide)).trans (hF21152.2.1 175 (by decide)))) (((hF21194.1 174 1 (by decide)).trans (hF21152.1 174 1 (by decide))))).choose_spec (fun hz hr0 => (o21201 hz).2.1 (by omega)) (by omega) (fun _ hl => AIMP.b (AIMP.fr hr21426 SCX.rf SCX.rf) (by omega) hl) (rX.c (b := 2) ((hF21424.1 176 2 mf_X4_aimAtEnd_177_176_2))) (rX.c (b := 4) ((hF21424.1 176 4 mf_X4_aimAtEnd_177_176_4))) (rX.c (b := 6) ((hF21424.1 176 6 mf_X4_aimAtEnd_177_176_6)))) ⟨by omega, by omega⟩ (by rw [(rX.c (b := 4) ((hF21424.1 176 4 mf_X4_aimAtEnd_177_176_4)))]; exact tok21456) (by omega) (by omega) (by omega) (rX.c (b := 2) (((hF21452.1 176 2 mf_X5_step_176_176_2).trans (hF21442.1 176 2 mf_X5_joinHere_176_176_2)))) (rX.c (b := 6) (((hF21452.1 176 6 mf_X5_step_176_176_6).trans (hF21442.1 176 6 mf_X5_joinHere_176_176_6)))) (((hF21452.2.1 178 ma_X5_step_176_178).trans (hF21442.2.1 178 ma_X5_joinHere_176_178))) (((hF21452.2.1 179 ma_X5_step_176_179).trans (hF21442.2.1 179 ma_X5_joinHere_176_179))) (((hF21452.1 177 0 mf_X5_step_176_177_0).trans (hF21442.1 177 0 mf_X5_joinHere_176_177_0))) (by omega))⟩ ⟨by omega, by omega⟩
                · have c21482_ : a1.toInt = 1 := en_i_ne_f c21482
                  refine At.enter rfl ?_
                  refine r_aload_n (w_p1 (by decide) (Or.inr rfl) e21156) ?_
                  refine q_getR (Sh.ref hI21451.1 kx_176 rfl) ?_
                  refine r_iload_n (w_e1 _ _ _) ?_
                  refine r_iconst 0 rfl ?_
                  refine r_callV 129 rfl [.ref 177, .int v21443, .int 0] [] (Nat.le_of_ble_eq_true rfl) rfl (T_X4_add_177 _ hI21451 v21443 0) ?_
                  rintro _ _ ⟨g21497, rfl, hI21498, hF21499, v21500, rfl, hr21501⟩
                  refine At.sti ?_
                  have hF21502 := Fr.tr hF21455 hF21499 rfl rfl
                  have zv21503 : (0 : Int32).toInt = 0 := rfl
                  refine At.enter rfl ?_
                  refine r_goto ?_
                  refine At.enter rfl ?_
                  refine r_istore _ rfl ?_
                  refine q_iinc (w_p1 (by decide) (Or.inr rfl) (w_p1 (by decide) (Or.inr rfl) e21161)) (x21149.toInt + 1) rfl (by omega) (fun v21504 hv21504 => ?_)
                  refine r_goto ?_
                  have jj21505 := i21449
                  unfold JN at jj21505
                  have x21506 := rX.e hI21193 (b := 2) (hv21207)
                  have x21507 := rX.e hI21193 (b := 4) (hv21209)
                  have x21508 := rX.e hI21423 (b := 4) (((hF21424.1 176 4 mf_X4_aimAtEnd_177_176_4).trans hv21209))
                  have x21509 := rX.e hI21451 (b := 4) (hv21459)
                  have x21510 := rX.e hI21151 (b := 4) (hv21176)
                  have x21511 := rX.e hI21193 (b := 2) (hv21207)
                  have x21512 := rX.e hI21193 (b := 4) (hv21209)
                  have x21513 := rX.e hI21451 (b := 4) (hv21459)
                  have x21514 := rX.e hI21498 (b := 4) (((hF21499.1 176 4 mf_X4_add_177_176_4).trans hv21459))
                  have y21515 := (o21199.2.2 (by omega)).2
                  have y21516 := ((PRG0.step o21198 tok21456_ (rX.c (b := 2) (((hF21452.1 176 2 mf_X5_step_176_176_2).trans ((hF21442.1 176 2 mf_X5_joinHere_176_176_2).trans (hF21424.1 176 2 mf_X4_aimAtEnd_177_176_2))))) (JN.ne i21449)).2.2 (by rw [(rX.c (b := 2) (((hF21452.1 176 2 mf_X5_step_176_176_2).trans ((hF21442.1 176 2 mf_X5_joinHere_176_176_2).trans (hF21424.1 176 2 mf_X4_aimAtEnd_177_176_2)))))]; omega)).2
                  exact ih21155 (400 - v21504.toInt) _ _ ⟨v21443, v21500, v21504, by first | rfl | omega, hI21498, hF21502, (w_p1 (by decide) (Or.inr rfl) (w_p1 (by decide) (Or.inr rfl) (w_p1 (by decide) (Or.inr rfl) e21156))), (w_p1 (by decide) (Or.inr rfl) (w_p1 (by decide) (Or.inr rfl) (w_p1 (by decide) (Or.inr rfl) e21157))), (w_p1 (by decide) (Or.inr rfl) (w_p1 (by decide) (Or.inr rfl) (w_p1 (by decide) (Or.inr rfl) e21158))), (w_p1 (by decide) (Or.inr rfl) (w_p1 (by decide) (Or.inr rfl) (w_e1 _ _ _))), (w_p1 (by decide) (Or.inr rfl) (w_e1 _ _ _)), (w_e1 _ _ _), by omega, by omega, by omega, (TKX.c hT21457 ((hF21499.2.1 175 ma_X4_add_177_175)) ((hF21499.1 174 1 mf_X4_add_177_174_1)) ((hF21499.1 176 3 mf_X4_add_177_176_3)) ((hF21499.1 176 4 mf_X4_add_177_176_4)) ((hF21499.1 176 5 mf_X4_add_177_176_5))), (LPI.eq (LPI.next q21166 (OPD.join o21206 (by omega)) tok21456 i21449 ⟨by omega, by omega⟩ (rX.c (b := 2) (((hF21452.1 176 2 mf_X5_step_176_176_2).trans ((hF21442.1 176 2 mf_X5_joinHere_176_176_2).trans (hF21424.1 176 2 mf_X4_aimAtEnd_177_176_2))))) (rX.c (b := 6) (((hF21452.1 176 6 mf_X5_step_176_176_6).trans ((hF21442.1 176 6 mf_X5_joinHere_176_176_6).trans (hF21424.1 176 6 mf_X4_aimAtEnd_177_176_6)))))) (rX.c (b := 2) ((hF21499.1 176 2 mf_X4_add_177_176_2))) (rX.c (b := 4) ((hF21499.1 176 4 mf_X4_add_177_176_4))) (rX.c (b := 6) ((hF21499.1 176 6 mf_X4_add_177_176_6)))), ((PRG0.tr q21167 (PRG0.tr o21199 (PRG0.tr (PRG0.step o21198 tok21456_ (rX.c (b := 2) (((hF21452.1 176 2 mf_X5_step_176_176_2).trans ((hF21442.1 176 2 mf_X5_joinHere_176_176_2).trans (hF21424.1 176 2 mf_X4_aimAtEnd_177_176_2))))) (JN.ne i21449)) (PRG0.eq (rX.c (b := 4) ((hF21499.1 176 4 mf_X4_add_177_176_4))) (rX.c (b := 2) ((hF21499.1 176 2 mf_X4_add_177_176_2))))))).le (by omega)), by omega, (GPX.joinC (LPG.opC q21169 (GPX.k gx21205 (by have r1 := rul (r := a1.toInt) (by omega); have r2 := rul (r := v21191.toInt) (by omega); omega) (by have r1 := rul (r := a1.toInt) (by omega); have r2 := rul (r := v21191.toInt) (by omega); omega) (by have r1 := rul (r := a1.toInt) (by omega); have r2 := rul (r := v21191.toInt) (by omega); omega) (by have r1 := rul (r := a1.toInt) (by omega); have r2 := rul (r := v21191.toInt) (by omega); omega)) ⟨by omega, by omega⟩ (fun z => (o21199.2.2 z).1) (by omega) (TKX.someC o21198 (((hF21194.2.1 175 (by decide)).trans (hF21152.2.1 175 (by decide)))) (((hF21194.1 174 1 (by decide)).trans (hF21152.1 174 1 (by decide))))).choose_spec (fun hz hr0 => (o21201 hz).2.1 (by omega)) (by omega) (fun _ hl => AIMP.b (AIMP.fr hr21426 SCX.rf SCX.rf) (by omega) hl) (rX.c (b := 2) ((hF21424.1 176 2 mf_X4_aimAtEnd_177_176_2))) (rX.c (b := 4) ((hF21424.1 176 4 mf_X4_aimAtEnd_177_176_4))) (rX.c (b := 6) ((hF21424.1 176 6 mf_X4_aimAtEnd_177_176_6)))) ⟨by omega, by omega⟩ (by rw [(rX.c (b := 4) ((hF21424.1 176 4 mf_X4_aimAtEnd_177_176_4)))]; exact tok21456) (by omega) (by omega) (by omega) (rX.c (b := 2) (((hF21452.1 176 2 mf_X5_step_176_176_2).trans (hF21442.1 176 2 mf_X5_joinHere_176_176_2)))) (rX.c (b := 6) (((hF21452.1 176 6 mf_X5_step_176_176_6).trans (hF21442.1 176 6 mf_X5_joinHere_176_176_6)))) (((hF21452.2.1 178 ma_X5_step_176_178).trans (hF21442.2.1 178 ma_X5_joinHere_176_178))) (((hF21452.2.1 179 ma_X5_step_176_179).trans (hF21442.2.1 179 ma_X5_joinHere_176_179))) (((hF21452.1 177 0 mf_X5_step_176_177_0).trans (hF21442.1 177 0 mf_X5_joinHere_176_177_0))) (fun _ hl => ADP.j (ADP.fr hr21501.2 SCX.rf SCX.rf) (by omega)) (rX.c (b := 2) ((hF21499.1 176 2 mf_X4_add_177_176_2))) (rX.c (b := 4) ((hF21499.1 176 4 mf_X4_add_177_176_4))) (rX.c (b := 6) ((hF21499.1 176 6 mf_X4_add_177_176_6))))⟩ ⟨by omega, by omega⟩
            · have c21448_ : v21443.toInt = (-1) := en_i_ne_f c21448
              have i21517 := BLN.no hb21447 (by omega)
              refine At.enter rfl ?_
              refine r_vret ?_
              have x21518 := rX.e hI21441 (b := 2) ((((hF21442.1 176 2 mf_X5_joinHere_176_176_2).trans (hF21424.1 176 2 mf_X4_aimAtEnd_177_176_2)).trans hv21207))
              have x21519 := rX.e hI21441 (b := 4) ((((hF21442.1 176 4 mf_X5_joinHere_176_176_4).trans (hF21424.1 176 4 mf_X4_aimAtEnd_177_176_4)).trans hv21209))
              obtain ⟨v21520, hv21520⟩ : ∃ v, gI g21192 176 6 = v := ⟨_, rfl⟩
              have tv21520 := congrArg Int32.toInt hv21520
              have x21521 := rX.e hI21441 (b := 6) ((((hF21442.1 176 6 mf_X5_joinHere_176_176_6).trans (hF21424.1 176 6 mf_X4_aimAtEnd_177_176_6)).trans hv21520))
              obtain ⟨v21522, hv21522⟩ : ∃ v, gI g0 176 2 = v := ⟨_, rfl⟩
              have tv21522 := congrArg Int32.toInt hv21522
              have x21523 := rX.e hI0 (b := 2) (hv21522)
              have x21524 := rX.e hI0 (b := 4) (hv21173)
              have x21525 := rX.e hI21151 (b := 2) (hv21202)
              have x21526 := rX.e hI21151 (b := 4) (hv21176)
              have x21527 := rX.e hI21193 (b := 2) (hv21207)
              have x21528 := rX.e hI21193 (b := 4) (hv21209)
              exact ⟨_, rfl, hI21441, hF21445, rfl, ⟨⟨(TKX.c o21198 (((hF21442.2.1 175 ma_X5_joinHere_176_175).trans (hF21424.2.1 175 ma_X4_aimAtEnd_177_175))) (((hF21442.1 174 1 mf_X5_joinHere_176_174_1).trans (hF21424.1 174 1 mf_X4_aimAtEnd_177_174_1))) (((hF21442.1 176 3 mf_X5_joinHere_176_176_3).trans (hF21424.1 176 3 mf_X4_aimAtEnd_177_176_3))) (((hF21442.1 176 4 mf_X5_joinHere_176_176_4).trans (hF21424.1 176 4 mf_X4_aimAtEnd_177_176_4))) (((hF21442.1 176 5 mf_X5_joinHere_176_176_5).trans (hF21424.1 176 5 mf_X4_aimAtEnd_177_176_5)))), (PRG0.tr q21167 (PRG0.tr o21199 (PRG0.eq (rX.c (b := 4) (((hF21442.1 176 4 mf_X5_joinHere_176_176_4).trans (hF21424.1 176 4 mf_X4_aimAtEnd_177_176_4)))) (rX.c (b := 2) (((hF21442.1 176 2 mf_X5_joinHere_176_176_2).trans (hF21424.1 176 2 mf_X4_aimAtEnd_177_176_2))))))).le (by omega), LPI.end_ q21166 (OPD.join o21206 (by omega)) (rX.c (b := 2) (((hF21442.1 176 2 mf_X5_joinHere_176_176_2).trans (hF21424.1 176 2 mf_X4_aimAtEnd_177_176_2)))) (rX.c (b := 4) (((hF21442.1 176 4 mf_X5_joinHere_176_176_4).trans (hF21424.1 176 4 mf_X4_aimAtEnd_177_176_4)))) (rX.c (b := 6) (((hF21442.1 176 6 mf_X5_joinHere_176_176_6).trans (hF21424.1 176 6 mf_X4_aimAtEnd_177_176_6)))), (fun hz => (by rw [CDX.c (((hF21442.2.1 175 ma_X5_joinHere_176_175).trans (hF21424.2.1 175 ma_X4_aimAtEnd_177_175))) (((hF21442.1 176 3 mf_X5_joinHere_176_176_3).trans (hF21424.1 176 3 mf_X4_aimAtEnd_177_176_3))) (((hF21442.1 176 4 mf_X5_joinHere_176_176_4).trans (hF21424.1 176 4 mf_X4_aimAtEnd_177_176_4))) (((hF21442.1 176 5 mf_X5_joinHere_176_176_5).trans (hF21424.1 176 5 mf_X4_aimAtEnd_177_176_5)))]; exact NJ.mk (o21201 (by omega)) (by omega) i21517))⟩, (GPX.eq (LPG.opC q21169 (GPX.k gx21205 (by have r1 := rul (r := a1.toInt) (by omega); have r2 := rul (r := v21191.toInt) (by omega); omega) (by have r1 := rul (r := a1.toInt) (by omega); have r2 := rul (r := v21191.toInt) (by omega); omega) (by have r1 := rul (r := a1.toInt) (by omega); have r2 := rul (r := v21191.toInt) (by omega); omega) (by have r1 := rul (r := a1.toInt) (by omega); have r2 := rul (r := v21191.toInt) (by omega); omega)) ⟨by omega, by omega⟩ (fun z => (o21199.2.2 z).1) (by omega) (TKX.someC o21198 (((hF21194.2.1 175 (by decide)).trans (hF21152.2.1 175 (by decide)))) (((hF21194.1 174 1 (by decide)).trans (hF21152.1 174 1 (by decide))))).choose_spec (fun hz hr0 => (o21201 hz).2.1 (by omega)) (by omega) (fun _ hl => AIMP.b (AIMP.fr hr21426 SCX.rf SCX.rf) (by omega) hl) (rX.c (b := 2) ((hF21424.1 176 2 mf_X4_aimAtEnd_177_176_2))) (rX.c (b := 4) ((hF21424.1 176 4 mf_X4_aimAtEnd_177_176_4))) (rX.c (b := 6) ((hF21424.1 176 6 mf_X4_aimAtEnd_177_176_6)))) ((hF21442.2.1 178 ma_X5_joinHere_176_178)) ((hF21442.2.1 179 ma_X5_joinHere_176_179)) ((hF21442.1 177 0 mf_X5_joinHere_176_177_0)) (rX.c (b := 2) ((hF21442.1 176 2 mf_X5_joinHere_176_176_2))) (rX.c (b := 4) ((hF21442.1 176 4 mf_X5_joinHere_176_176_4))) (rX.c (b := 6) ((hF21442.1 176 6 mf_X5_joinHere_176_176_6))))⟩⟩
      · have c21190_ : a1.toInt = 3 := en_i_ne_f c21190
        refine At.enter rfl ?_
        refine r_aload_n e21156 ?_
        refine r_iload_n e21158 ?_
        refine r_callV 39 rfl [.ref 176, .int a2] [] (Nat.le_of_ble_eq_true rfl) rfl (IHT _ (by omega) hI21151 a2 (by omega) (by omega) q21165) ?_
        rintro _ _ ⟨g21529, rfl, hI21530, hF21531, rfl, hr21533⟩
        refine At.stn ?_
        have hF21534 := Fr.tr hF21152 hF21531 rfl rfl
        obtain ⟨v21538, hv21538⟩ : ∃ v, gI g21150 176 2 = v := ⟨_, rfl⟩
        have tv21538 := congrArg Int32.toInt hv21538
        have x21539 := rX.e hI21151 (b := 2) (hv21538)
        have x21540 := rX.e hI21151 (b := 4) (hv21176)
        obtain ⟨o21535, o21536, o21537⟩ := hr21533.1
        have gx21541 := hr21533.2
        rw [TX.ci hI21151 ((hF21152.2.1 175 (by decide))), nX.ci hI21151 ((hF21152.1 174 1 (by decide)))] at gx21541
        rw [TX.ci hI21151 ((hF21152.2.1 175 (by decide))), nX.ci hI21151 ((hF21152.1 174 1 (by decide)))] at o21537
        obtain ⟨v21542, hv21542⟩ : ∃ v, gI g21529 176 2 = v := ⟨_, rfl⟩
        have tv21542 := congrArg Int32.toInt hv21542
        have x21543 := rX.e hI21530 (b := 2) (hv21542)
        obtain ⟨v21544, hv21544⟩ : ∃ v, gI g21529 176 4 = v := ⟨_, rfl⟩
        have rv21544 := RgF.at hI21530.2.1 (p := 176) (b := 4) rfl
        rw [hv21544] at rv21544
        dsimp only at rv21544
        have tv21544 := congrArg Int32.toInt hv21544
        have x21545 := rX.e hI21530 (b := 4) (hv21544)
        refine At.enter rfl ?_
        refine r_goto ?_
        refine At.enter rfl ?_
        refine r_iload e21160 ?_
        refine r_iconst (-1) rfl ?_
        refine r_ics 56 rfl (fun c21546 => ?_) (fun c21546 => ?_)
        · have c21546_ : x21148.toInt = (-1) := en_i_eq_t c21546
          refine At.enter rfl ?_
          refine r_iload_n e21159 ?_
          refine r_iconst (-1) rfl ?_
          refine r_ics 73 rfl (fun c21547 => ?_) (fun c21547 => ?_)
          · have c21547_ : x21147.toInt = (-1) := en_i_eq_t c21547
            refine At.enter rfl ?_
            refine r_aload_n e21156 ?_
            refine q_getI (Sh.int hI21530.1 kx_176 rfl) v21542 hv21542 ?_
            refine r_iconst (-1) rfl ?_
            refine r_ics 91 rfl (fun c21548 => ?_) (fun c21548 => ?_)
            · have c21548_ : v21542.toInt ≠ (-1) := en_i_ne_t c21548
              refine At.enter rfl ?_
              refine r_iconst (-1) rfl ?_
              refine Ar.fall 100 rfl ?_
              refine At.enter rfl ?_
              refine r_istore_n _ rfl ?_
              refine r_iload_n (w_e1 _ _ _) ?_
              refine r_iconst (-1) rfl ?_
              refine r_icf 106 rfl (by decide) ?_
              refine At.enter rfl ?_
              refine r_vret ?_
              have x21549 := rX.e hI21530 (b := 2) (hv21542)
              have x21550 := rX.e hI21530 (b := 4) (hv21544)
              obtain ⟨v21551, hv21551⟩ : ∃ v, gI g21529 176 6 = v := ⟨_, rfl⟩
              have tv21551 := congrArg Int32.toInt hv21551
              have x21552 := rX.e hI21530 (b := 6) (hv21551)
              obtain ⟨v21553, hv21553⟩ : ∃ v, gI g0 176 2 = v := ⟨_, rfl⟩
              have tv21553 := congrArg Int32.toInt hv21553
              have x21554 := rX.e hI0 (b := 2) (hv21553)
              have x21555 := rX.e hI0 (b := 4) (hv21173)
              have x21556 := rX.e hI21151 (b := 2) (hv21538)
              have x21557 := rX.e hI21151 (b := 4) (hv21176)
              have x21558 := rX.e hI21530 (b := 2) (hv21542)
              have x21559 := rX.e hI21530 (b := 4) (hv21544)
              exact ⟨_, rfl, hI21530, hF21534, rfl, ⟨⟨o21535, (PRG0.tr q21167 (PRG0.tr o21536 (PRG0.eq rfl rfl))).le (by omega), LPI.end_ q21166 (OPD.part o21537 (by omega)) rfl rfl rfl, (fun hz => absurd hz (by omega))⟩, (LPG.opA q21169 (GPX.k gx21541 (by have r1 := rul (r := a1.toInt) (by omega); omega) (by have r1 := rul (r := a1.toInt) (by omega); omega) (by have r1 := rul (r := a1.toInt) (by omega); omega) (by have r1 := rul (r := a1.toInt) (by omega); omega)) ⟨by omega, by omega⟩ (fun z => (o21536.2.2 z).1) (by omega) (by omega))⟩⟩
            · have c21548_ : v21542.toInt = (-1) := en_i_ne_f c21548
              refine At.enter rfl ?_
              refine r_aload_n e21156 ?_
              refine r_iload_n e21157 ?_
              refine r_callV 96 rfl [.ref 176, .int a1] [] (Nat.le_of_ble_eq_true rfl) rfl (T_X5_joinHere_176 _ hI21530 a1 (by omega) o21535) ?_
              rintro _ _ ⟨g21560, rfl, hI21561, hF21562, v21563, rfl, hr21564⟩
              refine At.sti ?_
              have hF21565 := Fr.tr hF21534 hF21562 rfl rfl
              have je21566 : v21563.toInt ≠ -1 → v21563.toInt = CDX g21529 - 18 := hr21564.2.2
              have hb21567 : BLN (JN a1.toInt (CDX g21529)) v21563.toInt := hr21564.2.1
              refine At.enter rfl ?_
              refine r_goto ?_
              refine At.enter rfl ?_
              refine r_istore_n _ rfl ?_
              refine r_iload_n (w_e1 _ _ _) ?_
              refine r_iconst (-1) rfl ?_
              refine r_ics 106 rfl (fun c21568 => ?_) (fun c21568 => ?_)
              · have c21568_ : v21563.toInt ≠ (-1) := en_i_ne_t c21568
                have i21569 := BLN.yes hb21567 (by omega)
                refine At.enter rfl ?_
                refine r_aload_n (w_p1 (by decide) (Or.inr rfl) e21156) ?_
                refine r_callV 111 rfl [.ref 176] [] (Nat.le_of_ble_eq_true rfl) rfl (T_X5_step_176 _ hI21561 (TKX.c o21535 ((hF21562.2.1 175 ma_X5_joinHere_176_175)) ((hF21562.1 174 1 mf_X5_joinHere_176_174_1)) ((hF21562.1 176 3 mf_X5_joinHere_176_176_3)) ((hF21562.1 176 4 mf_X5_joinHere_176_176_4)) ((hF21562.1 176 5 mf_X5_joinHere_176_176_5))).1 (TKX.c o21535 ((hF21562.2.1 175 ma_X5_joinHere_176_175)) ((hF21562.1 174 1 mf_X5_joinHere_176_174_1)) ((hF21562.1 176 3 mf_X5_joinHere_176_176_3)) ((hF21562.1 176 4 mf_X5_joinHere_176_176_4)) ((hF21562.1 176 5 mf_X5_joinHere_176_176_5))).2.1.le.2.1) ?_
                rintro _ _ ⟨g21570, rfl, hI21571, hF21572, rfl, hr21574⟩
                refine At.stn ?_
                have hF21575 := Fr.tr hF21565 hF21572 rfl rfl
                have tok21576_ := hr21574.2
                rw [TX.c ((hF21562.2.1 175 ma_X5_joinHere_176_175)), nX.c ((hF21562.1 174 1 mf_X5_joinHere_176_174_1)), rX.c (b := 5) ((hF21562.1 176 5 mf_X5_joinHere_176_176_5))] at tok21576_
                have tok21576 := TKX.tok o21535 tok21576_
                rw [TX.c (((hF21531.2.1 175 (by decide)).trans (hF21152.2.1 175 (by decide)))), nX.c (((hF21531.1 174 1 (by decide)).trans (hF21152.1 174 1 (by decide))))] at tok21576
                have hT21577 := hr21574.1
                have x21578 := rX.e hI21561 (b := 4) (((hF21562.1 176 4 mf_X5_joinHere_176_176_4).trans hv21544))
                obtain ⟨v21579, hv21579⟩ : ∃ v, gI g21570 176 4 = v := ⟨_, rfl⟩
                have rv21579 := RgF.at hI21571.2.1 (p := 176) (b := 4) rfl
                rw [hv21579] at rv21579
                dsimp only at rv21579
                have tv21579 := congrArg Int32.toInt hv21579
                have x21580 := rX.e hI21571 (b := 4) (hv21579)
                refine At.enter rfl ?_
                refine r_iload_n (w_p1 (by decide) (Or.inr rfl) e21157) ?_
                refine r_ifs 115 rfl (fun c21581 => ?_) (fun c21581 => ?_)
                · have c21581_ : a1.toInt = 0 := en_k_eq_t c21581
                  exfalso; omega
                · have c21581_ : a1.toInt ≠ 0 := en_k_eq_f c21581
                  refine At.enter rfl ?_
                  refine r_iload_n (w_p1 (by decide) (Or.inr rfl) e21157) ?_
                  refine r_iconst 1 rfl ?_
                  refine r_ics 120 rfl (fun c21582 => ?_) (fun c21582 => ?_)
                  · have c21582_ : a1.toInt ≠ 1 := en_i_ne_t c21582
                    refine At.enter rfl ?_
                    refine r_iconst (-1) rfl ?_
                    refine Ar.fall 133 rfl ?_
                    refine At.enter rfl ?_
                    refine r_istore _ rfl ?_
                    refine q_iinc (w_p1 (by decide) (Or.inr rfl) (w_p1 (by decide) (Or.inr rfl) e21161)) (x21149.toInt + 1) rfl (by omega) (fun v21583 hv21583 => ?_)
                    refine r_goto ?_
                    have jj21584 := i21569
                    unfold JN at jj21584
                    have x21585 := rX.e hI21530 (b := 2) (hv21542)
                    have x21586 := rX.e hI21530 (b := 4) (hv21544)
                    have x21587 := rX.e hI21530 (b := 4) (hv21544)
                    have x21588 := rX.e hI21571 (b := 4) (hv21579)
                    have x21589 := rX.e hI21151 (b := 4) (hv21176)
                    have x21590 := rX.e hI21530 (b := 2) (hv21542)
                    have x21591 := rX.e hI21530 (b := 4) (hv21544)
                    have x21592 := rX.e hI21571 (b := 4) (hv21579)
                    have x21593 := rX.e hI21571 (b := 4) (hv21579)
                    have y21594 := (o21536.2.2 (by omega)).2
                    have y21595 := ((PRG0.step o21535 tok21576_ (rX.c (b := 2) (((hF21572.1 176 2 mf_X5_step_176_176_2).trans (hF21562.1 176 2 mf_X5_joinHere_176_176_2)))) (JN.ne i21569)).2.2 (by rw [(rX.c (b := 2) (((hF21572.1 176 2 mf_X5_step_176_176_2).trans (hF21562.1 176 2 mf_X5_joinHere_176_176_2))))]; omega)).2
                    have zv21596 : ((-1) : Int32).toInt = (-1) := rfl
                    exact ih21155 (400 - v21583.toInt) _ _ ⟨v21563, (-1), v21583, by first | rfl | omega, hI21571, hF21575, (w_p1 (by decide) (Or.inr rfl) (w_p1 (by decide) (Or.inr rfl) (w_p1 (by decide) (Or.inr rfl) e21156))), (w_p1 (by decide) (Or.inr rfl) (w_p1 (by decide) (Or.inr rfl) (w_p1 (by decide) (Or.inr rfl) e21157))), (w_p1 (by decide) (Or.inr rfl) (w_p1 (by decide) (Or.inr rfl) (w_p1 (by decide) (Or.inr rfl) e21158))), (w_p1 (by decide) (Or.inr rfl) (w_p1 (by decide) (Or.inr rfl) (w_e1 _ _ _))), (w_p1 (by decide) (Or.inr rfl) (w_e1 _ _ _)), (w_e1 _ _ _), by omega, by decide, by omega, hT21577, (LPI.eq (LPI.next q21166 (OPD.part o21537 (by omega)) tok21576 i21569 ⟨by omega, by omega⟩ (rX.c (b := 2) (((hF21572.1 176 2 mf_X5_step_176_176_2).trans (hF21562.1 176 2 mf_X5_joinHere_176_176_2)))) (rX.c (b := 6) (((hF21572.1 176 6 mf_X5_step_176_176_6).trans (hF21562.1 176 6 mf_X5_joinHere_176_176_6))))) rfl rfl rfl), ((PRG0.tr q21167 (PRG0.tr o21536 (PRG0.tr (PRG0.step o21535 tok21576_ (rX.c (b := 2) (((hF21572.1 176 2 mf_X5_step_176_176_2).trans (hF21562.1 176 2 mf_X5_joinHere_176_176_2)))) (JN.ne i21569)) (PRG0.eq rfl rfl)))).le (by omega)), by omega, (GPX.joinB (LPG.opA q21169 (GPX.k gx21541 (by have r1 := rul (r := a1.toInt) (by omega); omega) (by have r1 := rul (r := a1.toInt) (by omega); omega) (by have r1 := rul (r := a1.toInt) (by omega); omega) (by have r1 := rul (r := a1.toInt) (by omega); omega)) ⟨by omega, by omega⟩ (fun z => (o21536.2.2 z).1) (by omega) (by omega)) ⟨by omega, by omega⟩ tok21576 (by omega) (by omega) (by omega) (rX.c (b := 2) (((hF21572.1 176 2 mf_X5_step_176_176_2).trans (hF21562.1 176 2 mf_X5_joinHere_176_176_2)))) (rX.c (b := 6) (((hF21572.1 176 6 mf_X5_step_176_176_6).trans (hF21562.1 176 6 mf_X5_joinHere_176_176_6)))) (((hF21572.2.1 178 ma_X5_step_176_178).trans (hF21562.2.1 178 ma_X5_joinHere_176_178))) (((hF21572.2.1 179 ma_X5_step_176_179).trans (hF21562.2.1 179 ma_X5_joinHere_176_179))) (((hF21572.1 177 0 mf_X5_step_176_177_0).trans (hF21562.1 177 0 mf_X5_joinHere_176_177_0))) (by omega))⟩ ⟨by omega, by omega⟩
                  · have c21582_ : a1.toInt = 1 := en_i_ne_f c21582
                    exfalso; omega
              · have c21568_ : v21563.toInt = (-1) := en_i_ne_f c21568
                have i21597 := BLN.no hb21567 (by omega)
                refine At.enter rfl ?_
                refine r_vret ?_
                have x21598 := rX.e hI21561 (b := 2) (((hF21562.1 176 2 mf_X5_joinHere_176_176_2).trans hv21542))
                have x21599 := rX.e hI21561 (b := 4) (((hF21562.1 176 4 mf_X5_joinHere_176_176_4).trans hv21544))
                obtain ⟨v21600, hv21600⟩ : ∃ v, gI g21529 176 6 = v := ⟨_, rfl⟩
                have tv21600 := congrArg Int32.toInt hv21600
                have x21601 := rX.e hI21561 (b := 6) (((hF21562.1 176 6 mf_X5_joinHere_176_176_6).trans hv21600))
                obtain ⟨v21602, hv21602⟩ : ∃ v, gI g0 176 2 = v := ⟨_, rfl⟩
                have tv21602 := congrArg Int32.toInt hv21602
                have x21603 := rX.e hI0 (b := 2) (hv21602)
                have x21604 := rX.e hI0 (b := 4) (hv21173)
                have x21605 := rX.e hI21151 (b := 2) (hv21538)
                have x21606 := rX.e hI21151 (b := 4) (hv21176)
                have x21607 := rX.e hI21530 (b := 2) (hv21542)
                have x21608 := rX.e hI21530 (b := 4) (hv21544)
                exact ⟨_, rfl, hI21561, hF21565, rfl, ⟨⟨(TKX.c o21535 ((hF21562.2.1 175 ma_X5_joinHere_176_175)) ((hF21562.1 174 1 mf_X5_joinHere_176_174_1)) ((hF21562.1 176 3 mf_X5_joinHere_176_176_3)) ((hF21562.1 176 4 mf_X5_joinHere_176_176_4)) ((hF21562.1 176 5 mf_X5_joinHere_176_176_5))), (PRG0.tr q21167 (PRG0.tr o21536 (PRG0.eq (rX.c (b := 4) ((hF21562.1 176 4 mf_X5_joinHere_176_176_4))) (rX.c (b := 2) ((hF21562.1 176 2 mf_X5_joinHere_176_176_2)))))).le (by omega), LPI.end_ q21166 (OPD.part o21537 (by omega)) (rX.c (b := 2) ((hF21562.1 176 2 mf_X5_joinHere_176_176_2))) (rX.c (b := 4) ((hF21562.1 176 4 mf_X5_joinHere_176_176_4))) (rX.c (b := 6) ((hF21562.1 176 6 mf_X5_joinHere_176_176_6))), (fun hz => (by rw [CDX.c ((hF21562.2.1 175 ma_X5_joinHere_176_175)) ((hF21562.1 176 3 mf_X5_joinHere_176_176_3)) ((hF21562.1 176 4 mf_X5_joinHere_176_176_4)) ((hF21562.1 176 5 mf_X5_joinHere_176_176_5))]; exact NJ.mk1 (by omega) i21597))⟩, (GPX.eq (LPG.opA q21169 (GPX.k gx21541 (by have r1 := rul (r := a1.toInt) (by omega); omega) (by have r1 := rul (r := a1.toInt) (by omega); omega) (by have r1 := rul (r := a1.toInt) (by omega); omega) (by have r1 := rul (r := a1.toInt) (by omega); omega)) ⟨by omega, by omega⟩ (fun z => (o21536.2.2 z).1) (by omega) (by omega)) ((hF21562.2.1 178 ma_X5_joinHere_176_178)) ((hF21562.2.1 179 ma_X5_joinHere_176_179)) ((hF21562.1 177 0 mf_X5_joinHere_176_177_0)) (rX.c (b := 2) ((hF21562.1 176 2 mf_X5_joinHere_176_176_2))) (rX.c (b := 4) ((hF21562.1 176 4 mf_X5_joinHere_176_176_4))) (rX.c (b := 6) ((hF21562.1 176 6 mf_X5_joinHere_176_176_6))))⟩⟩
          · have c21547_ : x21147.toInt ≠ (-1) := en_i_eq_f c21547
            refine At.enter rfl ?_
            refine r_aload_n e21156 ?_
            refine q_getR (Sh.ref hI21530.1 kx_176 rfl) ?_
            refine r_iload_n e21159 ?_
            refine r_iconst 0 rfl ?_
            refine r_callV 82 rfl [.ref 177, .int x21147, .int 0] [] (Nat.le_of_ble_eq_true rfl) rfl (T_X4_add_177 _ hI21530 x21147 0) ?_
            rintro _ _ ⟨g21609, rfl, hI21610, hF21611, v21612, rfl, hr21613⟩
            refine At.sti ?_
            have hF21614 := Fr.tr hF21534 hF21611 rfl rfl
            have zv21615 : (0 : Int32).toInt = 0 := rfl
            refine At.enter rfl ?_
            refine r_pop rfl ?_
            refine Ar.fall 83 rfl ?_
            refine At.enter rfl ?_
            refine r_aload_n e21156 ?_
            refine q_getI (Sh.int hI21610.1 kx_176 rfl) v21542 ((hF21611.1 176 2 mf_X4_add_177_176_2).trans hv21542) ?_
            refine r_iconst (-1) rfl ?_
            refine r_ics 91 rfl (fun c21616 => ?_) (fun c21616 => ?_)
            · have c21616_ : v21542.toInt ≠ (-1) := en_i_ne_t c21616
              refine At.enter rfl ?_
              refine r_iconst (-1) rfl ?_
              refine Ar.fall 100 rfl ?_
              refine At.enter rfl ?_
              refine r_istore_n _ rfl ?_
              refine r_iload_n (w_e1 _ _ _) ?_
              refine r_iconst (-1) rfl ?_
              refine r_icf 106 rfl (by decide) ?_
              refine At.enter rfl ?_
              refine r_vret ?_
              have x21617 := rX.e hI21610 (b := 2) (((hF21611.1 176 2 mf_X4_add_177_176_2).trans hv21542))
              have x21618 := rX.e hI21610 (b := 4) (((hF21611.1 176 4 mf_X4_add_177_176_4).trans hv21544))
              obtain ⟨v21619, hv21619⟩ : ∃ v, gI g21529 176 6 = v := ⟨_, rfl⟩
              have tv21619 := congrArg Int32.toInt hv21619
              have x21620 := rX.e hI21610 (b := 6) (((hF21611.1 176 6 mf_X4_add_177_176_6).trans hv21619))
              obtain ⟨v21621, hv21621⟩ : ∃ v, gI g0 176 2 = v := ⟨_, rfl⟩
              have tv21621 := congrArg Int32.toInt hv21621
              have x21622 := rX.e hI0 (b := 2) (hv21621)
              have x21623 := rX.e hI0 (b := 4) (hv21173)
              have x21624 := rX.e hI21151 (b := 2) (hv21538)
              have x21625 := rX.e hI21151 (b := 4) (hv21176)
              have x21626 := rX.e hI21530 (b := 2) (hv21542)
              have x21627 := rX.e hI21530 (b := 4) (hv21544)
              exact ⟨_, rfl, hI21610, hF21614, rfl, ⟨⟨(TKX.c o21535 ((hF21611.2.1 175 ma_X4_add_177_175)) ((hF21611.1 174 1 mf_X4_add_177_174_1)) ((hF21611.1 176 3 mf_X4_add_177_176_3)) ((hF21611.1 176 4 mf_X4_add_177_176_4)) ((hF21611.1 176 5 mf_X4_add_177_176_5))), (PRG0.tr q21167 (PRG0.tr o21536 (PRG0.eq (rX.c (b := 4) ((hF21611.1 176 4 mf_X4_add_177_176_4))) (rX.c (b := 2) ((hF21611.1 176 2 mf_X4_add_177_176_2)))))).le (by omega), LPI.end_ q21166 (OPD.part o21537 (by omega)) (rX.c (b := 2) ((hF21611.1 176 2 mf_X4_add_177_176_2))) (rX.c (b := 4) ((hF21611.1 176 4 mf_X4_add_177_176_4))) (rX.c (b := 6) ((hF21611.1 176 6 mf_X4_add_177_176_6))), (fun hz => absurd hz (by omega))⟩, (LPG.opB q21169 (GPX.k gx21541 (by have r1 := rul (r := a1.toInt) (by omega); omega) (by have r1 := rul (r := a1.toInt) (by omega); omega) (by have r1 := rul (r := a1.toInt) (by omega); omega) (by have r1 := rul (r := a1.toInt) (by omega); omega)) ⟨by omega, by omega⟩ (fun z => (o21536.2.2 z).1) (by omega) (by omega) (TKX.someC o21535 (((hF21531.2.1 175 (by decide)).trans (hF21152.2.1 175 (by decide)))) (((hF21531.1 174 1 (by decide)).trans (hF21152.1 174 1 (by decide))))).choose_spec (by omega) (fun _ hr2 => False.elim (by omega)) (fun _ hl => ADP.b (ADP.fr hr21613.2 SCX.rf SCX.rf) hl) (rX.c (b := 2) ((hF21611.1 176 2 mf_X4_add_177_176_2))) (rX.c (b := 4) ((hF21611.1 176 4 mf_X4_add_177_176_4))) (rX.c (b := 6) ((hF21611.1 176 6 mf_X4_add_177_176_6))))⟩⟩
            · have c21616_ : v21542.toInt = (-1) := en_i_ne_f c21616
              refine At.enter rfl ?_
              refine r_aload_n e21156 ?_
              refine r_iload_n e21157 ?_
              refine r_callV 96 rfl [.ref 176, .int a1] [] (Nat.le_of_ble_eq_true rfl) rfl (T_X5_joinHere_176 _ hI21610 a1 (by omega) (TKX.c o21535 ((hF21611.2.1 175 ma_X4_add_177_175)) ((hF21611.1 174 1 mf_X4_add_177_174_1)) ((hF21611.1 176 3 mf_X4_add_177_176_3)) ((hF21611.1 176 4 mf_X4_add_177_176_4)) ((hF21611.1 176 5 mf_X4_add_177_176_5)))) ?_
              rintro _ _ ⟨g21628, rfl, hI21629, hF21630, v21631, rfl, hr21632⟩
              refine At.sti ?_
              have hF21633 := Fr.tr hF21614 hF21630 rfl rfl
              have je21634 : v21631.toInt ≠ -1 → v21631.toInt = CDX g21529 - 18 := by have z := hr21632.2.2; rw [CDX.c ((hF21611.2.1 175 ma_X4_add_177_175)) ((hF21611.1 176 3 mf_X4_add_177_176_3)) ((hF21611.1 176 4 mf_X4_add_177_176_4)) ((hF21611.1 176 5 mf_X4_add_177_176_5))] at z; exact z
              have hb21635 : BLN (JN a1.toInt (CDX g21529)) v21631.toInt := by have z := hr21632.2.1; rw [CDX.c ((hF21611.2.1 175 ma_X4_add_177_175)) ((hF21611.1 176 3 mf_X4_add_177_176_3)) ((hF21611.1 176 4 mf_X4_add_177_176_4)) ((hF21611.1 176 5 mf_X4_add_177_176_5))] at z; exact z
              refine At.enter rfl ?_
              refine r_goto ?_
              refine At.enter rfl ?_
              refine r_istore_n _ rfl ?_
              refine r_iload_n (w_e1 _ _ _) ?_
              refine r_iconst (-1) rfl ?_
              refine r_ics 106 rfl (fun c21636 => ?_) (fun c21636 => ?_)
              · have c21636_ : v21631.toInt ≠ (-1) := en_i_ne_t c21636
                have i21637 := BLN.yes hb21635 (by omega)
                refine At.enter rfl ?_
                refine r_aload_n (w_p1 (by decide) (Or.inr rfl) e21156) ?_
                refine r_callV 111 rfl [.ref 176] [] (Nat.le_of_ble_eq_true rfl) rfl (T_X5_step_176 _ hI21629 (TKX.c o21535 (((hF21630.2.1 175 ma_X5_joinHere_176_175).trans (hF21611.2.1 175 ma_X4_add_177_175))) (((hF21630.1 174 1 mf_X5_joinHere_176_174_1).trans (hF21611.1 174 1 mf_X4_add_177_174_1))) (((hF21630.1 176 3 mf_X5_joinHere_176_176_3).trans (hF21611.1 176 3 mf_X4_add_177_176_3))) (((hF21630.1 176 4 mf_X5_joinHere_176_176_4).trans (hF21611.1 176 4 mf_X4_add_177_176_4))) (((hF21630.1 176 5 mf_X5_joinHere_176_176_5).trans (hF21611.1 176 5 mf_X4_add_177_176_5)))).1 (TKX.c o21535 (((hF21630.2.1 175 ma_X5_joinHere_176_175).trans (hF21611.2.1 175 ma_X4_add_177_175))) (((hF21630.1 174 1 mf_X5_joinHere_176_174_1).trans (hF21611.1 174 1 mf_X4_add_177_174_1))) (((hF21630.1 176 3 mf_X5_joinHere_176_176_3).trans (hF21611.1 176 3 mf_X4_add_177_176_3))) (((hF21630.1 176 4 mf_X5_joinHere_176_176_4).trans (hF21611.1 176 4 mf_X4_add_177_176_4))) (((hF21630.1 176 5 mf_X5_joinHere_176_176_5).trans (hF21611.1 176 5 mf_X4_add_177_176_5)))).2.1.le.2.1) ?_
                rintro _ _ ⟨g21638, rfl, hI21639, hF21640, rfl, hr21642⟩
                refine At.stn ?_
                have hF21643 := Fr.tr hF21633 hF21640 rfl rfl
                have tok21644_ := hr21642.2
                rw [TX.c (((hF21630.2.1 175 ma_X5_joinHere_176_175).trans (hF21611.2.1 175 ma_X4_add_177_175))), nX.c (((hF21630.1 174 1 mf_X5_joinHere_176_174_1).trans (hF21611.1 174 1 mf_X4_add_177_174_1))), rX.c (b := 5) (((hF21630.1 176 5 mf_X5_joinHere_176_176_5).trans (hF21611.1 176 5 mf_X4_add_177_176_5)))] at tok21644_
                have tok21644 := TKX.tok o21535 tok21644_
                rw [TX.c (((hF21531.2.1 175 (by decide)).trans (hF21152.2.1 175 (by decide)))), nX.c (((hF21531.1 174 1 (by decide)).trans (hF21152.1 174 1 (by decide))))] at tok21644
                have hT21645 := hr21642.1
                have x21646 := rX.e hI21629 (b := 4) ((((hF21630.1 176 4 mf_X5_joinHere_176_176_4).trans (hF21611.1 176 4 mf_X4_add_177_176_4)).trans hv21544))
                obtain ⟨v21647, hv21647⟩ : ∃ v, gI g21638 176 4 = v := ⟨_, rfl⟩
                have rv21647 := RgF.at hI21639.2.1 (p := 176) (b := 4) rfl
                rw [hv21647] at rv21647
                dsimp only at rv21647
                have tv21647 := congrArg Int32.toInt hv21647
                have x21648 := rX.e hI21639 (b := 4) (hv21647)
                refine At.enter rfl ?_
                refine r_iload_n (w_p1 (by decide) (Or.inr rfl) e21157) ?_
                refine r_ifs 115 rfl (fun c21649 => ?_) (fun c21649 => ?_)
                · have c21649_ : a1.toInt = 0 := en_k_eq_t c21649
                  exfalso; omega
                · have c21649_ : a1.toInt ≠ 0 := en_k_eq_f c21649
                  refine At.enter rfl ?_
                  refine r_iload_n (w_p1 (by decide) (Or.inr rfl) e21157) ?_
                  refine r_iconst 1 rfl ?_
                  refine r_ics 120 rfl (fun c21650 => ?_) (fun c21650 => ?_)
                  · have c21650_ : a1.toInt ≠ 1 := en_i_ne_t c21650
                    refine At.enter rfl ?_
                    refine r_iconst (-1) rfl ?_
                    refine Ar.fall 133 rfl ?_
                    refine At.enter rfl ?_
                    refine r_istore _ rfl ?_
                    refine q_iinc (w_p1 (by decide) (Or.inr rfl) (w_p1 (by decide) (Or.inr rfl) e21161)) (x21149.toInt + 1) rfl (by omega) (fun v21651 hv21651 => ?_)
                    refine r_goto ?_
                    have jj21652 := i21637
                    unfold JN at jj21652
                    have x21653 := rX.e hI21530 (b := 2) (hv21542)
                    have x21654 := rX.e hI21530 (b := 4) (hv21544)
                    have x21655 := rX.e hI21610 (b := 4) (((hF21611.1 176 4 mf_X4_add_177_176_4).trans hv21544))
                    have x21656 := rX.e hI21639 (b := 4) (hv21647)
                    have x21657 := rX.e hI21151 (b := 4) (hv21176)
                    have x21658 := rX.e hI21530 (b := 2) (hv21542)
                    have x21659 := rX.e hI21530 (b := 4) (hv21544)
                    have x21660 := rX.e hI21639 (b := 4) (hv21647)
                    have x21661 := rX.e hI21639 (b := 4) (hv21647)
                    have y21662 := (o21536.2.2 (by omega)).2
                    have y21663 := ((PRG0.step o21535 tok21644_ (rX.c (b := 2) (((hF21640.1 176 2 mf_X5_step_176_176_2).trans ((hF21630.1 176 2 mf_X5_joinHere_176_176_2).trans (hF21611.1 176 2 mf_X4_add_177_176_2))))) (JN.ne i21637)).2.2 (by rw [(rX.c (b := 2) (((hF21640.1 176 2 mf_X5_step_176_176_2).trans ((hF21630.1 176 2 mf_X5_joinHere_176_176_2).trans (hF21611.1 176 2 mf_X4_add_177_176_2)))))]; omega)).2
                    have zv21664 : ((-1) : Int32).toInt = (-1) := rfl
                    exact ih21155 (400 - v21651.toInt) _ _ ⟨v21631, (-1), v21651, by first | rfl | omega, hI21639, hF21643, (w_p1 (by decide) (Or.inr rfl) (w_p1 (by decide) (Or.inr rfl) (w_p1 (by decide) (Or.inr rfl) e21156))), (w_p1 (by decide) (Or.inr rfl) (w_p1 (by decide) (Or.inr rfl) (w_p1 (by decide) (Or.inr rfl) e21157))), (w_p1 (by decide) (Or.inr rfl) (w_p1 (by decide) (Or.inr rfl) (w_p1 (by decide) (Or.inr rfl) e21158))), (w_p1 (by decide) (Or.inr rfl) (w_p1 (by decide) (Or.inr rfl) (w_e1 _ _ _))), (w_p1 (by decide) (Or.inr rfl) (w_e1 _ _ _)), (w_e1 _ _ _), by omega, by decide, by omega, hT21645, (LPI.eq (LPI.next q21166 (OPD.part o21537 (by omega)) tok21644 i21637 ⟨by omega, by omega⟩ (rX.c (b := 2) (((hF21640.1 176 2 mf_X5_step_176_176_2).trans ((hF21630.1 176 2 mf_X5_joinHere_176_176_2).trans (hF21611.1 176 2 mf_X4_add_177_176_2))))) (rX.c (b := 6) (((hF21640.1 176 6 mf_X5_step_176_176_6).trans ((hF21630.1 176 6 mf_X5_joinHere_176_176_6).trans (hF21611.1 176 6 mf_X4_add_177_176_6)))))) rfl rfl rfl), ((PRG0.tr q21167 (PRG0.tr o21536 (PRG0.tr (PRG0.step o21535 tok21644_ (rX.c (b := 2) (((hF21640.1 176 2 mf_X5_step_176_176_2).trans ((hF21630.1 176 2 mf_X5_joinHere_176_176_2).trans (hF21611.1 176 2 mf_X4_add_177_176_2))))) (JN.ne i21637)) (PRG0.eq rfl rfl)))).le (by omega)), by omega, (GPX.joinB (LPG.opB q21169 (GPX.k gx21541 (by have r1 := rul (r := a1.toInt) (by omega); omega) (by have r1 := rul (r := a1.toInt) (by omega); omega) (by have r1 := rul (r := a1.toInt) (by omega); omega) (by have r1 := rul (r := a1.toInt) (by omega); omega)) ⟨by omega, by omega⟩ (fun z => (o21536.2.2 z).1) (by omega) (by omega) (TKX.someC o21535 (((hF21531.2.1 175 (by decide)).trans (hF21152.2.1 175 (by decide)))) (((hF21531.1 174 1 (by decide)).trans (hF21152.1 174 1 (by decide))))).choose_spec (by omega) (fun _ hr2 => False.elim (by omega)) (fun _ hl => ADP.b (ADP.fr hr21613.2 SCX.rf SCX.rf) hl) (rX.c (b := 2) ((hF21611.1 176 2 mf_X4_add_177_176_2))) (rX.c (b := 4) ((hF21611.1 176 4 mf_X4_add_177_176_4))) (rX.c (b := 6) ((hF21611.1 176 6 mf_X4_add_177_176_6)))) ⟨by omega, by omega⟩ (by rw [(rX.c (b := 4) ((hF21611.1 176 4 mf_X4_add_177_176_4)))]; exact tok21644) (by omega) (by omega) (by omega) (rX.c (b := 2) (((hF21640.1 176 2 mf_X5_step_176_176_2).trans (hF21630.1 176 2 mf_X5_joinHere_176_176_2)))) (rX.c (b := 6) (((hF21640.1 176 6 mf_X5_step_176_176_6).trans (hF21630.1 176 6 mf_X5_joinHere_176_176_6)))) (((hF21640.2.1 178 ma_X5_step_176_178).trans (hF21630.2.1 178 ma_X5_joinHere_176_178))) (((hF21640.2.1 179 ma_X5_step_176_179).trans (hF21630.2.1 179 ma_X5_joinHere_176_179))) (((hF21640.1 177 0 mf_X5_step_176_177_0).trans (hF21630.1 177 0 mf_X5_joinHere_176_177_0))) (by omega))⟩ ⟨by omega, by omega⟩
                  · have c21650_ : a1.toInt = 1 := en_i_ne_f c21650
                    exfalso; omega
              · have c21636_ : v21631.toInt = (-1) := en_i_ne_f c21636
                have i21665 := BLN.no hb21635 (by omega)
                refine At.enter rfl ?_
                refine r_vret ?_
                have x21666 := rX.e hI21629 (b := 2) ((((hF21630.1 176 2 mf_X5_joinHere_176_176_2).trans (hF21611.1 176 2 mf_X4_add_177_176_2)).trans hv21542))
                have x21667 := rX.e hI21629 (b := 4) ((((hF21630.1 176 4 mf_X5_joinHere_176_176_4).trans (hF21611.1 176 4 mf_X4_add_177_176_4)).trans hv21544))
                obtain ⟨v21668, hv21668⟩ : ∃ v, gI g21529 176 6 = v := ⟨_, rfl⟩
                have tv21668 := congrArg Int32.toInt hv21668
                have x21669 := rX.e hI21629 (b := 6) ((((hF21630.1 176 6 mf_X5_joinHere_176_176_6).trans (hF21611.1 176 6 mf_X4_add_177_176_6)).trans hv21668))
                obtain ⟨v21670, hv21670⟩ : ∃ v, gI g0 176 2 = v := ⟨_, rfl⟩
                have tv21670 := congrArg Int32.toInt hv21670
                have x21671 := rX.e hI0 (b := 2) (hv21670)
                have x21672 := rX.e hI0 (b := 4) (hv21173)
                have x21673 := rX.e hI21151 (b := 2) (hv21538)
                have x21674 := rX.e hI21151 (b := 4) (hv21176)
                have x21675 := rX.e hI21530 (b := 2) (hv21542)
                have x21676 := rX.e hI21530 (b := 4) (hv21544)
                exact ⟨_, rfl, hI21629, hF21633, rfl, ⟨⟨(TKX.c o21535 (((hF21630.2.1 175 ma_X5_joinHere_176_175).trans (hF21611.2.1 175 ma_X4_add_177_175))) (((hF21630.1 174 1 mf_X5_joinHere_176_174_1).trans (hF21611.1 174 1 mf_X4_add_177_174_1))) (((hF21630.1 176 3 mf_X5_joinHere_176_176_3).trans (hF21611.1 176 3 mf_X4_add_177_176_3))) (((hF21630.1 176 4 mf_X5_joinHere_176_176_4).trans (hF21611.1 176 4 mf_X4_add_177_176_4))) (((hF21630.1 176 5 mf_X5_joinHere_176_176_5).trans (hF21611.1 176 5 mf_X4_add_177_176_5)))), (PRG0.tr q21167 (PRG0.tr o21536 (PRG0.eq (rX.c (b := 4) (((hF21630.1 176 4 mf_X5_joinHere_176_176_4).trans (hF21611.1 176 4 mf_X4_add_177_176_4)))) (rX.c (b := 2) (((hF21630.1 176 2 mf_X5_joinHere_176_176_2).trans (hF21611.1 176 2 mf_X4_add_177_176_2))))))).le (by omega), LPI.end_ q21166 (OPD.part o21537 (by omega)) (rX.c (b := 2) (((hF21630.1 176 2 mf_X5_joinHere_176_176_2).trans (hF21611.1 176 2 mf_X4_add_177_176_2)))) (rX.c (b := 4) (((hF21630.1 176 4 mf_X5_joinHere_176_176_4).trans (hF21611.1 176 4 mf_X4_add_177_176_4)))) (rX.c (b := 6) (((hF21630.1 176 6 mf_X5_joinHere_176_176_6).trans (hF21611.1 176 6 mf_X4_add_177_176_6)))), (fun hz => (by rw [CDX.c (((hF21630.2.1 175 ma_X5_joinHere_176_175).trans (hF21611.2.1 175 ma_X4_add_177_175))) (((hF21630.1 176 3 mf_X5_joinHere_176_176_3).trans (hF21611.1 176 3 mf_X4_add_177_176_3))) (((hF21630.1 176 4 mf_X5_joinHere_176_176_4).trans (hF21611.1 176 4 mf_X4_add_177_176_4))) (((hF21630.1 176 5 mf_X5_joinHere_176_176_5).trans (hF21611.1 176 5 mf_X4_add_177_176_5)))]; exact NJ.mk1 (by omega) i21665))⟩, (GPX.eq (LPG.opB q21169 (GPX.k gx21541 (by have r1 := rul (r := a1.toInt) (by omega); omega) (by have r1 := rul (r := a1.toInt) (by omega); omega) (by have r1 := rul (r := a1.toInt) (by omega); omega) (by have r1 := rul (r := a1.toInt) (by omega); omega)) ⟨by omega, by omega⟩ (fun z => (o21536.2.2 z).1) (by omega) (by omega) (TKX.someC o21535 (((hF21531.2.1 175 (by decide)).trans (hF21152.2.1 175 (by decide)))) (((hF21531.1 174 1 (by decide)).trans (hF21152.1 174 1 (by decide))))).choose_spec (by omega) (fun _ hr2 => False.elim (by omega)) (fun _ hl => ADP.b (ADP.fr hr21613.2 SCX.rf SCX.rf) hl) (rX.c (b := 2) ((hF21611.1 176 2 mf_X4_add_177_176_2))) (rX.c (b := 4) ((hF21611.1 176 4 mf_X4_add_177_176_4))) (rX.c (b := 6) ((hF21611.1 176 6 mf_X4_add_177_176_6)))) ((hF21630.2.1 178 ma_X5_joinHere_176_178)) ((hF21630.2.1 179 ma_X5_joinHere_176_179)) ((hF21630.1 177 0 mf_X5_joinHere_176_177_0)) (rX.c (b := 2) ((hF21630.1 176 2 mf_X5_joinHere_176_176_2))) (rX.c (b := 4) ((hF21630.1 176 4 mf_X5_joinHere_176_176_4))) (rX.c (b := 6) ((hF21630.1 176 6 mf_X5_joinHere_176_176_6))))⟩⟩
        · have c21546_ : x21148.toInt ≠ (-1) := en_i_eq_f c21546
          refine At.enter rfl ?_
          refine r_aload_n e21156 ?_
          refine q_getR (Sh.ref hI21530.1 kx_176 rfl) ?_
          refine r_iload e21160 ?_
          refine r_callV 65 rfl [.ref 177, .int x21148] [] (Nat.le_of_ble_eq_true rfl) rfl (T_X4_aimAtEnd_177 _ hI21530 x21148) ?_
          rintro _ _ ⟨g21677, rfl, hI21678, hF21679, rfl, hr21681⟩
          refine At.stn ?_
          have hF21682 := Fr.tr hF21534 hF21679 rfl rfl
          refine At.enter rfl ?_
          refine r_goto ?_
          refine At.enter rfl ?_
          refine r_aload_n e21156 ?_
          refine q_getI (Sh.int hI21678.1 kx_176 rfl) v21542 ((hF21679.1 176 2 mf_X4_aimAtEnd_177_176_2).trans hv21542) ?_
          refine r_iconst (-1) rfl ?_
          refine r_ics 91 rfl (fun c21683 => ?_) (fun c21683 => ?_)
          · have c21683_ : v21542.toInt ≠ (-1) := en_i_ne_t c21683
            refine At.enter rfl ?_
            refine r_iconst (-1) rfl ?_
            refine Ar.fall 100 rfl ?_
            refine At.enter rfl ?_
            refine r_istore_n _ rfl ?_
            refine r_iload_n (w_e1 _ _ _) ?_
            refine r_iconst (-1) rfl ?_
            refine r_icf 106 rfl (by decide) ?_
            refine At.enter rfl ?_
            refine r_vret ?_
            have x21684 := rX.e hI21678 (b := 2) (((hF21679.1 176 2 mf_X4_aimAtEnd_177_176_2).trans hv21542))
            have x21685 := rX.e hI21678 (b := 4) (((hF21679.1 176 4 mf_X4_aimAtEnd_177_176_4).trans hv21544))
            obtain ⟨v21686, hv21686⟩ : ∃ v, gI g21529 176 6 = v := ⟨_, rfl⟩
            have tv21686 := congrArg Int32.toInt hv21686
            have x21687 := rX.e hI21678 (b := 6) (((hF21679.1 176 6 mf_X4_aimAtEnd_177_176_6).trans hv21686))
            obtain ⟨v21688, hv21688⟩ : ∃ v, gI g0 176 2 = v := ⟨_, rfl⟩
            have tv21688 := congrArg Int32.toInt hv21688
            have x21689 := rX.e hI0 (b := 2) (hv21688)
            have x21690 := rX.e hI0 (b := 4) (hv21173)
            have x21691 := rX.e hI21151 (b := 2) (hv21538)
            have x21692 := rX.e hI21151 (b := 4) (hv21176)
            have x21693 := rX.e hI21530 (b := 2) (hv21542)
            have x21694 := rX.e hI21530 (b := 4) (hv21544)
            exact ⟨_, rfl, hI21678, hF21682, rfl, ⟨⟨(TKX.c o21535 ((hF21679.2.1 175 ma_X4_aimAtEnd_177_175)) ((hF21679.1 174 1 mf_X4_aimAtEnd_177_174_1)) ((hF21679.1 176 3 mf_X4_aimAtEnd_177_176_3)) ((hF21679.1 176 4 mf_X4_aimAtEnd_177_176_4)) ((hF21679.1 176 5 mf_X4_aimAtEnd_177_176_5))), (PRG0.tr q21167 (PRG0.tr o21536 (PRG0.eq (rX.c (b := 4) ((hF21679.1 176 4 mf_X4_aimAtEnd_177_176_4))) (rX.c (b := 2) ((hF21679.1 176 2 mf_X4_aimAtEnd_177_176_2)))))).le (by omega), LPI.end_ q21166 (OPD.part o21537 (by omega)) (rX.c (b := 2) ((hF21679.1 176 2 mf_X4_aimAtEnd_177_176_2))) (rX.c (b := 4) ((hF21679.1 176 4 mf_X4_aimAtEnd_177_176_4))) (rX.c (b := 6) ((hF21679.1 176 6 mf_X4_aimAtEnd_177_176_6))), (fun hz => absurd hz (by omega))⟩, (LPG.opC q21169 (GPX.k gx21541 (by have r1 := rul (r := a1.toInt) (by omega); omega) (by have r1 := rul (r := a1.toInt) (by omega); omega) (by have r1 := rul (r := a1.toInt) (by omega); omega) (by have r1 := rul (r := a1.toInt) (by omega); omega)) ⟨by omega, by omega⟩ (fun z => (o21536.2.2 z).1) (by omega) (TKX.someC o21535 (((hF21531.2.1 175 (by decide)).trans (hF21152.2.1 175 (by decide)))) (((hF21531.1 174 1 (by decide)).trans (hF21152.1 174 1 (by decide))))).choose_spec (fun _ hr0 => False.elim (by omega)) (by omega) (fun _ hl => AIMP.b (AIMP.fr hr21681 SCX.rf SCX.rf) (by omega) hl) (rX.c (b := 2) ((hF21679.1 176 2 mf_X4_aimAtEnd_177_176_2))) (rX.c (b := 4) ((hF21679.1 176 4 mf_X4_aimAtEnd_177_176_4))) (rX.c (b := 6) ((hF21679.1 176 6 mf_X4_aimAtEnd_177_176_6))))⟩⟩
          · have c21683_ : v21542.toInt = (-1) := en_i_ne_f c21683
            refine At.enter rfl ?_
            refine r_aload_n e21156 ?_
            refine r_iload_n e21157 ?_
            refine r_callV 96 rfl [.ref 176, .int a1] [] (Nat.le_of_ble_eq_true rfl) rfl (T_X5_joinHere_176 _ hI21678 a1 (by omega) (TKX.c o21535 ((hF21679.2.1 175 ma_X4_aimAtEnd_177_175)) ((hF21679.1 174 1 mf_X4_aimAtEnd_177_174_1)) ((hF21679.1 176 3 mf_X4_aimAtEnd_177_176_3)) ((hF21679.1 176 4 mf_X4_aimAtEnd_177_176_4)) ((hF21679.1 176 5 mf_X4_aimAtEnd_177_176_5)))) ?_
            rintro _ _ ⟨g21695, rfl, hI21696, hF21697, v21698, rfl, hr21699⟩
            refine At.sti ?_
            have hF21700 := Fr.tr hF21682 hF21697 rfl rfl
            have je21701 : v21698.toInt ≠ -1 → v21698.toInt = CDX g21529 - 18 := by have z := hr21699.2.2; rw [CDX.c ((hF21679.2.1 175 ma_X4_aimAtEnd_177_175)) ((hF21679.1 176 3 mf_X4_aimAtEnd_177_176_3)) ((hF21679.1 176 4 mf_X4_aimAtEnd_177_176_4)) ((hF21679.1 176 5 mf_X4_aimAtEnd_177_176_5))] at z; exact z
            have hb21702 : BLN (JN a1.toInt (CDX g21529)) v21698.toInt := by have z := hr21699.2.1; rw [CDX.c ((hF21679.2.1 175 ma_X4_aimAtEnd_177_175)) ((hF21679.1 176 3 mf_X4_aimAtEnd_177_176_3)) ((hF21679.1 176 4 mf_X4_aimAtEnd_177_176_4)) ((hF21679.1 176 5 mf_X4_aimAtEnd_177_176_5))] at z; exact z
            refine At.enter rfl ?_
            refine r_goto ?_
            refine At.enter rfl ?_
            refine r_istore_n _ rfl ?_
            refine r_iload_n (w_e1 _ _ _) ?_
            refine r_iconst (-1) rfl ?_
            refine r_ics 106 rfl (fun c21703 => ?_) (fun c21703 => ?_)
            · have c21703_ : v21698.toInt ≠ (-1) := en_i_ne_t c21703
              have i21704 := BLN.yes hb21702 (by omega)
              refine At.enter rfl ?_
              refine r_aload_n (w_p1 (by decide) (Or.inr rfl) e21156) ?_
              refine r_callV 111 rfl [.ref 176] [] (Nat.le_of_ble_eq_true rfl) rfl (T_X5_step_176 _ hI21696 (TKX.c o21535 (((hF21697.2.1 175 ma_X5_joinHere_176_175).trans (hF21679.2.1 175 ma_X4_aimAtEnd_177_175))) (((hF21697.1 174 1 mf_X5_joinHere_176_174_1).trans (hF21679.1 174 1 mf_X4_aimAtEnd_177_174_1))) (((hF21697.1 176 3 mf_X5_joinHere_176_176_3).trans (hF21679.1 176 3 mf_X4_aimAtEnd_177_176_3))) (((hF21697.1 176 4 mf_X5_joinHere_176_176_4).trans (hF21679.1 176 4 mf_X4_aimAtEnd_177_176_4))) (((hF21697.1 176 5 mf_X5_joinHere_176_176_5).trans (hF21679.1 176 5 mf_X4_aimAtEnd_177_176_5)))).1 (TKX.c o21535 (((hF21697.2.1 175 ma_X5_joinHere_176_175).trans (hF21679.2.1 175 ma_X4_aimAtEnd_177_175))) (((hF21697.1 174 1 mf_X5_joinHere_176_174_1).trans (hF21679.1 174 1 mf_X4_aimAtEnd_177_174_1))) (((hF21697.1 176 3 mf_X5_joinHere_176_176_3).trans (hF21679.1 176 3 mf_X4_aimAtEnd_177_176_3))) (((hF21697.1 176 4 mf_X5_joinHere_176_176_4).trans (hF21679.1 176 4 mf_X4_aimAtEnd_177_176_4))) (((hF21697.1 176 5 mf_X5_joinHere_176_176_5).trans (hF21679.1 176 5 mf_X4_aimAtEnd_177_176_5)))).2.1.le.2.1) ?_
              rintro _ _ ⟨g21705, rfl, hI21706, hF21707, rfl, hr21709⟩
              refine At.stn ?_
              have hF21710 := Fr.tr hF21700 hF21707 rfl rfl
              have tok21711_ := hr21709.2
              rw [TX.c (((hF21697.2.1 175 ma_X5_joinHere_176_175).trans (hF21679.2.1 175 ma_X4_aimAtEnd_177_175))), nX.c (((hF21697.1 174 1 mf_X5_joinHere_176_174_1).trans (hF21679.1 174 1 mf_X4_aimAtEnd_177_174_1))), rX.c (b := 5) (((hF21697.1 176 5 mf_X5_joinHere_176_176_5).trans (hF21679.1 176 5 mf_X4_aimAtEnd_177_176_5)))] at tok21711_
              have tok21711 := TKX.tok o21535 tok21711_
              rw [TX.c (((hF21531.2.1 175 (by decide)).trans (hF21152.2.1 175 (by decide)))), nX.c (((hF21531.1 174 1 (by decide)).trans (hF21152.1 174 1 (by decide))))] at tok21711
              have hT21712 := hr21709.1
              have x21713 := rX.e hI21696 (b := 4) ((((hF21697.1 176 4 mf_X5_joinHere_176_176_4).trans (hF21679.1 176 4 mf_X4_aimAtEnd_177_176_4)).trans hv21544))
              obtain ⟨v21714, hv21714⟩ : ∃ v, gI g21705 176 4 = v := ⟨_, rfl⟩
              have rv21714 := RgF.at hI21706.2.1 (p := 176) (b := 4) rfl
              rw [hv21714] at rv21714
              dsimp only at rv21714
              have tv21714 := congrArg Int32.toInt hv21714
              have x21715 := rX.e hI21706 (b := 4) (hv21714)
              refine At.enter rfl ?_
              refine r_iload_n (w_p1 (by decide) (Or.inr rfl) e21157) ?_
              refine r_ifs 115 rfl (fun c21716 => ?_) (fun c21716 => ?_)
              · have c21716_ : a1.toInt = 0 := en_k_eq_t c21716
                exfalso; omega
              · have c21716_ : a1.toInt ≠ 0 := en_k_eq_f c21716
                refine At.enter rfl ?_
                refine r_iload_n (w_p1 (by decide) (Or.inr rfl) e21157) ?_
                refine r_iconst 1 rfl ?_
                refine r_ics 120 rfl (fun c21717 => ?_) (fun c21717 => ?_)
                · have c21717_ : a1.toInt ≠ 1 := en_i_ne_t c21717
                  refine At.enter rfl ?_
                  refine r_iconst (-1) rfl ?_
                  refine Ar.fall 133 rfl ?_
                  refine At.enter rfl ?_
                  refine r_istore _ rfl ?_
                  refine q_iinc (w_p1 (by decide) (Or.inr rfl) (w_p1 (by decide) (Or.inr rfl) e21161)) (x21149.toInt + 1) rfl (by omega) (fun v21718 hv21718 => ?_)
                  refine r_goto ?_
                  have jj21719 := i21704
                  unfold JN at jj21719
                  have x21720 := rX.e hI21530 (b := 2) (hv21542)
                  have x21721 := rX.e hI21530 (b := 4) (hv21544)
                  have x21722 := rX.e hI21678 (b := 4) (((hF21679.1 176 4 mf_X4_aimAtEnd_177_176_4).trans hv21544))
                  have x21723 := rX.e hI21706 (b := 4) (hv21714)
                  have x21724 := rX.e hI21151 (b := 4) (hv21176)
                  have x21725 := rX.e hI21530 (b := 2) (hv21542)
                  have x21726 := rX.e hI21530 (b := 4) (hv21544)
                  have x21727 := rX.e hI21706 (b := 4) (hv21714)
                  have x21728 := rX.e hI21706 (b := 4) (hv21714)
                  have y21729 := (o21536.2.2 (by omega)).2
                  have y21730 := ((PRG0.step o21535 tok21711_ (rX.c (b := 2) (((hF21707.1 176 2 mf_X5_step_176_176_2).trans ((hF21697.1 176 2 mf_X5_joinHere_176_176_2).trans (hF21679.1 176 2 mf_X4_aimAtEnd_177_176_2))))) (JN.ne i21704)).2.2 (by rw [(rX.c (b := 2) (((hF21707.1 176 2 mf_X5_step_176_176_2).trans ((hF21697.1 176 2 mf_X5_joinHere_176_176_2).trans (hF21679.1 176 2 mf_X4_aimAtEnd_177_176_2)))))]; omega)).2
                  have zv21731 : ((-1) : Int32).toInt = (-1) := rfl
                  exact ih21155 (400 - v21718.toInt) _ _ ⟨v21698, (-1), v21718, by first | rfl | omega, hI21706, hF21710, (w_p1 (by decide) (Or.inr rfl) (w_p1 (by decide) (Or.inr rfl) (w_p1 (by decide) (Or.inr rfl) e21156))), (w_p1 (by decide) (Or.inr rfl) (w_p1 (by decide) (Or.inr rfl) (w_p1 (by decide) (Or.inr rfl) e21157))), (w_p1 (by decide) (Or.inr rfl) (w_p1 (by decide) (Or.inr rfl) (w_p1 (by decide) (Or.inr rfl) e21158))), (w_p1 (by decide) (Or.inr rfl) (w_p1 (by decide) (Or.inr rfl) (w_e1 _ _ _))), (w_p1 (by decide) (Or.inr rfl) (w_e1 _ _ _)), (w_e1 _ _ _), by omega, by decide, by omega, hT21712, (LPI.eq (LPI.next q21166 (OPD.part o21537 (by omega)) tok21711 i21704 ⟨by omega, by omega⟩ (rX.c (b := 2) (((hF21707.1 176 2 mf_X5_step_176_176_2).trans ((hF21697.1 176 2 mf_X5_joinHere_176_176_2).trans (hF21679.1 176 2 mf_X4_aimAtEnd_177_176_2))))) (rX.c (b := 6) (((hF21707.1 176 6 mf_X5_step_176_176_6).trans ((hF21697.1 176 6 mf_X5_joinHere_176_176_6).trans (hF21679.1 176 6 mf_X4_aimAtEnd_177_176_6)))))) rfl rfl rfl), ((PRG0.tr q21167 (PRG0.tr o21536 (PRG0.tr (PRG0.step o21535 tok21711_ (rX.c (b := 2) (((hF21707.1 176 2 mf_X5_step_176_176_2).trans ((hF21697.1 176 2 mf_X5_joinHere_176_176_2).trans (hF21679.1 176 2 mf_X4_aimAtEnd_177_176_2))))) (JN.ne i21704)) (PRG0.eq rfl rfl)))).le (by omega)), by omega, (GPX.joinB (LPG.opC q21169 (GPX.k gx21541 (by have r1 := rul (r := a1.toInt) (by omega); omega) (by have r1 := rul (r := a1.toInt) (by omega); omega) (by have r1 := rul (r := a1.toInt) (by omega); omega) (by have r1 := rul (r := a1.toInt) (by omega); omega)) ⟨by omega, by omega⟩ (fun z => (o21536.2.2 z).1) (by omega) (TKX.someC o21535 (((hF21531.2.1 175 (by decide)).trans (hF21152.2.1 175 (by decide)))) (((hF21531.1 174 1 (by decide)).trans (hF21152.1 174 1 (by decide))))).choose_spec (fun _ hr0 => False.elim (by omega)) (by omega) (fun _ hl => AIMP.b (AIMP.fr hr21681 SCX.rf SCX.rf) (by omega) hl) (rX.c (b := 2) ((hF21679.1 176 2 mf_X4_aimAtEnd_177_176_2))) (rX.c (b := 4) ((hF21679.1 176 4 mf_X4_aimAtEnd_177_176_4))) (rX.c (b := 6) ((hF21679.1 176 6 mf_X4_aimAtEnd_177_176_6)))) ⟨by omega, by omega⟩ (by rw [(rX.c (b := 4) ((hF21679.1 176 4 mf_X4_aimAtEnd_177_176_4)))]; exact tok21711) (by omega) (by omega) (by omega) (rX.c (b := 2) (((hF21707.1 176 2 mf_X5_step_176_176_2).trans (hF21697.1 176 2 mf_X5_joinHere_176_176_2)))) (rX.c (b := 6) (((hF21707.1 176 6 mf_X5_step_176_176_6).trans (hF21697.1 176 6 mf_X5_joinHere_176_176_6)))) (((hF21707.2.1 178 ma_X5_step_176_178).trans (hF21697.2.1 178 ma_X5_joinHere_176_178))) (((hF21707.2.1 179 ma_X5_step_176_179).trans (hF21697.2.1 179 ma_X5_joinHere_176_179))) (((hF21707.1 177 0 mf_X5_step_176_177_0).trans (hF21697.1 177 0 mf_X5_joinHere_176_177_0))) (by omega))⟩ ⟨by omega, by omega⟩
                · have c21717_ : a1.toInt = 1 := en_i_ne_f c21717
                  exfalso; omega
            · have c21703_ : v21698.toInt = (-1) := en_i_ne_f c21703
              have i21732 := BLN.no hb21702 (by omega)
              refine At.enter rfl ?_
              refine r_vret ?_
              have x21733 := rX.e hI21696 (b := 2) ((((hF21697.1 176 2 mf_X5_joinHere_176_176_2).trans (hF21679.1 176 2 mf_X4_aimAtEnd_177_176_2)).trans hv21542))
              have x21734 := rX.e hI21696 (b := 4) ((((hF21697.1 176 4 mf_X5_joinHere_176_176_4).trans (hF21679.1 176 4 mf_X4_aimAtEnd_177_176_4)).trans hv21544))
              obtain ⟨v21735, hv21735⟩ : ∃ v, gI g21529 176 6 = v := ⟨_, rfl⟩
              have tv21735 := congrArg Int32.toInt hv21735
              have x21736 := rX.e hI21696 (b := 6) ((((hF21697.1 176 6 mf_X5_joinHere_176_176_6).trans (hF21679.1 176 6 mf_X4_aimAtEnd_177_176_6)).trans hv21735))
              obtain ⟨v21737, hv21737⟩ : ∃ v, gI g0 176 2 = v := ⟨_, rfl⟩
              have tv21737 := congrArg Int32.toInt hv21737
              have x21738 := rX.e hI0 (b := 2) (hv21737)
              have x21739 := rX.e hI0 (b := 4) (hv21173)
              have x21740 := rX.e hI21151 (b := 2) (hv21538)
              have x21741 := rX.e hI21151 (b := 4) (hv21176)
              have x21742 := rX.e hI21530 (b := 2) (hv21542)
              have x21743 := rX.e hI21530 (b := 4) (hv21544)
              exact ⟨_, rfl, hI21696, hF21700, rfl, ⟨⟨(TKX.c o21535 (((hF21697.2.1 175 ma_X5_joinHere_176_175).trans (hF21679.2.1 175 ma_X4_aimAtEnd_177_175))) (((hF21697.1 174 1 mf_X5_joinHere_176_174_1).trans (hF21679.1 174 1 mf_X4_aimAtEnd_177_174_1))) (((hF21697.1 176 3 mf_X5_joinHere_176_176_3).trans (hF21679.1 176 3 mf_X4_aimAtEnd_177_176_3))) (((hF21697.1 176 4 mf_X5_joinHere_176_176_4).trans (hF21679.1 176 4 mf_X4_aimAtEnd_177_176_4))) (((hF21697.1 176 5 mf_X5_joinHere_176_176_5).trans (hF21679.1 176 5 mf_X4_aimAtEnd_177_176_5)))), (PRG0.tr q21167 (PRG0.tr o21536 (PRG0.eq (rX.c (b := 4) (((hF21697.1 176 4 mf_X5_joinHere_176_176_4).trans (hF21679.1 176 4 mf_X4_aimAtEnd_177_176_4)))) (rX.c (b := 2) (((hF21697.1 176 2 mf_X5_joinHere_176_176_2).trans (hF21679.1 176 2 mf_X4_aimAtEnd_177_176_2))))))).le (by omega), LPI.end_ q21166 (OPD.part o21537 (by omega)) (rX.c (b := 2) (((hF21697.1 176 2 mf_X5_joinHere_176_176_2).trans (hF21679.1 176 2 mf_X4_aimAtEnd_177_176_2)))) (rX.c (b := 4) (((hF21697.1 176 4 mf_X5_joinHere_176_176_4).trans (hF21679.1 176 4 mf_X4_aimAtEnd_177_176_4)))) (rX.c (b := 6) (((hF21697.1 176 6 mf_X5_joinHere_176_176_6).trans (hF21679.1 176 6 mf_X4_aimAtEnd_177_176_6)))), (fun hz => (by rw [CDX.c (((hF21697.2.1 175 ma_X5_joinHere_176_175).trans (hF21679.2.1 175 ma_X4_aimAtEnd_177_175))) (((hF21697.1 176 3 mf_X5_joinHere_176_176_3).trans (hF21679.1 176 3 mf_X4_aimAtEnd_177_176_3))) (((hF21697.1 176 4 mf_X5_joinHere_176_176_4).trans (hF21679.1 176 4 mf_X4_aimAtEnd_177_176_4))) (((hF21697.1 176 5 mf_X5_joinHere_176_176_5).trans (hF21679.1 176 5 mf_X4_aimAtEnd_177_176_5)))]; exact NJ.mk1 (by omega) i21732))⟩, (GPX.eq (LPG.opC q21169 (GPX.k gx21541 (by have r1 := rul (r := a1.toInt) (by omega); omega) (by have r1 := rul (r := a1.toInt) (by omega); omega) (by have r1 := rul (r := a1.toInt) (by omega); omega) (by have r1 := rul (r := a1.toInt) (by omega); omega)) ⟨by omega, by omega⟩ (fun z => (o21536.2.2 z).1) (by omega) (TKX.someC o21535 (((hF21531.2.1 175 (by decide)).trans (hF21152.2.1 175 (by decide)))) (((hF21531.1 174 1 (by decide)).trans (hF21152.1 174 1 (by decide))))).choose_spec (fun _ hr0 => False.elim (by omega)) (by omega) (fun _ hl => AIMP.b (AIMP.fr hr21681 SCX.rf SCX.rf) (by omega) hl) (rX.c (b := 2) ((hF21679.1 176 2 mf_X4_aimAtEnd_177_176_2))) (rX.c (b := 4) ((hF21679.1 176 4 mf_X4_aimAtEnd_177_176_4))) (rX.c (b := 6) ((hF21679.1 176 6 mf_X4_aimAtEnd_177_176_6)))) ((hF21697.2.1 178 ma_X5_joinHere_176_178)) ((hF21697.2.1 179 ma_X5_joinHere_176_179)) ((hF21697.1 177 0 mf_X5_joinHere_176_177_0)) (rX.c (b := 2) ((hF21697.1 176 2 mf_X5_joinHere_176_176_2))) (rX.c (b := 4) ((hF21697.1 176 4 mf_X5_joinHere_176_176_4))) (rX.c (b := 6) ((hF21697.1 176 6 mf_X5_joinHere_176_176_6))))⟩⟩
    · have c21189_ : a1.toInt = 1 := en_i_ne_f c21189
      refine At.enter rfl ?_
      refine r_aload_n e21156 ?_
      refine r_iload_n e21158 ?_
      refine r_callV 26 rfl [.ref 176, .int a2] [] (Nat.le_of_ble_eq_true rfl) rfl (IHP _ (by omega) hI21151 a2 (by omega) (by omega) q21165) ?_
      rintro _ _ ⟨g21744, rfl, hI21745, hF21746, rfl, hr21748⟩
      refine At.stn ?_
      have hF21749 := Fr.tr hF21152 hF21746 rfl rfl
      obtain ⟨v21753, hv21753⟩ : ∃ v, gI g21150 176 2 = v := ⟨_, rfl⟩
      have tv21753 := congrArg Int32.toInt hv21753
      have x21754 := rX.e hI21151 (b := 2) (hv21753)
      have x21755 := rX.e hI21151 (b := 4) (hv21176)
      obtain ⟨o21750, o21751, o21752⟩ := hr21748.1
      have gx21756 := hr21748.2
      rw [TX.ci hI21151 ((hF21152.2.1 175 (by decide))), nX.ci hI21151 ((hF21152.1 174 1 (by decide)))] at gx21756
      rw [TX.ci hI21151 ((hF21152.2.1 175 (by decide))), nX.ci hI21151 ((hF21152.1 174 1 (by decide)))] at o21752
      obtain ⟨v21757, hv21757⟩ : ∃ v, gI g21744 176 2 = v := ⟨_, rfl⟩
      have tv21757 := congrArg Int32.toInt hv21757
      have x21758 := rX.e hI21745 (b := 2) (hv21757)
      obtain ⟨v21759, hv21759⟩ : ∃ v, gI g21744 176 4 = v := ⟨_, rfl⟩
      have rv21759 := RgF.at hI21745.2.1 (p := 176) (b := 4) rfl
      rw [hv21759] at rv21759
      dsimp only at rv21759
      have tv21759 := congrArg Int32.toInt hv21759
      have x21760 := rX.e hI21745 (b := 4) (hv21759)
      refine At.enter rfl ?_
      refine r_goto ?_
      refine At.enter rfl ?_
      refine r_iload e21160 ?_
      refine r_iconst (-1) rfl ?_
      refine r_ics 56 rfl (fun c21761 => ?_) (fun c21761 => ?_)
      · have c21761_ : x21148.toInt = (-1) := en_i_eq_t c21761
        refine At.enter rfl ?_
        refine r_iload_n e21159 ?_
        refine r_iconst (-1) rfl ?_
        refine r_ics 73 rfl (fun c21762 => ?_) (fun c21762 => ?_)
        · have c21762_ : x21147.toInt = (-1) := en_i_eq_t c21762
          refine At.enter rfl ?_
          refine r_aload_n e21156 ?_
          refine q_getI (Sh.int hI21745.1 kx_176 rfl) v21757 hv21757 ?_
          refine r_iconst (-1) rfl ?_
          refine r_ics 91 rfl (fun c21763 => ?_) (fun c21763 => ?_)
          · have c21763_ : v21757.toInt ≠ (-1) := en_i_ne_t c21763
            refine At.enter rfl ?_
            refine r_iconst (-1) rfl ?_
            refine Ar.fall 100 rfl ?_
            refine At.enter rfl ?_
            refine r_istore_n _ rfl ?_
            refine r_iload_n (w_e1 _ _ _) ?_
            refine r_iconst (-1) rfl ?_
            refine r_icf 106 rfl (by decide) ?_
            refine At.enter rfl ?_
            refine r_vret ?_
            have x21764 := rX.e hI21745 (b := 2) (hv21757)
            have x21765 := rX.e hI21745 (b := 4) (hv21759)
            obtain ⟨v21766, hv21766⟩ : ∃ v, gI g21744 176 6 = v := ⟨_, rfl⟩
            have tv21766 := congrArg Int32.toInt hv21766
            have x21767 := rX.e hI21745 (b := 6) (hv21766)
            obtain ⟨v21768, hv21768⟩ : ∃ v, gI g0 176 2 = v := ⟨_, rfl⟩
            have tv21768 := congrArg Int32.toInt hv21768
            have x21769 := rX.e hI0 (b := 2) (hv21768)
            have x21770 := rX.e hI0 (b := 4) (hv21173)
            have x21771 := rX.e hI21151 (b := 2) (hv21753)
            have x21772 := rX.e hI21151 (b := 4) (hv21176)
            have x21773 := rX.e hI21745 (b := 2) (hv21757)
            have x21774 := rX.e hI21745 (b := 4) (hv21759)
            exact ⟨_, rfl, hI21745, hF21749, rfl, ⟨⟨o21750, (PRG0.tr q21167 (PRG0.tr o21751 (PRG0.eq rfl rfl))).le (by omega), LPI.end_ q21166 (OPD.plain o21752 (by omega)) rfl rfl rfl, (fun hz => absurd hz (by omega))⟩, (LPG.opA q21169 (GPX.k gx21756 (by have r1 := rul (r := a1.toInt) (by omega); omega) (by have r1 := rul (r := a1.toInt) (by omega); omega) (by have r1 := rul (r := a1.toInt) (by omega); omega) (by have r1 := rul (r := a1.toInt) (by omega); omega)) ⟨by omega, by omega⟩ (fun z => (o21751.2.2 z).1) (by omega) (by omega))⟩⟩
          · have c21763_ : v21757.toInt = (-1) := en_i_ne_f c21763
            refine At.enter rfl ?_
            refine r_aload_n e21156 ?_
            refine r_iload_n e21157 ?_
            refine r_callV 96 rfl [.ref 176, .int a1] [] (Nat.le_of_ble_eq_true rfl) rfl (T_X5_joinHere_176 _ hI21745 a1 (by omega) o21750) ?_
            rintro _ _ ⟨g21775, rfl, hI21776, hF21777, v21778, rfl, hr21779⟩
            refine At.sti ?_
            have hF21780 := Fr.tr hF21749 hF21777 rfl rfl
            have je21781 : v21778.toInt ≠ -1 → v21778.toInt = CDX g21744 - 18 := hr21779.2.2
            have hb21782 : BLN (JN a1.toInt (CDX g21744)) v21778.toInt := hr21779.2.1
            refine At.enter rfl ?_
            refine r_goto ?_
            refine At.enter rfl ?_
            refine r_istore_n _ rfl ?_
            refine r_iload_n (w_e1 _ _ _) ?_
            refine r_iconst (-1) rfl ?_
            refine r_ics 106 rfl (fun c21783 => ?_) (fun c21783 => ?_)
            · have c21783_ : v21778.toInt ≠ (-1) := en_i_ne_t c21783
              have i21784 := BLN.yes hb21782 (by omega)
              refine At.enter rfl ?_
              refine r_aload_n (w_p1 (by decide) (Or.inr rfl) e21156) ?_
              refine r_callV 111 rfl [.ref 176] [] (Nat.le_of_ble_eq_true rfl) rfl (T_X5_step_176 _ hI21776 (TKX.c o21750 ((hF21777.2.1 175 ma_X5_joinHere_176_175)) ((hF21777.1 174 1 mf_X5_joinHere_176_174_1)) ((hF21777.1 176 3 mf_X5_joinHere_176_176_3)) ((hF21777.1 176 4 mf_X5_joinHere_176_176_4)) ((hF21777.1 176 5 mf_X5_joinHere_176_176_5))).1 (TKX.c o21750 ((hF21777.2.1 175 ma_X5_joinHere_176_175)) ((hF21777.1 174 1 mf_X5_joinHere_176_174_1)) ((hF21777.1 176 3 mf_X5_joinHere_176_176_3)) ((hF21777.1 176 4 mf_X5_joinHere_176_176_4)) ((hF21777.1 176 5 mf_X5_joinHere_176_176_5))).2.1.le.2.1) ?_
              rintro _ _ ⟨g21785, rfl, hI21786, hF21787, rfl, hr21789⟩
              refine At.stn ?_
              have hF21790 := Fr.tr hF21780 hF21787 rfl rfl
              have tok21791_ := hr21789.2
              rw [TX.c ((hF21777.2.1 175 ma_X5_joinHere_176_175)), nX.c ((hF21777.1 174 1 mf_X5_joinHere_176_174_1)), rX.c (b := 5) ((hF21777.1 176 5 mf_X5_joinHere_176_176_5))] at tok21791_
              have tok21791 := TKX.tok o21750 tok21791_
              rw [TX.c (((hF21746.2.1 175 (by decide)).trans (hF21152.2.1 175 (by decide)))), nX.c (((hF21746.1 174 1 (by decide)).trans (hF21152.1 174 1 (by decide))))] at tok21791
              have hT21792 := hr21789.1
              have x21793 := rX.e hI21776 (b := 4) (((hF21777.1 176 4 mf_X5_joinHere_176_176_4).trans hv21759))
              obtain ⟨v21794, hv21794⟩ : ∃ v, gI g21785 176 4 = v := ⟨_, rfl⟩
              have rv21794 := RgF.at hI21786.2.1 (p := 176) (b := 4) rfl
              rw [hv21794] at rv21794
              dsimp only at rv21794
              have tv21794 := congrArg Int32.toInt hv21794
              have x21795 := rX.e hI21786 (b := 4) (hv21794)
              refine At.enter rfl ?_
              refine r_iload_n (w_p1 (by decide) (Or.inr rfl) e21157) ?_
              refine r_ifs 115 rfl (fun c21796 => ?_) (fun c21796 => ?_)
              · have c21796_ : a1.toInt = 0 := en_k_eq_t c21796
                exfalso; omega
              · have c21796_ : a1.toInt ≠ 0 := en_k_eq_f c21796
                refine At.enter rfl ?_
                refine r_iload_n (w_p1 (by decide) (Or.inr rfl) e21157) ?_
                refine r_iconst 1 rfl ?_
                refine r_ics 120 rfl (fun c21797 => ?_) (fun c21797 => ?_)
                · have c21797_ : a1.toInt ≠ 1 := en_i_ne_t c21797
                  exfalso; omega
                · have c21797_ : a1.toInt = 1 := en_i_ne_f c21797
                  refine At.enter rfl ?_
                  refine r_aload_n (w_p1 (by decide) (Or.inr rfl) e21156) ?_
                  refine q_getR (Sh.ref hI21786.1 kx_176 rfl) ?_
                  refine r_iload_n (w_e1 _ _ _) ?_
                  refine r_iconst 0 rfl ?_
                  refine r_callV 129 rfl [.ref 177, .int v21778, .int 0] [] (Nat.le_of_ble_eq_true rfl) rfl (T_X4_add_177 _ hI21786 v21778 0) ?_
                  rintro _ _ ⟨g21798, rfl, hI21799, hF21800, v21801, rfl, hr21802⟩
                  refine At.sti ?_
                  have hF21803 := Fr.tr hF21790 hF21800 rfl rfl
                  have zv21804 : (0 : Int32).toInt = 0 := rfl
                  refine At.enter rfl ?_
                  refine r_goto ?_
                  refine At.enter rfl ?_
                  refine r_istore _ rfl ?_
                  refine q_iinc (w_p1 (by decide) (Or.inr rfl) (w_p1 (by decide) (Or.inr rfl) e21161)) (x21149.toInt + 1) rfl (by omega) (fun v21805 hv21805 => ?_)
                  refine r_goto ?_
                  have jj21806 := i21784
                  unfold JN at jj21806
                  have x21807 := rX.e hI21745 (b := 2) (hv21757)
                  have x21808 := rX.e hI21745 (b := 4) (hv21759)
                  have x21809 := rX.e hI21745 (b := 4) (hv21759)
                  have x21810 := rX.e hI21786 (b := 4) (hv21794)
                  have x21811 := rX.e hI21151 (b := 4) (hv21176)
                  have x21812 := rX.e hI21745 (b := 2) (hv21757)
                  have x21813 := rX.e hI21745 (b := 4) (hv21759)
                  have x21814 := rX.e hI21786 (b := 4) (hv21794)
                  have x21815 := rX.e hI21799 (b := 4) (((hF21800.1 176 4 mf_X4_add_177_176_4).trans hv21794))
                  have y21816 := (o21751.2.2 (by omega)).2
                  have y21817 := ((PRG0.step o21750 tok21791_ (rX.c (b := 2) (((hF21787.1 176 2 mf_X5_step_176_176_2).trans (hF21777.1 176 2 mf_X5_joinHere_176_176_2)))) (JN.ne i21784)).2.2 (by rw [(rX.c (b := 2) (((hF21787.1 176 2 mf_X5_step_176_176_2).trans (hF21777.1 176 2 mf_X5_joinHere_176_176_2))))]; omega)).2
                  exact ih21155 (400 - v21805.toInt) _ _ ⟨v21778, v21801, v21805, by first | rfl | omega, hI21799, hF21803, (w_p1 (by decide) (Or.inr rfl) (w_p1 (by decide) (Or.inr rfl) (w_p1 (by decide) (Or.inr rfl) e21156))), (w_p1 (by decide) (Or.inr rfl) (w_p1 (by decide) (Or.inr rfl) (w_p1 (by decide) (Or.inr rfl) e21157))), (w_p1 (by decide) (Or.inr rfl) (w_p1 (by decide) (Or.inr rfl) (w_p1 (by decide) (Or.inr rfl) e21158))), (w_p1 (by decide) (Or.inr rfl) (w_p1 (by decide) (Or.inr rfl) (w_e1 _ _ _))), (w_p1 (by decide) (Or.inr rfl) (w_e1 _ _ _)), (w_e1 _ _ _), by omega, by omega, by omega, (TKX.c hT21792 ((hF21800.2.1 175 ma_X4_add_177_175)) ((hF21800.1 174 1 mf_X4_add_177_174_1)) ((hF21800.1 176 3 mf_X4_add_177_176_3)) ((hF21800.1 176 4 mf_X4_add_177_176_4)) ((hF21800.1 176 5 mf_X4_add_177_176_5))), (LPI.eq (LPI.next q21166 (OPD.plain o21752 (by omega)) tok21791 i21784 ⟨by omega, by omega⟩ (rX.c (b := 2) (((hF21787.1 176 2 mf_X5_step_176_176_2).trans (hF21777.1 176 2 mf_X5_joinHere_176_176_2)))) (rX.c (b := 6) (((hF21787.1 176 6 mf_X5_step_176_176_6).trans (hF21777.1 176 6 mf_X5_joinHere_176_176_6))))) (rX.c (b := 2) ((hF21800.1 176 2 mf_X4_add_177_176_2))) (rX.c (b := 4) ((hF21800.1 176 4 mf_X4_add_177_176_4))) (rX.c (b := 6) ((hF21800.1 176 6 mf_X4_add_177_176_6)))), ((PRG0.tr q21167 (PRG0.tr o21751 (PRG0.tr (PRG0.step o21750 tok21791_ (rX.c (b := 2) (((hF21787.1 176 2 mf_X5_step_176_176_2).trans (hF21777.1 176 2 mf_X5_joinHere_176_176_2)))) (JN.ne i21784)) (PRG0.eq (rX.c (b := 4) ((hF21800.1 176 4 mf_X4_add_177_176_4))) (rX.c (b := 2) ((hF21800.1 176 2 mf_X4_add_177_176_2))))))).le (by omega)), by omega, (GPX.joinC (LPG.opA q21169 (GPX.k gx21756 (by have r1 := rul (r := a1.toInt) (by omega); omega) (by have r1 := rul (r := a1.toInt) (by omega); omega) (by have r1 := rul (r := a1.toInt) (by omega); omega) (by have r1 := rul (r := a1.toInt) (by omega); omega)) ⟨by omega, by omega⟩ (fun z => (o21751.2.2 z).1) (by omega) (by omega)) ⟨by omega, by omega⟩ tok21791 (by omega) (by omega) (by omega) (rX.c (b := 2) (((hF21787.1 176 2 mf_X5_step_176_176_2).trans (hF21777.1 176 2 mf_X5_joinHere_176_176_2)))) (rX.c (b := 6) (((hF21787.1 176 6 mf_X5_step_176_176_6).trans (hF21777.1 176 6 mf_X5_joinHere_176_176_6)))) (((hF21787.2.1 178 ma_X5_step_176_178).trans (hF21777.2.1 178 ma_X5_joinHere_176_178))) (((hF21787.2.1 179 ma_X5_step_176_179).trans (hF21777.2.1 179 ma_X5_joinHere_176_179))) (((hF21787.1 177 0 mf_X5_step_176_177_0).trans (hF21777.1 177 0 mf_X5_joinHere_176_177_0))) (fun _ hl => ADP.j (ADP.fr hr21802.2 SCX.rf SCX.rf) (by omega)) (rX.c (b := 2) ((hF21800.1 176 2 mf_X4_add_177_176_2))) (rX.c (b := 4) ((hF21800.1 176 4 mf_X4_add_177_176_4))) (rX.c (b := 6) ((hF21800.1 176 6 mf_X4_add_177_176_6))))⟩ ⟨by omega, by omega⟩
            · have c21783_ : v21778.toInt = (-1) := en_i_ne_f c21783
              have i21818 := BLN.no hb21782 (by omega)
              refine At.enter rfl ?_
              refine r_vret ?_
              have x21819 := rX.e hI21776 (b := 2) (((hF21777.1 176 2 mf_X5_joinHere_176_176_2).trans hv21757))
              have x21820 := rX.e hI21776 (b := 4) (((hF21777.1 176 4 mf_X5_joinHere_176_176_4).trans hv21759))
              obtain ⟨v21821, hv21821⟩ : ∃ v, gI g21744 176 6 = v := ⟨_, rfl⟩
              have tv21821 := congrArg Int32.toInt hv21821
              have x21822 := rX.e hI21776 (b := 6) (((hF21777.1 176 6 mf_X5_joinHere_176_176_6).trans hv21821))
              obtain ⟨v21823, hv21823⟩ : ∃ v, gI g0 176 2 = v := ⟨_, rfl⟩
              have tv21823 := congrArg Int32.toInt hv21823
              have x21824 := rX.e hI0 (b := 2) (hv21823)
              have x21825 := rX.e hI0 (b := 4) (hv21173)
              have x21826 := rX.e hI21151 (b := 2) (hv21753)
              have x21827 := rX.e hI21151 (b := 4) (hv21176)
              have x21828 := rX.e hI21745 (b := 2) (hv21757)
              have x21829 := rX.e hI21745 (b := 4) (hv21759)
              exact ⟨_, rfl, hI21776, hF21780, rfl, ⟨⟨(TKX.c o21750 ((hF21777.2.1 175 ma_X5_joinHere_176_175)) ((hF21777.1 174 1 mf_X5_joinHere_176_174_1)) ((hF21777.1 176 3 mf_X5_joinHere_176_176_3)) ((hF21777.1 176 4 mf_X5_joinHere_176_176_4)) ((hF21777.1 176 5 mf_X5_joinHere_176_176_5))), (PRG0.tr q21167 (PRG0.tr o21751 (PRG0.eq (rX.c (b := 4) ((hF21777.1 176 4 mf_X5_joinHere_176_176_4))) (rX.c (b := 2) ((hF21777.1 176 2 mf_X5_joinHere_176_176_2)))))).le (by omega), LPI.end_ q21166 (OPD.plain o21752 (by omega)) (rX.c (b := 2) ((hF21777.1 176 2 mf_X5_joinHere_176_176_2))) (rX.c (b := 4) ((hF21777.1 176 4 mf_X5_joinHere_176_176_4))) (rX.c (b := 6) ((hF21777.1 176 6 mf_X5_joinHere_176_176_6))), (fun hz => (by rw [CDX.c ((hF21777.2.1 175 ma_X5_joinHere_176_175)) ((hF21777.1 176 3 mf_X5_joinHere_176_176_3)) ((hF21777.1 176 4 mf_X5_joinHere_176_176_4)) ((hF21777.1 176 5 mf_X5_joinHere_176_176_5))]; exact NJ.mk1 (by omega) i21818))⟩, (GPX.eq (LPG.opA q21169 (GPX.k gx21756 (by have r1 := rul (r := a1.toInt) (by omega); omega) (by have r1 := rul (r := a1.toInt) (by omega); omega) (by have r1 := rul (r := a1.toInt) (by omega); omega) (by have r1 := rul (r := a1.toInt) (by omega); omega)) ⟨by omega, by omega⟩ (fun z => (o21751.2.2 z).1) (by omega) (by omega)) ((hF21777.2.1 178 ma_X5_joinHere_176_178)) ((hF21777.2.1 179 ma_X5_joinHere_176_179)) ((hF21777.1 177 0 mf_X5_joinHere_176_177_0)) (rX.c (b := 2) ((hF21777.1 176 2 mf_X5_joinHere_176_176_2))) (rX.c (b := 4) ((hF21777.1 176 4 mf_X5_joinHere_176_176_4))) (rX.c (b := 6) ((hF21777.1 176 6 mf_X5_joinHere_176_176_6))))⟩⟩
        · have c21762_ : x21147.toInt ≠ (-1) := en_i_eq_f c21762
          refine At.enter rfl ?_
          refine r_aload_n e21156 ?_
          refine q_getR (Sh.ref hI21745.1 kx_176 rfl) ?_
          refine r_iload_n e21159 ?_
          refine r_iconst 0 rfl ?_
          refine r_callV 82 rfl [.ref 177, .int x21147, .int 0] [] (Nat.le_of_ble_eq_true rfl) rfl (T_X4_add_177 _ hI21745 x21147 0) ?_
          rintro _ _ ⟨g21830, rfl, hI21831, hF21832, v21833, rfl, hr21834⟩
          refine At.sti ?_
          have hF21835 := Fr.tr hF21749 hF21832 rfl rfl
          have zv21836 : (0 : Int32).toInt = 0 := rfl
          refine At.enter rfl ?_
          refine r_pop rfl ?_
          refine Ar.fall 83 rfl ?_
          refine At.enter rfl ?_
          refine r_aload_n e21156 ?_
          refine q_getI (Sh.int hI21831.1 kx_176 rfl) v21757 ((hF21832.1 176 2 mf_X4_add_177_176_2).trans hv21757) ?_
          refine r_iconst (-1) rfl ?_
          refine r_ics 91 rfl (fun c21837 => ?_) (fun c21837 => ?_)
          · have c21837_ : v21757.toInt ≠ (-1) := en_i_ne_t c21837
            refine At.enter rfl ?_
            refine r_iconst (-1) rfl ?_
            refine Ar.fall 100 rfl ?_
            refine At.enter rfl ?_
            refine r_istore_n _ rfl ?_
            refine r_iload_n (w_e1 _ _ _) ?_
            refine r_iconst (-1) rfl ?_
            refine r_icf 106 rfl (by decide) ?_
            refine At.enter rfl ?_
            refine r_vret ?_
            have x21838 := rX.e hI21831 (b := 2) (((hF21832.1 176 2 mf_X4_add_177_176_2).trans hv21757))
            have x21839 := rX.e hI21831 (b := 4) (((hF21832.1 176 4 mf_X4_add_177_176_4).trans hv21759))
            obtain ⟨v21840, hv21840⟩ : ∃ v, gI g21744 176 6 = v := ⟨_, rfl⟩
            have tv21840 := congrArg Int32.toInt hv21840
            have x21841 := rX.e hI21831 (b := 6) (((hF21832.1 176 6 mf_X4_add_177_176_6).trans hv21840))
            obtain ⟨v21842, hv21842⟩ : ∃ v, gI g0 176 2 = v := ⟨_, rfl⟩
            have tv21842 := congrArg Int32.toInt hv21842
            have x21843 := rX.e hI0 (b := 2) (hv21842)
            have x21844 := rX.e hI0 (b := 4) (hv21173)
            have x21845 := rX.e hI21151 (b := 2) (hv21753)
            have x21846 := rX.e hI21151 (b := 4) (hv21176)
            have x21847 := rX.e hI21745 (b := 2) (hv21757)
            have x21848 := rX.e hI21745 (b := 4) (hv21759)
            exact ⟨_, rfl, hI21831, hF21835, rfl, ⟨⟨(TKX.c o21750 ((hF21832.2.1 175 ma_X4_add_177_175)) ((hF21832.1 174 1 mf_X4_add_177_174_1)) ((hF21832.1 176 3 mf_X4_add_177_176_3)) ((hF21832.1 176 4 mf_X4_add_177_176_4)) ((hF21832.1 176 5 mf_X4_add_177_176_5))), (PRG0.tr q21167 (PRG0.tr o21751 (PRG0.eq (rX.c (b := 4) ((hF21832.1 176 4 mf_X4_add_177_176_4))) (rX.c (b := 2) ((hF21832.1 176 2 mf_X4_add_177_176_2)))))).le (by omega), LPI.end_ q21166 (OPD.plain o21752 (by omega)) (rX.c (b := 2) ((hF21832.1 176 2 mf_X4_add_177_176_2))) (rX.c (b := 4) ((hF21832.1 176 4 mf_X4_add_177_176_4))) (rX.c (b := 6) ((hF21832.1 176 6 mf_X4_add_177_176_6))), (fun hz => absurd hz (by omega))⟩, (LPG.opB q21169 (GPX.k gx21756 (by have r1 := rul (r := a1.toInt) (by omega); omega) (by have r1 := rul (r := a1.toInt) (by omega); omega) (by have r1 := rul (r := a1.toInt) (by omega); omega) (by have r1 := rul (r := a1.toInt) (by omega); omega)) ⟨by omega, by omega⟩ (fun z => (o21751.2.2 z).1) (by omega) (by omega) (TKX.someC o21750 (((hF21746.2.1 175 (by decide)).trans (hF21152.2.1 175 (by decide)))) (((hF21746.1 174 1 (by decide)).trans (hF21152.1 174 1 (by decide))))).choose_spec (by omega) (fun _ hr2 => False.elim (by omega)) (fun _ hl => ADP.b (ADP.fr hr21834.2 SCX.rf SCX.rf) hl) (rX.c (b := 2) ((hF21832.1 176 2 mf_X4_add_177_176_2))) (rX.c (b := 4) ((hF21832.1 176 4 mf_X4_add_177_176_4))) (rX.c (b := 6) ((hF21832.1 176 6 mf_X4_add_177_176_6))))⟩⟩
          · have c21837_ : v21757.toInt = (-1) := en_i_ne_f c21837
            refine At.enter rfl ?_
            refine r_aload_n e21156 ?_
            refine r_iload_n e21157 ?_
            refine r_callV 96 rfl [.ref 176, .int a1] [] (Nat.le_of_ble_eq_true rfl) rfl (T_X5_joinHere_176 _ hI21831 a1 (by omega) (TKX.c o21750 ((hF21832.2.1 175 ma_X4_add_177_175)) ((hF21832.1 174 1 mf_X4_add_177_174_1)) ((hF21832.1 176 3 mf_X4_add_177_176_3)) ((hF21832.1 176 4 mf_X4_add_177_176_4)) ((hF21832.1 176 5 mf_X4_add_177_176_5)))) ?_
            rintro _ _ ⟨g21849, rfl, hI21850, hF21851, v21852, rfl, hr21853⟩
            refine At.sti ?_
            have hF21854 := Fr.tr hF21835 hF21851 rfl rfl
            have je21855 : v21852.toInt ≠ -1 → v21852.toInt = CDX g21744 - 18 := by have z := hr21853.2.2; rw [CDX.c ((hF21832.2.1 175 ma_X4_add_177_175)) ((hF21832.1 176 3 mf_X4_add_177_176_3)) ((hF21832.1 176 4 mf_X4_add_177_176_4)) ((hF21832.1 176 5 mf_X4_add_177_176_5))] at z; exact z
            have hb21856 : BLN (JN a1.toInt (CDX g21744)) v21852.toInt := by have z := hr21853.2.1; rw [CDX.c ((hF21832.2.1 175 ma_X4_add_177_175)) ((hF21832.1 176 3 mf_X4_add_177_176_3)) ((hF21832.1 176 4 mf_X4_add_177_176_4)) ((hF21832.1 176 5 mf_X4_add_177_176_5))] at z; exact z
            refine At.enter rfl ?_
            refine r_goto ?_
            refine At.enter rfl ?_
            refine r_istore_n _ rfl ?_
            refine r_iload_n (w_e1 _ _ _) ?_
            refine r_iconst (-1) rfl ?_
            refine r_ics 106 rfl (fun c21857 => ?_) (fun c21857 => ?_)
            · have c21857_ : v21852.toInt ≠ (-1) := en_i_ne_t c21857
              have i21858 := BLN.yes hb21856 (by omega)
              refine At.enter rfl ?_
              refine r_aload_n (w_p1 (by decide) (Or.inr rfl) e21156) ?_
              refine r_callV 111 rfl [.ref 176] [] (Nat.le_of_ble_eq_true rfl) rfl (T_X5_step_176 _ hI21850 (TKX.c o21750 (((hF21851.2.1 175 ma_X5_joinHere_176_175).trans (hF21832.2.1 175 ma_X4_add_177_175))) (((hF21851.1 174 1 mf_X5_joinHere_176_174_1).trans (hF21832.1 174 1 mf_X4_add_177_174_1))) (((hF21851.1 176 3 mf_X5_joinHere_176_176_3).trans (hF21832.1 176 3 mf_X4_add_177_176_3))) (((hF21851.1 176 4 mf_X5_joinHere_176_176_4).trans (hF21832.1 176 4 mf_X4_add_177_176_4))) (((hF21851.1 176 5 mf_X5_joinHere_176_176_5).trans (hF21832.1 176 5 mf_X4_add_177_176_5)))).1 (TKX.c o21750 (((hF21851.2.1 175 ma_X5_joinHere_176_175).trans (hF21832.2.1 175 ma_X4_add_177_175))) (((hF21851.1 174 1 mf_X5_joinHere_176_174_1).trans (hF21832.1 174 1 mf_X4_add_177_174_1))) (((hF21851.1 176 3 mf_X5_joinHere_176_176_3).trans (hF21832.1 176 3 mf_X4_add_177_176_3))) (((hF21851.1 176 4 mf_X5_joinHere_176_176_4).trans (hF21832.1 176 4 mf_X4_add_177_176_4))) (((hF21851.1 176 5 mf_X5_joinHere_176_176_5).trans (hF21832.1 176 5 mf_X4_add_177_176_5)))).2.1.le.2.1) ?_
              rintro _ _ ⟨g21859, rfl, hI21860, hF21861, rfl, hr21863⟩
              refine At.stn ?_
              have hF21864 := Fr.tr hF21854 hF21861 rfl rfl
              have tok21865_ := hr21863.2
              rw [TX.c (((hF21851.2.1 175 ma_X5_joinHere_176_175).trans (hF21832.2.1 175 ma_X4_add_177_175))), nX.c (((hF21851.1 174 1 mf_X5_joinHere_176_174_1).trans (hF21832.1 174 1 mf_X4_add_177_174_1))), rX.c (b := 5) (((hF21851.1 176 5 mf_X5_joinHere_176_176_5).trans (hF21832.1 176 5 mf_X4_add_177_176_5)))] at tok21865_
              have tok21865 := TKX.tok o21750 tok21865_
              rw [TX.c (((hF21746.2.1 175 (by decide)).trans (hF21152.2.1 175 (by decide)))), nX.c (((hF21746.1 174 1 (by decide)).trans (hF21152.1 174 1 (by decide))))] at tok21865
              have hT21866 := hr21863.1
              have x21867 := rX.e hI21850 (b := 4) ((((hF21851.1 176 4 mf_X5_joinHere_176_176_4).trans (hF21832.1 176 4 mf_X4_add_177_176_4)).trans hv21759))
              obtain ⟨v21868, hv21868⟩ : ∃ v, gI g21859 176 4 = v := ⟨_, rfl⟩
              have rv21868 := RgF.at hI21860.2.1 (p := 176) (b := 4) rfl
              rw [hv21868] at rv21868
              dsimp only at rv21868
              have tv21868 := congrArg Int32.toInt hv21868
              have x21869 := rX.e hI21860 (b := 4) (hv21868)
              refine At.enter rfl ?_
              refine r_iload_n (w_p1 (by decide) (Or.inr rfl) e21157) ?_
              refine r_ifs 115 rfl (fun c21870 => ?_) (fun c21870 => ?_)
              · have c21870_ : a1.toInt = 0 := en_k_eq_t c21870
                exfalso; omega
              · have c21870_ : a1.toInt ≠ 0 := en_k_eq_f c21870
                refine At.enter rfl ?_
                refine r_iload_n (w_p1 (by decide) (Or.inr rfl) e21157) ?_
                refine r_iconst 1 rfl ?_
                refine r_ics 120 rfl (fun c21871 => ?_) (fun c21871 => ?_)
                · have c21871_ : a1.toInt ≠ 1 := en_i_ne_t c21871
                  exfalso; omega
                · have c21871_ : a1.toInt = 1 := en_i_ne_f c21871
                  refine At.enter rfl ?_
                  refine r_aload_n (w_p1 (by decide) (Or.inr rfl) e21156) ?_
                  refine q_getR (Sh.ref hI21860.1 kx_176 rfl) ?_
                  refine r_iload_n (w_e1 _ _ _) ?_
                  refine r_iconst 0 rfl ?_
                  refine r_callV 129 rfl [.ref 177, .int v21852, .int 0] [] (Nat.le_of_ble_eq_true rfl) rfl (T_X4_add_177 _ hI21860 v21852 0) ?_
                  rintro _ _ ⟨g21872, rfl, hI21873, hF21874, v21875, rfl, hr21876⟩
                  refine At.sti ?_
                  have hF21877 := Fr.tr hF21864 hF21874 rfl rfl
                  have zv21878 : (0 : Int32).toInt = 0 := rfl
                  refine At.enter rfl ?_
                  refine r_goto ?_
                  refine At.enter rfl ?_
                  refine r_istore _ rfl ?_
                  refine q_iinc (w_p1 (by decide) (Or.inr rfl) (w_p1 (by decide) (Or.inr rfl) e21161)) (x21149.toInt + 1) rfl (by omega) (fun v21879 hv21879 => ?_)
                  refine r_goto ?_
                  have jj21880 := i21858
                  unfold JN at jj21880
                  have x21881 := rX.e hI21745 (b := 2) (hv21757)
                  have x21882 := rX.e hI21745 (b := 4) (hv21759)
                  have x21883 := rX.e hI21831 (b := 4) (((hF21832.1 176 4 mf_X4_add_177_176_4).trans hv21759))
                  have x21884 := rX.e hI21860 (b := 4) (hv21868)
                  have x21885 := rX.e hI21151 (b := 4) (hv21176)
                  have x21886 := rX.e hI21745 (b := 2) (hv21757)
                  have x21887 := rX.e hI21745 (b := 4) (hv21759)
                  have x21888 := rX.e hI21860 (b := 4) (hv21868)
                  have x21889 := rX.e hI21873 (b := 4) (((hF21874.1 176 4 mf_X4_add_177_176_4).trans hv21868))
                  have y21890 := (o21751.2.2 (by omega)).2
                  have y21891 := ((PRG0.step o21750 tok21865_ (rX.c (b := 2) (((hF21861.1 176 2 mf_X5_step_176_176_2).trans ((hF21851.1 176 2 mf_X5_joinHere_176_176_2).trans (hF21832.1 176 2 mf_X4_add_177_176_2))))) (JN.ne i21858)).2.2 (by rw [(rX.c (b := 2) (((hF21861.1 176 2 mf_X5_step_176_176_2).trans ((hF21851.1 176 2 mf_X5_joinHere_176_176_2).trans (hF21832.1 176 2 mf_X4_add_177_176_2)))))]; omega)).2
                  exact ih21155 (400 - v21879.toInt) _ _ ⟨v21852, v21875, v21879, by first | rfl | omega, hI21873, hF21877, (w_p1 (by decide) (Or.inr rfl) (w_p1 (by decide) (Or.inr rfl) (w_p1 (by decide) (Or.inr rfl) e21156))), (w_p1 (by decide) (Or.inr rfl) (w_p1 (by decide) (Or.inr rfl) (w_p1 (by decide) (Or.inr rfl) e21157))), (w_p1 (by decide) (Or.inr rfl) (w_p1 (by decide) (Or.inr rfl) (w_p1 (by decide) (Or.inr rfl) e21158))), (w_p1 (by decide) (Or.inr rfl) (w_p1 (by decide) (Or.inr rfl) (w_e1 _ _ _))), (w_p1 (by decide) (Or.inr rfl) (w_e1 _ _ _)), (w_e1 _ _ _), by omega, by omega, by omega, (TKX.c hT21866 ((hF21874.2.1 175 ma_X4_add_177_175)) ((hF21874.1 174 1 mf_X4_add_177_174_1)) ((hF21874.1 176 3 mf_X4_add_177_176_3)) ((hF21874.1 176 4 mf_X4_add_177_176_4)) ((hF21874.1 176 5 mf_X4_add_177_176_5))), (LPI.eq (LPI.next q21166 (OPD.plain o21752 (by omega)) tok21865 i21858 ⟨by omega, by omega⟩ (rX.c (b := 2) (((hF21861.1 176 2 mf_X5_step_176_176_2).trans ((hF21851.1 176 2 mf_X5_joinHere_176_176_2).trans (hF21832.1 176 2 mf_X4_add_177_176_2))))) (rX.c (b := 6) (((hF21861.1 176 6 mf_X5_step_176_176_6).trans ((hF21851.1 176 6 mf_X5_joinHere_176_176_6).trans (hF21832.1 176 6 mf_X4_add_177_176_6)))))) (rX.c (b := 2) ((hF21874.1 176 2 mf_X4_add_177_176_2))) (rX.c (b := 4) ((hF21874.1 176 4 mf_X4_add_177_176_4))) (rX.c (b := 6) ((hF21874.1 176 6 mf_X4_add_177_176_6)))), ((PRG0.tr q21167 (PRG0.tr o21751 (PRG0.tr (PRG0.step o21750 tok21865_ (rX.c (b := 2) (((hF21861.1 176 2 mf_X5_step_176_176_2).trans ((hF21851.1 176 2 mf_X5_joinHere_176_176_2).trans (hF21832.1 176 2 mf_X4_add_177_176_2))))) (JN.ne i21858)) (PRG0.eq (rX.c (b := 4) ((hF21874.1 176 4 mf_X4_add_177_176_4))) (rX.c (b := 2) ((hF21874.1 176 2 mf_X4_add_177_176_2))))))).le (by omega)), by omega, (GPX.joinC (LPG.opB q21169 (GPX.k gx21756 (by have r1 := rul (r := a1.toInt) (by omega); omega) (by have r1 := rul (r := a1.toInt) (by omega); omega) (by have r1 := rul (r := a1.toInt) (by omega); omega) (by have r1 := rul (r := a1.toInt) (by omega); omega)) ⟨by omega, by omega⟩ (fun z => (o21751.2.2 z).1) (by omega) (by omega) (TKX.someC o21750 (((hF21746.2.1 175 (by decide)).trans (hF21152.2.1 175 (by decide)))) (((hF21746.1 174 1 (by decide)).trans (hF21152.1 174 1 (by decide))))).choose_spec (by omega) (fun _ hr2 => False.elim (by omega)) (fun _ hl => ADP.b (ADP.fr hr21834.2 SCX.rf SCX.rf) hl) (rX.c (b := 2) ((hF21832.1 176 2 mf_X4_add_177_176_2))) (rX.c (b := 4) ((hF21832.1 176 4 mf_X4_add_177_176_4))) (rX.c (b := 6) ((hF21832.1 176 6 mf_X4_add_177_176_6)))) ⟨by omega, by omega⟩ (by rw [(rX.c (b := 4) ((hF21832.1 176 4 mf_X4_add_177_176_4)))]; exact tok21865) (by omega) (by omega) (by omega) (rX.c (b := 2) (((hF21861.1 176 2 mf_X5_step_176_176_2).trans (hF21851.1 176 2 mf_X5_joinHere_176_176_2)))) (rX.c (b := 6) (((hF21861.1 176 6 mf_X5_step_176_176_6).trans (hF21851.1 176 6 mf_X5_joinHere_176_176_6)))) (((hF21861.2.1 178 ma_X5_step_176_178).trans (hF21851.2.1 178 ma_X5_joinHere_176_178))) (((hF21861.2.1 179 ma_X5_step_176_179).trans (hF21851.2.1 179 ma_X5_joinHere_176_179))) (((hF21861.1 177 0 mf_X5_step_176_177_0).trans (hF21851.1 177 0 mf_X5_joinHere_176_177_0))) (fun _ hl => ADP.j (ADP.fr hr21876.2 SCX.rf SCX.rf) (by omega)) (rX.c (b := 2) ((hF21874.1 176 2 mf_X4_add_177_176_2))) (rX.c (b := 4) ((hF21874.1 176 4 mf_X4_add_177_176_4))) (rX.c (b := 6) ((hF21874.1 176 6 mf_X4_add_177_176_6))))⟩ ⟨by omega, by omega⟩
            · have c21857_ : v21852.toInt = (-1) := en_i_ne_f c21857
              have i21892 := BLN.no hb21856 (by omega)
              refine At.enter rfl ?_
              refine r_vret ?_
              have x21893 := rX.e hI21850 (b := 2) ((((hF21851.1 176 2 mf_X5_joinHere_176_176_2).trans (hF21832.1 176 2 mf_X4_add_177_176_2)).trans hv21757))
              have x21894 := rX.e hI21850 (b := 4) ((((hF21851.1 176 4 mf_X5_joinHere_176_176_4).trans (hF21832.1 176 4 mf_X4_add_177_176_4)).trans hv21759))
              obtain ⟨v21895, hv21895⟩ : ∃ v, gI g21744 176 6 = v := ⟨_, rfl⟩
              have tv21895 := congrArg Int32.toInt hv21895
              have x21896 := rX.e hI21850 (b := 6) ((((hF21851.1 176 6 mf_X5_joinHere_176_176_6).trans (hF21832.1 176 6 mf_X4_add_177_176_6)).trans hv21895))
              obtain ⟨v21897, hv21897⟩ : ∃ v, gI g0 176 2 = v := ⟨_, rfl⟩
              have tv21897 := congrArg Int32.toInt hv21897
              have x21898 := rX.e hI0 (b := 2) (hv21897)
              have x21899 := rX.e hI0 (b := 4) (hv21173)
              have x21900 := rX.e hI21151 (b := 2) (hv21753)
              have x21901 := rX.e hI21151 (b := 4) (hv21176)
              have x21902 := rX.e hI21745 (b := 2) (hv21757)
              have x21903 := rX.e hI21745 (b := 4) (hv21759)
              exact ⟨_, rfl, hI21850, hF21854, rfl, ⟨⟨(TKX.c o21750 (((hF21851.2.1 175 ma_X5_joinHere_176_175).trans (hF21832.2.1 175 ma_X4_add_177_175))) (((hF21851.1 174 1 mf_X5_joinHere_176_174_1).trans (hF21832.1 174 1 mf_X4_add_177_174_1))) (((hF21851.1 176 3 mf_X5_joinHere_176_176_3).trans (hF21832.1 176 3 mf_X4_add_177_176_3))) (((hF21851.1 176 4 mf_X5_joinHere_176_176_4).trans (hF21832.1 176 4 mf_X4_add_177_176_4))) (((hF21851.1 176 5 mf_X5_joinHere_176_176_5).trans (hF21832.1 176 5 mf_X4_add_177_176_5)))), (PRG0.tr q21167 (PRG0.tr o21751 (PRG0.eq (rX.c (b := 4) (((hF21851.1 176 4 mf_X5_joinHere_176_176_4).trans (hF21832.1 176 4 mf_X4_add_177_176_4)))) (rX.c (b := 2) (((hF21851.1 176 2 mf_X5_joinHere_176_176_2).trans (hF21832.1 176 2 mf_X4_add_177_176_2))))))).le (by omega), LPI.end_ q21166 (OPD.plain o21752 (by omega)) (rX.c (b := 2) (((hF21851.1 176 2 mf_X5_joinHere_176_176_2).trans (hF21832.1 176 2 mf_X4_add_177_176_2)))) (rX.c (b := 4) (((hF21851.1 176 4 mf_X5_joinHere_176_176_4).trans (hF21832.1 176 4 mf_X4_add_177_176_4)))) (rX.c (b := 6) (((hF21851.1 176 6 mf_X5_joinHere_176_176_6).trans (hF21832.1 176 6 mf_X4_add_177_176_6)))), (fun hz => (by rw [CDX.c (((hF21851.2.1 175 ma_X5_joinHere_176_175).trans (hF21832.2.1 175 ma_X4_add_177_175))) (((hF21851.1 176 3 mf_X5_joinHere_176_176_3).trans (hF21832.1 176 3 mf_X4_add_177_176_3))) (((hF21851.1 176 4 mf_X5_joinHere_176_176_4).trans (hF21832.1 176 4 mf_X4_add_177_176_4))) (((hF21851.1 176 5 mf_X5_joinHere_176_176_5).trans (hF21832.1 176 5 mf_X4_add_177_176_5)))]; exact NJ.mk1 (by omega) i21892))⟩, (GPX.eq (LPG.opB q21169 (GPX.k gx21756 (by have r1 := rul (r := a1.toInt) (by omega); omega) (by have r1 := rul (r := a1.toInt) (by omega); omega) (by have r1 := rul (r := a1.toInt) (by omega); omega) (by have r1 := rul (r := a1.toInt) (by omega); omega)) ⟨by omega, by omega⟩ (fun z => (o21751.2.2 z).1) (by omega) (by omega) (TKX.someC o21750 (((hF21746.2.1 175 (by decide)).trans (hF21152.2.1 175 (by decide)))) (((hF21746.1 174 1 (by decide)).trans (hF21152.1 174 1 (by decide))))).choose_spec (by omega) (fun _ hr2 => False.elim (by omega)) (fun _ hl => ADP.b (ADP.fr hr21834.2 SCX.rf SCX.rf) hl) (rX.c (b := 2) ((hF21832.1 176 2 mf_X4_add_177_176_2))) (rX.c (b := 4) ((hF21832.1 176 4 mf_X4_add_177_176_4))) (rX.c (b := 6) ((hF21832.1 176 6 mf_X4_add_177_176_6)))) ((hF21851.2.1 178 ma_X5_joinHere_176_178)) ((hF21851.2.1 179 ma_X5_joinHere_176_179)) ((hF21851.1 177 0 mf_X5_joinHere_176_177_0)) (rX.c (b := 2) ((hF21851.1 176 2 mf_X5_joinHere_176_176_2))) (rX.c (b := 4) ((hF21851.1 176 4 mf_X5_joinHere_176_176_4))) (rX.c (b := 6) ((hF21851.1 176 6 mf_X5_joinHere_176_176_6))))⟩⟩
      · have c21761_ : x21148.toInt ≠ (-1) := en_i_eq_f c21761
        refine At.enter rfl ?_
        refine r_aload_n e21156 ?_
        refine q_getR (Sh.ref hI21745.1 kx_176 rfl) ?_
        refine r_iload e21160 ?_
        refine r_callV 65 rfl [.ref 177, .int x21148] [] (Nat.le_of_ble_eq_true rfl) rfl (T_X4_aimAtEnd_177 _ hI21745 x21148) ?_
        rintro _ _ ⟨g21904, rfl, hI21905, hF21906, rfl, hr21908⟩
        refine At.stn ?_
        have hF21909 := Fr.tr hF21749 hF21906 rfl rfl
        refine At.enter rfl ?_
        refine r_goto ?_
        refine At.enter rfl ?_
        refine r_aload_n e21156 ?_
        refine q_getI (Sh.int hI21905.1 kx_176 rfl) v21757 ((hF21906.1 176 2 mf_X4_aimAtEnd_177_176_2).trans hv21757) ?_
        refine r_iconst (-1) rfl ?_
        refine r_ics 91 rfl (fun c21910 => ?_) (fun c21910 => ?_)
        · have c21910_ : v21757.toInt ≠ (-1) := en_i_ne_t c21910
          refine At.enter rfl ?_
          refine r_iconst (-1) rfl ?_
          refine Ar.fall 100 rfl ?_
          refine At.enter rfl ?_
          refine r_istore_n _ rfl ?_
          refine r_iload_n (w_e1 _ _ _) ?_
          refine r_iconst (-1) rfl ?_
          refine r_icf 106 rfl (by decide) ?_
          refine At.enter rfl ?_
          refine r_vret ?_
          have x21911 := rX.e hI21905 (b := 2) (((hF21906.1 176 2 mf_X4_aimAtEnd_177_176_2).trans hv21757))
          have x21912 := rX.e hI21905 (b := 4) (((hF21906.1 176 4 mf_X4_aimAtEnd_177_176_4).trans hv21759))
          obtain ⟨v21913, hv21913⟩ : ∃ v, gI g21744 176 6 = v := ⟨_, rfl⟩
          have tv21913 := congrArg Int32.toInt hv21913
          have x21914 := rX.e hI21905 (b := 6) (((hF21906.1 176 6 mf_X4_aimAtEnd_177_176_6).trans hv21913))
          obtain ⟨v21915, hv21915⟩ : ∃ v, gI g0 176 2 = v := ⟨_, rfl⟩
          have tv21915 := congrArg Int32.toInt hv21915
          have x21916 := rX.e hI0 (b := 2) (hv21915)
          have x21917 := rX.e hI0 (b := 4) (hv21173)
          have x21918 := rX.e hI21151 (b := 2) (hv21753)
          have x21919 := rX.e hI21151 (b := 4) (hv21176)
          have x21920 := rX.e hI21745 (b := 2) (hv21757)
          have x21921 := rX.e hI21745 (b := 4) (hv21759)
          exact ⟨_, rfl, hI21905, hF21909, rfl, ⟨⟨(TKX.c o21750 ((hF21906.2.1 175 ma_X4_aimAtEnd_177_175)) ((hF21906.1 174 1 mf_X4_aimAtEnd_177_174_1)) ((hF21906.1 176 3 mf_X4_aimAtEnd_177_176_3)) ((hF21906.1 176 4 mf_X4_aimAtEnd_177_176_4)) ((hF21906.1 176 5 mf_X4_aimAtEnd_177_176_5))), (PRG0.tr q21167 (PRG0.tr o21751 (PRG0.eq (rX.c (b := 4) ((hF21906.1 176 4 mf_X4_aimAtEnd_177_176_4))) (rX.c (b := 2) ((hF21906.1 176 2 mf_X4_aimAtEnd_177_176_2)))))).le (by omega), LPI.end_ q21166 (OPD.plain o21752 (by omega)) (rX.c (b := 2) ((hF21906.1 176 2 mf_X4_aimAtEnd_177_176_2))) (rX.c (b := 4) ((hF21906.1 176 4 mf_X4_aimAtEnd_177_176_4))) (rX.c (b := 6) ((hF21906.1 176 6 mf_X4_aimAtEnd_177_176_6))), (fun hz => absurd hz (by omega))⟩, (LPG.opC q21169 (GPX.k gx21756 (by have r1 := rul (r := a1.toInt) (by omega); omega) (by have r1 := rul (r := a1.toInt) (by omega); omega) (by have r1 := rul (r := a1.toInt) (by omega); omega) (by have r1 := rul (r := a1.toInt) (by omega); omega)) ⟨by omega, by omega⟩ (fun z => (o21751.2.2 z).1) (by omega) (TKX.someC o21750 (((hF21746.2.1 175 (by decide)).trans (hF21152.2.1 175 (by decide)))) (((hF21746.1 174 1 (by decide)).trans (hF21152.1 174 1 (by decide))))).choose_spec (fun _ hr0 => False.elim (by omega)) (by omega) (fun _ hl => AIMP.b (AIMP.fr hr21908 SCX.rf SCX.rf) (by omega) hl) (rX.c (b := 2) ((hF21906.1 176 2 mf_X4_aimAtEnd_177_176_2))) (rX.c (b := 4) ((hF21906.1 176 4 mf_X4_aimAtEnd_177_176_4))) (rX.c (b := 6) ((hF21906.1 176 6 mf_X4_aimAtEnd_177_176_6))))⟩⟩
        · have c21910_ : v21757.toInt = (-1) := en_i_ne_f c21910
          refine At.enter rfl ?_
          refine r_aload_n e21156 ?_
          refine r_iload_n e21157 ?_
          refine r_callV 96 rfl [.ref 176, .int a1] [] (Nat.le_of_ble_eq_true rfl) rfl (T_X5_joinHere_176 _ hI21905 a1 (by omega) (TKX.c o21750 ((hF21906.2.1 175 ma_X4_aimAtEnd_177_175)) ((hF21906.1 174 1 mf_X4_aimAtEnd_177_174_1)) ((hF21906.1 176 3 mf_X4_aimAtEnd_177_176_3)) ((hF21906.1 176 4 mf_X4_aimAtEnd_177_176_4)) ((hF21906.1 176 5 mf_X4_aimAtEnd_177_176_5)))) ?_
          rintro _ _ ⟨g21922, rfl, hI21923, hF21924, v21925, rfl, hr21926⟩
          refine At.sti ?_
          have hF21927 := Fr.tr hF21909 hF21924 rfl rfl
          have je21928 : v21925.toInt ≠ -1 → v21925.toInt = CDX g21744 - 18 := by have z := hr21926.2.2; rw [CDX.c ((hF21906.2.1 175 ma_X4_aimAtEnd_177_175)) ((hF21906.1 176 3 mf_X4_aimAtEnd_177_176_3)) ((hF21906.1 176 4 mf_X4_aimAtEnd_177_176_4)) ((hF21906.1 176 5 mf_X4_aimAtEnd_177_176_5))] at z; exact z
          have hb21929 : BLN (JN a1.toInt (CDX g21744)) v21925.toInt := by have z := hr21926.2.1; rw [CDX.c ((hF21906.2.1 175 ma_X4_aimAtEnd_177_175)) ((hF21906.1 176 3 mf_X4_aimAtEnd_177_176_3)) ((hF21906.1 176 4 mf_X4_aimAtEnd_177_176_4)) ((hF21906.1 176 5 mf_X4_aimAtEnd_177_176_5))] at z; exact z
          refine At.enter rfl ?_
          refine r_goto ?_
          refine At.enter rfl ?_
          refine r_istore_n _ rfl ?_
          refine r_iload_n (w_e1 _ _ _) ?_
          refine r_iconst (-1) rfl ?_
          refine r_ics 106 rfl (fun c21930 => ?_) (fun c21930 => ?_)
          · have c21930_ : v21925.toInt ≠ (-1) := en_i_ne_t c21930
            have i21931 := BLN.yes hb21929 (by omega)
            refine At.enter rfl ?_
            refine r_aload_n (w_p1 (by decide) (Or.inr rfl) e21156) ?_
            refine r_callV 111 rfl [.ref 176] [] (Nat.le_of_ble_eq_true rfl) rfl (T_X5_step_176 _ hI21923 (TKX.c o21750 (((hF21924.2.1 175 ma_X5_joinHere_176_175).trans (hF21906.2.1 175 ma_X4_aimAtEnd_177_175))) (((hF21924.1 174 1 mf_X5_joinHere_176_174_1).trans (hF21906.1 174 1 mf_X4_aimAtEnd_177_174_1))) (((hF21924.1 176 3 mf_X5_joinHere_176_176_3).trans (hF21906.1 176 3 mf_X4_aimAtEnd_177_176_3))) (((hF21924.1 176 4 mf_X5_joinHere_176_176_4).trans (hF21906.1 176 4 mf_X4_aimAtEnd_177_176_4))) (((hF21924.1 176 5 mf_X5_joinHere_176_176_5).trans (hF21906.1 176 5 mf_X4_aimAtEnd_177_176_5)))).1 (TKX.c o21750 (((hF21924.2.1 175 ma_X5_joinHere_176_175).trans (hF21906.2.1 175 ma_X4_aimAtEnd_177_175))) (((hF21924.1 174 1 mf_X5_joinHere_176_174_1).trans (hF21906.1 174 1 mf_X4_aimAtEnd_177_174_1))) (((hF21924.1 176 3 mf_X5_joinHere_176_176_3).trans (hF21906.1 176 3 mf_X4_aimAtEnd_177_176_3))) (((hF21924.1 176 4 mf_X5_joinHere_176_176_4).trans (hF21906.1 176 4 mf_X4_aimAtEnd_177_176_4))) (((hF21924.1 176 5 mf_X5_joinHere_176_176_5).trans (hF21906.1 176 5 mf_X4_aimAtEnd_177_176_5)))).2.1.le.2.1) ?_
            rintro _ _ ⟨g21932, rfl, hI21933, hF21934, rfl, hr21936⟩
            refine At.stn ?_
            have hF21937 := Fr.tr hF21927 hF21934 rfl rfl
            have tok21938_ := hr21936.2
            rw [TX.c (((hF21924.2.1 175 ma_X5_joinHere_176_175).trans (hF21906.2.1 175 ma_X4_aimAtEnd_177_175))), nX.c (((hF21924.1 174 1 mf_X5_joinHere_176_174_1).trans (hF21906.1 174 1 mf_X4_aimAtEnd_177_174_1))), rX.c (b := 5) (((hF21924.1 176 5 mf_X5_joinHere_176_176_5).trans (hF21906.1 176 5 mf_X4_aimAtEnd_177_176_5)))] at tok21938_
            have tok21938 := TKX.tok o21750 tok21938_
            rw [TX.c (((hF21746.2.1 175 (by decide)).trans (hF21152.2.1 175 (by decide)))), nX.c (((hF21746.1 174 1 (by decide)).trans (hF21152.1 174 1 (by decide))))] at tok21938
            have hT21939 := hr21936.1
            have x21940 := rX.e hI21923 (b := 4) ((((hF21924.1 176 4 mf_X5_joinHere_176_176_4).trans (hF21906.1 176 4 mf_X4_aimAtEnd_177_176_4)).trans hv21759))
            obtain ⟨v21941, hv21941⟩ : ∃ v, gI g21932 176 4 = v := ⟨_, rfl⟩
            have rv21941 := RgF.at hI21933.2.1 (p := 176) (b := 4) rfl
            rw [hv21941] at rv21941
            dsimp only at rv21941
            have tv21941 := congrArg Int32.toInt hv21941
            have x21942 := rX.e hI21933 (b := 4) (hv21941)
            refine At.enter rfl ?_
            refine r_iload_n (w_p1 (by decide) (Or.inr rfl) e21157) ?_
            refine r_ifs 115 rfl (fun c21943 => ?_) (fun c21943 => ?_)
            · have c21943_ : a1.toInt = 0 := en_k_eq_t c21943
              exfalso; omega
            · have c21943_ : a1.toInt ≠ 0 := en_k_eq_f c21943
              refine At.enter rfl ?_
              refine r_iload_n (w_p1 (by decide) (Or.inr rfl) e21157) ?_
              refine r_iconst 1 rfl ?_
              refine r_ics 120 rfl (fun c21944 => ?_) (fun c21944 => ?_)
              · have c21944_ : a1.toInt ≠ 1 := en_i_ne_t c21944
                exfalso; omega
              · have c21944_ : a1.toInt = 1 := en_i_ne_f c21944
                refine At.enter rfl ?_
                refine r_aload_n (w_p1 (by decide) (Or.inr rfl) e21156) ?_
                refine q_getR (Sh.ref hI21933.1 kx_176 rfl) ?_
                refine r_iload_n (w_e1 _ _ _) ?_
                refine r_iconst 0 rfl ?_
                refine r_callV 129 rfl [.ref 177, .int v21925, .int 0] [] (Nat.le_of_ble_eq_true rfl) rfl (T_X4_add_177 _ hI21933 v21925 0) ?_
                rintro _ _ ⟨g21945, rfl, hI21946, hF21947, v21948, rfl, hr21949⟩
                refine At.sti ?_
                have hF21950 := Fr.tr hF21937 hF21947 rfl rfl
                have zv21951 : (0 : Int32).toInt = 0 := rfl
                refine At.enter rfl ?_
                refine r_goto ?_
                refine At.enter rfl ?_
                refine r_istore _ rfl ?_
                refine q_iinc (w_p1 (by decide) (Or.inr rfl) (w_p1 (by decide) (Or.inr rfl) e21161)) (x21149.toInt + 1) rfl (by omega) (fun v21952 hv21952 => ?_)
                refine r_goto ?_
                have jj21953 := i21931
                unfold JN at jj21953
                have x21954 := rX.e hI21745 (b := 2) (hv21757)
                have x21955 := rX.e hI21745 (b := 4) (hv21759)
                have x21956 := rX.e hI21905 (b := 4) (((hF21906.1 176 4 mf_X4_aimAtEnd_177_176_4).trans hv21759))
                have x21957 := rX.e hI21933 (b := 4) (hv21941)
                have x21958 := rX.e hI21151 (b := 4) (hv21176)
                have x21959 := rX.e hI21745 (b := 2) (hv21757)
                have x21960 := rX.e hI21745 (b := 4) (hv21759)
                have x21961 := rX.e hI21933 (b := 4) (hv21941)
                have x21962 := rX.e hI21946 (b := 4) (((hF21947.1 176 4 mf_X4_add_177_176_4).trans hv21941))
                have y21963 := (o21751.2.2 (by omega)).2
                have y21964 := ((PRG0.step o21750 tok21938_ (rX.c (b := 2) (((hF21934.1 176 2 mf_X5_step_176_176_2).trans ((hF21924.1 176 2 mf_X5_joinHere_176_176_2).trans (hF21906.1 176 2 mf_X4_aimAtEnd_177_176_2))))) (JN.ne i21931)).2.2 (by rw [(rX.c (b := 2) (((hF21934.1 176 2 mf_X5_step_176_176_2).trans ((hF21924.1 176 2 mf_X5_joinHere_176_176_2).trans (hF21906.1 176 2 mf_X4_aimAtEnd_177_176_2)))))]; omega)).2
                exact ih21155 (400 - v21952.toInt) _ _ ⟨v21925, v21948, v21952, by first | rfl | omega, hI21946, hF21950, (w_p1 (by decide) (Or.inr rfl) (w_p1 (by decide) (Or.inr rfl) (w_p1 (by decide) (Or.inr rfl) e21156))), (w_p1 (by decide) (Or.inr rfl) (w_p1 (by decide) (Or.inr rfl) (w_p1 (by decide) (Or.inr rfl) e21157))), (w_p1 (by decide) (Or.inr rfl) (w_p1 (by decide) (Or.inr rfl) (w_p1 (by decide) (Or.inr rfl) e21158))), (w_p1 (by decide) (Or.inr rfl) (w_p1 (by decide) (Or.inr rfl) (w_e1 _ _ _))), (w_p1 (by decide) (Or.inr rfl) (w_e1 _ _ _)), (w_e1 _ _ _), by omega, by omega, by omega, (TKX.c hT21939 ((hF21947.2.1 175 ma_X4_add_177_175)) ((hF21947.1 174 1 mf_X4_add_177_174_1)) ((hF21947.1 176 3 mf_X4_add_177_176_3)) ((hF21947.1 176 4 mf_X4_add_177_176_4)) ((hF21947.1 176 5 mf_X4_add_177_176_5))), (LPI.eq (LPI.next q21166 (OPD.plain o21752 (by omega)) tok21938 i21931 ⟨by omega, by omega⟩ (rX.c (b := 2) (((hF21934.1 176 2 mf_X5_step_176_176_2).trans ((hF21924.1 176 2 mf_X5_joinHere_176_176_2).trans (hF21906.1 176 2 mf_X4_aimAtEnd_177_176_2))))) (rX.c (b := 6) (((hF21934.1 176 6 mf_X5_step_176_176_6).trans ((hF21924.1 176 6 mf_X5_joinHere_176_176_6).trans (hF21906.1 176 6 mf_X4_aimAtEnd_177_176_6)))))) (rX.c (b := 2) ((hF21947.1 176 2 mf_X4_add_177_176_2))) (rX.c (b := 4) ((hF21947.1 176 4 mf_X4_add_177_176_4))) (rX.c (b := 6) ((hF21947.1 176 6 mf_X4_add_177_176_6)))), ((PRG0.tr q21167 (PRG0.tr o21751 (PRG0.tr (PRG0.step o21750 tok21938_ (rX.c (b := 2) (((hF21934.1 176 2 mf_X5_step_176_176_2).trans ((hF21924.1 176 2 mf_X5_joinHere_176_176_2).trans (hF21906.1 176 2 mf_X4_aimAtEnd_177_176_2))))) (JN.ne i21931)) (PRG0.eq (rX.c (b := 4) ((hF21947.1 176 4 mf_X4_add_177_176_4))) (rX.c (b := 2) ((hF21947.1 176 2 mf_X4_add_177_176_2))))))).le (by omega)), by omega, (GPX.joinC (LPG.opC q21169 (GPX.k gx21756 (by have r1 := rul (r := a1.toInt) (by omega); omega) (by have r1 := rul (r := a1.toInt) (by omega); omega) (by have r1 := rul (r := a1.toInt) (by omega); omega) (by have r1 := rul (r := a1.toInt) (by omega); omega)) ⟨by omega, by omega⟩ (fun z => (o21751.2.2 z).1) (by omega) (TKX.someC o21750 (((hF21746.2.1 175 (by decide)).trans (hF21152.2.1 175 (by decide)))) (((hF21746.1 174 1 (by decide)).trans (hF21152.1 174 1 (by decide))))).choose_spec (fun _ hr0 => False.elim (by omega)) (by omega) (fun _ hl => AIMP.b (AIMP.fr hr21908 SCX.rf SCX.rf) (by omega) hl) (rX.c (b := 2) ((hF21906.1 176 2 mf_X4_aimAtEnd_177_176_2))) (rX.c (b := 4) ((hF21906.1 176 4 mf_X4_aimAtEnd_177_176_4))) (rX.c (b := 6) ((hF21906.1 176 6 mf_X4_aimAtEnd_177_176_6)))) ⟨by omega, by omega⟩ (by rw [(rX.c (b := 4) ((hF21906.1 176 4 mf_X4_aimAtEnd_177_176_4)))]; exact tok21938) (by omega) (by omega) (by omega) (rX.c (b := 2) (((hF21934.1 176 2 mf_X5_step_176_176_2).trans (hF21924.1 176 2 mf_X5_joinHere_176_176_2)))) (rX.c (b := 6) (((hF21934.1 176 6 mf_X5_step_176_176_6).trans (hF21924.1 176 6 mf_X5_joinHere_176_176_6)))) (((hF21934.2.1 178 ma_X5_step_176_178).trans (hF21924.2.1 178 ma_X5_joinHere_176_178))) (((hF21934.2.1 179 ma_X5_step_176_179).trans (hF21924.2.1 179 ma_X5_joinHere_176_179))) (((hF21934.1 177 0 mf_X5_step_176_177_0).trans (hF21924.1 177 0 mf_X5_joinHere_176_177_0))) (fun _ hl => ADP.j (ADP.fr hr21949.2 SCX.rf SCX.rf) (by omega)) (rX.c (b := 2) ((hF21947.1 176 2 mf_X4_add_177_176_2))) (rX.c (b := 4) ((hF21947.1 176 4 mf_X4_add_177_176_4))) (rX.c (b := 6) ((hF21947.1 176 6 mf_X4_add_177_176_6))))⟩ ⟨by omega, by omega⟩
          · have c21930_ : v21925.toInt = (-1) := en_i_ne_f c21930
            have i21965 := BLN.no hb21929 (by omega)
            refine At.enter rfl ?_
            refine r_vret ?_
            have x21966 := rX.e hI21923 (b := 2) ((((hF21924.1 176 2 mf_X5_joinHere_176_176_2).trans (hF21906.1 176 2 mf_X4_aimAtEnd_177_176_2)).trans hv21757))
            have x21967 := rX.e hI21923 (b := 4) ((((hF21924.1 176 4 mf_X5_joinHere_176_176_4).trans (hF21906.1 176 4 mf_X4_aimAtEnd_177_176_4)).trans hv21759))
            obtain ⟨v21968, hv21968⟩ : ∃ v, gI g21744 176 6 = v := ⟨_, rfl⟩
            have tv21968 := congrArg Int32.toInt hv21968
            have x21969 := rX.e hI21923 (b := 6) ((((hF21924.1 176 6 mf_X5_joinHere_176_176_6).trans (hF21906.1 176 6 mf_X4_aimAtEnd_177_176_6)).trans hv21968))
            obtain ⟨v21970, hv21970⟩ : ∃ v, gI g0 176 2 = v := ⟨_, rfl⟩
            have tv21970 := congrArg Int32.toInt hv21970
            have x21971 := rX.e hI0 (b := 2) (hv21970)
            have x21972 := rX.e hI0 (b := 4) (hv21173)
            have x21973 := rX.e hI21151 (b := 2) (hv21753)
            have x21974 := rX.e hI21151 (b := 4) (hv21176)
            have x21975 := rX.e hI21745 (b := 2) (hv21757)
            have x21976 := rX.e hI21745 (b := 4) (hv21759)
            exact ⟨_, rfl, hI21923, hF21927, rfl, ⟨⟨(TKX.c o21750 (((hF21924.2.1 175 ma_X5_joinHere_176_175).trans (hF21906.2.1 175 ma_X4_aimAtEnd_177_175))) (((hF21924.1 174 1 mf_X5_joinHere_176_174_1).trans (hF21906.1 174 1 mf_X4_aimAtEnd_177_174_1))) (((hF21924.1 176 3 mf_X5_joinHere_176_176_3).trans (hF21906.1 176 3 mf_X4_aimAtEnd_177_176_3))) (((hF21924.1 176 4 mf_X5_joinHere_176_176_4).trans (hF21906.1 176 4 mf_X4_aimAtEnd_177_176_4))) (((hF21924.1 176 5 mf_X5_joinHere_176_176_5).trans (hF21906.1 176 5 mf_X4_aimAtEnd_177_176_5)))), (PRG0.tr q21167 (PRG0.tr o21751 (PRG0.eq (rX.c (b := 4) (((hF21924.1 176 4 mf_X5_joinHere_176_176_4).trans (hF21906.1 176 4 mf_X4_aimAtEnd_177_176_4)))) (rX.c (b := 2) (((hF21924.1 176 2 mf_X5_joinHere_176_176_2).trans (hF21906.1 176 2 mf_X4_aimAtEnd_177_176_2))))))).le (by omega), LPI.end_ q21166 (OPD.plain o21752 (by omega)) (rX.c (b := 2) (((hF21924.1 176 2 mf_X5_joinHere_176_176_2).trans (hF21906.1 176 2 mf_X4_aimAtEnd_177_176_2)))) (rX.c (b := 4) (((hF21924.1 176 4 mf_X5_joinHere_176_176_4).trans (hF21906.1 176 4 mf_X4_aimAtEnd_177_176_4)))) (rX.c (b := 6) (((hF21924.1 176 6 mf_X5_joinHere_176_176_6).trans (hF21906.1 176 6 mf_X4_aimAtEnd_177_176_6)))), (fun hz => (by rw [CDX.c (((hF21924.2.1 175 ma_X5_joinHere_176_175).trans (hF21906.2.1 175 ma_X4_aimAtEnd_177_175))) (((hF21924.1 176 3 mf_X5_joinHere_176_176_3).trans (hF21906.1 176 3 mf_X4_aimAtEnd_177_176_3))) (((hF21924.1 176 4 mf_X5_joinHere_176_176_4).trans (hF21906.1 176 4 mf_X4_aimAtEnd_177_176_4))) (((hF21924.1 176 5 mf_X5_joinHere_176_176_5).trans (hF21906.1 176 5 mf_X4_aimAtEnd_177_176_5)))]; exact NJ.mk1 (by omega) i21965))⟩, (GPX.eq (LPG.opC q21169 (GPX.k gx21756 (by have r1 := rul (r := a1.toInt) (by omega); omega) (by have r1 := rul (r := a1.toInt) (by omega); omega) (by have r1 := rul (r := a1.toInt) (by omega); omega) (by have r1 := rul (r := a1.toInt) (by omega); omega)) ⟨by omega, by omega⟩ (fun z => (o21751.2.2 z).1) (by omega) (TKX.someC o21750 (((hF21746.2.1 175 (by decide)).trans (hF21152.2.1 175 (by decide)))) (((hF21746.1 174 1 (by decide)).trans (hF21152.1 174 1 (by decide))))).choose_spec (fun _ hr0 => False.elim (by omega)) (by omega) (fun _ hl => AIMP.b (AIMP.fr hr21908 SCX.rf SCX.rf) (by omega) hl) (rX.c (b := 2) ((hF21906.1 176 2 mf_X4_aimAtEnd_177_176_2))) (rX.c (b := 4) ((hF21906.1 176 4 mf_X4_aimAtEnd_177_176_4))) (rX.c (b := 6) ((hF21906.1 176 6 mf_X4_aimAtEnd_177_176_6)))) ((hF21924.2.1 178 ma_X5_joinHere_176_178)) ((hF21924.2.1 179 ma_X5_joinHere_176_179)) ((hF21924.1 177 0 mf_X5_joinHere_176_177_0)) (rX.c (b := 2) ((hF21924.1 176 2 mf_X5_joinHere_176_176_2))) (rX.c (b := 4) ((hF21924.1 176 4 mf_X5_joinHere_176_176_4))) (rX.c (b := 6) ((hF21924.1 176 6 mf_X5_joinHere_176_176_6))))⟩⟩
