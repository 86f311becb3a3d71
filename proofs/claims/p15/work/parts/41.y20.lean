def F_X5_comparisonHere_176 : List (Nat × Nat) := []
def A_X5_comparisonHere_176 : List Nat := []
theorem ma_X5_joinHere_176_175 : memA A_X5_joinHere_176 175 = false := by decide
theorem mf_X5_joinHere_176_174_1 : memF F_X5_joinHere_176 174 1 = false := by decide
theorem mf_X5_joinHere_176_176_3 : memF F_X5_joinHere_176 176 3 = false := by decide
theorem mf_X5_joinHere_176_176_4 : memF F_X5_joinHere_176 176 4 = false := by decide
theorem mf_X5_joinHere_176_176_5 : memF F_X5_joinHere_176 176 5 = false := by decide
theorem mf_X4_add_177_176_4 : memF F_X4_add_177 176 4 = false := by decide
theorem mf_X5_step_176_176_2 : memF F_X5_step_176 176 2 = false := by decide
theorem mf_X5_joinHere_176_176_2 : memF F_X5_joinHere_176 176 2 = false := by decide
theorem ma_X4_add_177_175 : memA A_X4_add_177 175 = false := by decide
theorem mf_X4_add_177_174_1 : memF F_X4_add_177 174 1 = false := by decide
theorem mf_X4_add_177_176_3 : memF F_X4_add_177 176 3 = false := by decide
theorem mf_X4_add_177_176_5 : memF F_X4_add_177 176 5 = false := by decide
theorem mf_X5_step_176_176_6 : memF F_X5_step_176 176 6 = false := by decide
theorem mf_X5_joinHere_176_176_6 : memF F_X5_joinHere_176 176 6 = false := by decide
theorem mf_X4_add_177_176_2 : memF F_X4_add_177 176 2 = false := by decide
theorem mf_X4_add_177_176_6 : memF F_X4_add_177 176 6 = false := by decide
theorem mf_X4_aimAtEnd_177_176_2 : memF F_X4_aimAtEnd_177 176 2 = false := by decide
theorem mf_X4_aimAtEnd_177_176_4 : memF F_X4_aimAtEnd_177 176 4 = false := by decide
theorem mf_X4_aimAtEnd_177_176_6 : memF F_X4_aimAtEnd_177 176 6 = false := by decide
theorem ma_X4_aimAtEnd_177_175 : memA A_X4_aimAtEnd_177 175 = false := by decide
theorem mf_X4_aimAtEnd_177_174_1 : memF F_X4_aimAtEnd_177 174 1 = false := by decide
theorem mf_X4_aimAtEnd_177_176_3 : memF F_X4_aimAtEnd_177 176 3 = false := by decide
theorem mf_X4_aimAtEnd_177_176_5 : memF F_X4_aimAtEnd_177 176 5 = false := by decide
set_option maxRecDepth 100000 in
set_option maxHeartbeats 4000000 in
theorem T_X5_comparisonHere_176 (d : Nat) {N : Nat} {g0 : List en_E} (hI0 : HI g0) (hT : TKX g0) : Ev (d + 3) 68 [.ref 176] (g0, N) (fun w h' => ∃ g', h' = (g', N) ∧ HI g' ∧ Fr F_X5_comparisonHere_176 A_X5_comparisonHere_176 g0 g' ∧ ∃ r : Int32, w = some (.int r) ∧ ((-1) ≤ r.toInt ∧ r.toInt ≤ 8) ∧ (BLN (24 ≤ CDX g0 ∧ CDX g0 ≤ 26) r.toInt)) := by
  have hF0 : Fr F_X5_comparisonHere_176 A_X5_comparisonHere_176 g0 g0 := Fr.rf
  refine Ev.mk rfl rfl ⟨Nat.le_of_ble_eq_true rfl, Or.inr (q_rc hI0.1 kx_176 rfl)⟩ ?_
  show At _ none _ _ (0, [(0, .ref 176)], [], (_, _)) _
  refine At.enter rfl ?_
  refine r_aload_n rfl ?_
  refine r_bipush 60 rfl ?_
  refine r_callV 6 rfl [.ref 176, .int 60] [] (Nat.le_of_ble_eq_true rfl) rfl (T_X5_isSingle_176 _ hI0 60 (by decide)) ?_
  rintro _ _ ⟨g67, rfl, hI68, hF69, v70, rfl, hr71⟩
  refine At.sti ?_
  have hF72 := Fr.tr hF0 hF69 rfl rfl
  have zv73 : (60 : Int32).toInt = 60 := rfl
  have hb74 : BL (CDX g0 = 24) v70.toInt := ISX.code (c := 24) hr71.2 hT (isSC_d (by omega)) (by decide)
  refine At.enter rfl ?_
  refine r_ifs 9 rfl (fun c75 => ?_) (fun c75 => ?_)
  · have c75_ : v70.toInt = 0 := en_k_eq_t c75
    have i76 := BL.no hb74 (by omega)
    refine At.enter rfl ?_
    refine r_aload_n rfl ?_
    refine r_bipush 62 rfl ?_
    refine r_callV 20 rfl [.ref 176, .int 62] [] (Nat.le_of_ble_eq_true rfl) rfl (T_X5_isSingle_176 _ hI68 62 (by decide)) ?_
    rintro _ _ ⟨g77, rfl, hI78, hF79, v80, rfl, hr81⟩
    refine At.sti ?_
    have hF82 := Fr.tr hF72 hF79 rfl rfl
    have zv83 : (62 : Int32).toInt = 62 := rfl
    have hb84 : BL (CDX g0 = 25) v80.toInt := by have z := ISX.code (c := 25) hr81.2 (TKX.c hT ((hF69.2.1 175 ma_X5_isSingle_176_175)) ((hF69.1 174 1 mf_X5_isSingle_176_174_1)) ((hF69.1 176 3 mf_X5_isSingle_176_176_3)) ((hF69.1 176 4 mf_X5_isSingle_176_176_4)) ((hF69.1 176 5 mf_X5_isSingle_176_176_5))) (isSC_d (by omega)) (by decide); rw [CDX.c ((hF69.2.1 175 ma_X5_isSingle_176_175)) ((hF69.1 176 3 mf_X5_isSingle_176_176_3)) ((hF69.1 176 4 mf_X5_isSingle_176_176_4)) ((hF69.1 176 5 mf_X5_isSingle_176_176_5))] at z; exact z
    refine At.enter rfl ?_
    refine r_ifs 23 rfl (fun c85 => ?_) (fun c85 => ?_)
    · have c85_ : v80.toInt = 0 := en_k_eq_t c85
      have i86 := BL.no hb84 (by omega)
      refine At.enter rfl ?_
      refine r_aload_n rfl ?_
      refine r_bipush 61 rfl ?_
      refine r_callV 34 rfl [.ref 176, .int 61] [] (Nat.le_of_ble_eq_true rfl) rfl (T_X5_isSingle_176 _ hI78 61 (by decide)) ?_
      rintro _ _ ⟨g87, rfl, hI88, hF89, v90, rfl, hr91⟩
      refine At.sti ?_
      have hF92 := Fr.tr hF82 hF89 rfl rfl
      have zv93 : (61 : Int32).toInt = 61 := rfl
      have hb94 : BL (CDX g0 = 26) v90.toInt := by have z := ISX.code (c := 26) hr91.2 (TKX.c hT (((hF79.2.1 175 ma_X5_isSingle_176_175).trans (hF69.2.1 175 ma_X5_isSingle_176_175))) (((hF79.1 174 1 mf_X5_isSingle_176_174_1).trans (hF69.1 174 1 mf_X5_isSingle_176_174_1))) (((hF79.1 176 3 mf_X5_isSingle_176_176_3).trans (hF69.1 176 3 mf_X5_isSingle_176_176_3))) (((hF79.1 176 4 mf_X5_isSingle_176_176_4).trans (hF69.1 176 4 mf_X5_isSingle_176_176_4))) (((hF79.1 176 5 mf_X5_isSingle_176_176_5).trans (hF69.1 176 5 mf_X5_isSingle_176_176_5)))) (isSC_d (by omega)) (by decide); rw [CDX.c (((hF79.2.1 175 ma_X5_isSingle_176_175).trans (hF69.2.1 175 ma_X5_isSingle_176_175))) (((hF79.1 176 3 mf_X5_isSingle_176_176_3).trans (hF69.1 176 3 mf_X5_isSingle_176_176_3))) (((hF79.1 176 4 mf_X5_isSingle_176_176_4).trans (hF69.1 176 4 mf_X5_isSingle_176_176_4))) (((hF79.1 176 5 mf_X5_isSingle_176_176_5).trans (hF69.1 176 5 mf_X5_isSingle_176_176_5)))] at z; exact z
      refine At.enter rfl ?_
      refine r_ifs 37 rfl (fun c95 => ?_) (fun c95 => ?_)
      · have c95_ : v90.toInt = 0 := en_k_eq_t c95
        have i96 := BL.no hb94 (by omega)
        refine At.enter rfl ?_
        refine r_iconst (-1) rfl ?_
        refine Ar.fall 43 rfl ?_
        refine At.enter rfl ?_
        refine r_ireti ?_
        have zv97 : ((-1) : Int32).toInt = (-1) := rfl
        exact ⟨_, rfl, hI88, hF92, _, rfl, by decide, (CMX.mk (Or.inl ⟨by omega, by omega, by omega, by omega⟩))⟩
      · have c95_ : v90.toInt ≠ 0 := en_k_eq_f c95
        have i98 := BL.yes hb94 (by omega)
        refine At.enter rfl ?_
        refine r_bipush 8 rfl ?_
        refine r_goto ?_
        refine At.enter rfl ?_
        refine r_ireti ?_
        have zv99 : (8 : Int32).toInt = 8 := rfl
        exact ⟨_, rfl, hI88, hF92, _, rfl, by decide, (CMX.mk (Or.inr ⟨by omega, by omega, by omega⟩))⟩
    · have c85_ : v80.toInt ≠ 0 := en_k_eq_f c85
      have i100 := BL.yes hb84 (by omega)
      refine At.enter rfl ?_
      refine r_bipush 7 rfl ?_
      refine r_goto ?_
      refine At.enter rfl ?_
      refine r_ireti ?_
      have zv101 : (7 : Int32).toInt = 7 := rfl
      exact ⟨_, rfl, hI78, hF82, _, rfl, by decide, (CMX.mk (Or.inr ⟨by omega, by omega, by omega⟩))⟩
  · have c75_ : v70.toInt ≠ 0 := en_k_eq_f c75
    have i102 := BL.yes hb74 (by omega)
    refine At.enter rfl ?_
    refine r_bipush 6 rfl ?_
    refine r_goto ?_
    refine At.enter rfl ?_
    refine r_ireti ?_
    have zv103 : (6 : Int32).toInt = 6 := rfl
    exact ⟨_, rfl, hI68, hF72, _, rfl, by decide, (CMX.mk (Or.inr ⟨by omega, by omega, by omega⟩))⟩

def QJ (n : Nat) : Prop := ∀ e : Nat, 4 * n + 20 ≤ e → ∀ {N : Nat} {g0 : List en_E}, HI g0 → ∀ (a1 : Int32) (h_a1 : 0 ≤ a1.toInt ∧ a1.toInt ≤ 3) (a2 : Int32) (h_a2 : 0 ≤ a2.toInt ∧ a2.toInt ≤ 8), 10 * (9 - a2.toInt) + (8 - 2 * a1.toInt) ≤ (n : Int) → TKX g0 → Ev e 65 [.ref 176, .int a1, .int a2] (g0, N) (fun w h' => ∃ g', h' = (g', N) ∧ HI g' ∧ Fr F_rd A_rd g0 g' ∧ w = none ∧ JPX g0 g' a1.toInt a2.toInt)
def QP (n : Nat) : Prop := ∀ e : Nat, 4 * n + 20 ≤ e → ∀ {N : Nat} {g0 : List en_E}, HI g0 → ∀ (a1 : Int32) (h_a1 : 0 ≤ a1.toInt ∧ a1.toInt ≤ 8), 10 * (9 - a1.toInt) + 5 ≤ (n : Int) → TKX g0 → Ev e 67 [.ref 176, .int a1] (g0, N) (fun w h' => ∃ g', h' = (g', N) ∧ HI g' ∧ Fr F_rd A_rd g0 g' ∧ w = none ∧ PPX g0 g' a1.toInt)
def QT (n : Nat) : Prop := ∀ e : Nat, 4 * n + 20 ≤ e → ∀ {N : Nat} {g0 : List en_E}, HI g0 → ∀ (a1 : Int32) (h_a1 : 0 ≤ a1.toInt ∧ a1.toInt ≤ 8), 10 * (9 - a1.toInt) + 1 ≤ (n : Int) → TKX g0 → Ev e 69 [.ref 176, .int a1] (g0, N) (fun w h' => ∃ g', h' = (g', N) ∧ HI g' ∧ Fr F_rd A_rd g0 g' ∧ w = none ∧ TPX g0 g' a1.toInt)

set_option maxRecDepth 100000 in
set_option maxHeartbeats 4000000 in
theorem S_X5_readJoined_176 (n : Nat) (IHJ : QJ n) (IHP : QP n) (IHT : QT n) : QJ (n + 1) := by
  intro e he N g0 hI0 a1 h_a1 a2 h_a2 hm hT
  obtain ⟨d, rfl⟩ : ∃ d, e = d + 4 := ⟨e - 4, by omega⟩
  have hF0 : Fr F_rd A_rd g0 g0 := Fr.rf
  refine Ev.mk rfl rfl ⟨Nat.le_of_ble_eq_true rfl, Or.inr (q_rc hI0.1 kx_176 rfl)⟩ ?_
  show At _ none _ _ (0, [(0, .ref 176), (1, .int a1), (2, .int a2)], [], (_, _)) _
  refine At.enter rfl ?_
  refine r_iconst (-1) rfl ?_
  refine r_istore_n ([(3, .int (-1)), (0, .ref 176), (1, .int a1), (2, .int a2)]) rfl ?_
  refine r_iconst (-1) rfl ?_
  refine r_istore ([(4, .int (-1)), (3, .int (-1)), (0, .ref 176), (1, .int a1), (2, .int a2)]) rfl ?_
  refine r_iconst 0 rfl ?_
  refine r_istore ([(5, .int 0), (4, .int (-1)), (3, .int (-1)), (0, .ref 176), (1, .int a1), (2, .int a2)]) rfl ?_
  refine Ar.fall 8 rfl ?_
  have z_19940 : ((-1) : Int32).toInt = (-1) := rfl
  have z_19941 : ((-1) : Int32).toInt = (-1) := rfl
  have z_19942 : (0 : Int32).toInt = 0 := rfl
  obtain ⟨v19943, hv19943⟩ : ∃ v, gI g0 176 4 = v := ⟨_, rfl⟩
  have rv19943 := RgF.at hI0.2.1 (p := 176) (b := 4) rfl
  rw [hv19943] at rv19943
  dsimp only at rv19943
  have tv19943 := congrArg Int32.toInt hv19943
  have x19944 := rX.e hI0 (b := 4) (hv19943)
  refine w_loopI (fun n_ l_ g_ => ∃ x19918 : Int32, ∃ x19919 : Int32, ∃ x19920 : Int32, n_ = 400 - x19920.toInt ∧ HI g_ ∧ Fr F_rd A_rd g0 g_ ∧ en_get 0 l_ = some (.ref 176) ∧ en_get 1 l_ = some (.int a1) ∧ en_get 2 l_ = some (.int a2) ∧ en_get 3 l_ = some (.int x19918) ∧ en_get 4 l_ = some (.int x19919) ∧ en_get 5 l_ = some (.int x19920) ∧ ((-1) ≤ x19918.toInt ∧ x19918.toInt ≤ 11) ∧ ((-1) ≤ x19919.toInt ∧ x19919.toInt ≤ 399) ∧ (0 ≤ x19920.toInt ∧ x19920.toInt ≤ 400) ∧ (TKX g_) ∧ (LPI (TX g0) (nX g0) g0 g_ a1.toInt a2.toInt) ∧ (PRG0 0 (rX g0 2) (rX g_ 2) (rX g0 4) (rX g_ 4)) ∧ (2 * x19920.toInt ≤ rX g_ 4)) ?_ (400 - 0) ⟨(-1), (-1), 0, by first | rfl | omega, hI0, hF0, rfl, rfl, rfl, rfl, rfl, rfl, by decide, by decide, by decide, hT, LPI.rf, PRG0.rf, by omega⟩
  rintro n19925 l19924 g19921 ⟨x19918, x19919, x19920, hm19945, hI19922, hF19923, e19927, e19928, e19929, e19930, e19931, e19932, r19933, r19934, r19935, q19936, q19937, q19938, q19939⟩ ih19926
  obtain ⟨v19946, hv19946⟩ : ∃ v, gI g19921 176 4 = v := ⟨_, rfl⟩
  have rv19946 := RgF.at hI19922.2.1 (p := 176) (b := 4) rfl
  rw [hv19946] at rv19946
  dsimp only at rv19946
  have tv19946 := congrArg Int32.toInt hv19946
  have x19947 := rX.e hI19922 (b := 4) (hv19946)
  refine At.enter rfl ?_
  refine r_iload e19932 ?_
  refine r_sipush 400 rfl ?_
  refine r_ics 16 rfl (fun c19948 => ?_) (fun c19948 => ?_)
  · have c19948_ : x19920.toInt ≥ 400 := en_i_ge_t c19948
    refine At.enter rfl ?_
    refine r_vret ?_
    obtain ⟨v19949, hv19949⟩ : ∃ v, gI g19921 176 2 = v := ⟨_, rfl⟩
    have tv19949 := congrArg Int32.toInt hv19949
    have x19950 := rX.e hI19922 (b := 2) (hv19949)
    have x19951 := rX.e hI19922 (b := 4) (hv19946)
    obtain ⟨v19952, hv19952⟩ : ∃ v, gI g19921 176 6 = v := ⟨_, rfl⟩
    have tv19952 := congrArg Int32.toInt hv19952
    have x19953 := rX.e hI19922 (b := 6) (hv19952)
    obtain ⟨v19954, hv19954⟩ : ∃ v, gI g0 176 2 = v := ⟨_, rfl⟩
    have tv19954 := congrArg Int32.toInt hv19954
    have x19955 := rX.e hI0 (b := 2) (hv19954)
    have x19956 := rX.e hI0 (b := 4) (hv19943)
    have x19957 := rX.e hI19922 (b := 2) (hv19949)
    have x19958 := rX.e hI19922 (b := 4) (hv19946)
    exact ⟨_, rfl, hI19922, hF19923, rfl, (False.elim (by have z := q19938.2.2; omega))⟩
  · have c19948_ : x19920.toInt < 400 := en_i_ge_f c19948
    refine At.enter rfl ?_
    refine r_iload_n e19928 ?_
    refine r_iconst 1 rfl ?_
    refine r_ics 21 rfl (fun c19959 => ?_) (fun c19959 => ?_)
    · have c19959_ : a1.toInt ≠ 1 := en_i_ne_t c19959
      refine At.enter rfl ?_
      refine r_iload_n e19928 ?_
      refine r_iconst 3 rfl ?_
      refine r_ics 34 rfl (fun c19960 => ?_) (fun c19960 => ?_)
      · have c19960_ : a1.toInt ≠ 3 := en_i_ne_t c19960
        refine At.enter rfl ?_
        refine r_aload_n e19927 ?_
        refine r_iload_n e19928 ?_
        refine r_iconst 1 rfl ?_
        refine q_iadd (a1.toInt + 1) rfl (by omega) (fun v19961 hv19961 => ?_)
        refine r_iload_n e19929 ?_
        refine r_callV 50 rfl [.ref 176, .int v19961, .int a2] [] (Nat.le_of_ble_eq_true rfl) rfl (IHJ _ (by omega) hI19922 v19961 (by omega) a2 (by omega) (by omega) q19936) ?_
        rintro _ _ ⟨g19962, rfl, hI19963, hF19964, rfl, hr19966⟩
        refine At.stn ?_
        have hF19967 := Fr.tr hF19923 hF19964 rfl rfl
        obtain ⟨v19972, hv19972⟩ : ∃ v, gI g19921 176 2 = v := ⟨_, rfl⟩
        have tv19972 := congrArg Int32.toInt hv19972
        have x19973 := rX.e hI19922 (b := 2) (hv19972)
        have x19974 := rX.e hI19922 (b := 4) (hv19946)
        obtain ⟨o19968, o19969, o19970, o19971⟩ := hr19966
        have o19975 := OPD.tc o19970 ((hF19923.2.1 175 (by decide))) ((hF19923.1 174 1 (by decide)))
        obtain ⟨v19976, hv19976⟩ : ∃ v, gI g19962 176 2 = v := ⟨_, rfl⟩
        have tv19976 := congrArg Int32.toInt hv19976
        have x19977 := rX.e hI19963 (b := 2) (hv19976)
        obtain ⟨v19978, hv19978⟩ : ∃ v, gI g19962 176 4 = v := ⟨_, rfl⟩
        have rv19978 := RgF.at hI19963.2.1 (p := 176) (b := 4) rfl
        rw [hv19978] at rv19978
        dsimp only at rv19978
        have tv19978 := congrArg Int32.toInt hv19978
        have x19979 := rX.e hI19963 (b := 4) (hv19978)
        refine At.enter rfl ?_
        refine r_iload e19931 ?_
        refine r_iconst (-1) rfl ?_
        refine r_ics 56 rfl (fun c19980 => ?_) (fun c19980 => ?_)
        · have c19980_ : x19919.toInt = (-1) := en_i_eq_t c19980
          refine At.enter rfl ?_
          refine r_iload_n e19930 ?_
          refine r_iconst (-1) rfl ?_
          refine r_ics 73 rfl (fun c19981 => ?_) (fun c19981 => ?_)
          · have c19981_ : x19918.toInt = (-1) := en_i_eq_t c19981
            refine At.enter rfl ?_
            refine r_aload_n e19927 ?_
            refine q_getI (Sh.int hI19963.1 kx_176 rfl) v19976 hv19976 ?_
            refine r_iconst (-1) rfl ?_
            refine r_ics 91 rfl (fun c19982 => ?_) (fun c19982 => ?_)
            · have c19982_ : v19976.toInt ≠ (-1) := en_i_ne_t c19982
              refine At.enter rfl ?_
              refine r_iconst (-1) rfl ?_
              refine Ar.fall 100 rfl ?_
              refine At.enter rfl ?_
              refine r_istore_n _ rfl ?_
              refine r_iload_n (w_e1 _ _ _) ?_
              refine r_iconst (-1) rfl ?_
              refine r_icf 106 rfl (by decide) ?_
              refine At.enter rfl ?_
              refine r_vret ?_
              have x19983 := rX.e hI19963 (b := 2) (hv19976)
              have x19984 := rX.e hI19963 (b := 4) (hv19978)
              obtain ⟨v19985, hv19985⟩ : ∃ v, gI g19962 176 6 = v := ⟨_, rfl⟩
              have tv19985 := congrArg Int32.toInt hv19985
              have x19986 := rX.e hI19963 (b := 6) (hv19985)
              obtain ⟨v19987, hv19987⟩ : ∃ v, gI g0 176 2 = v := ⟨_, rfl⟩
              have tv19987 := congrArg Int32.toInt hv19987
              have x19988 := rX.e hI0 (b := 2) (hv19987)
              have x19989 := rX.e hI0 (b := 4) (hv19943)
              have x19990 := rX.e hI19922 (b := 2) (hv19972)
              have x19991 := rX.e hI19922 (b := 4) (hv19946)
              exact ⟨_, rfl, hI19963, hF19967, rfl, ⟨o19968, (PRG0.tr q19938 (PRG0.tr o19969 (PRG0.eq rfl rfl))).le (by omega), LPI.end_ q19937 (OPD.join o19975 (by omega)) rfl rfl rfl, (fun hz => absurd hz (by omega))⟩⟩
            · have c19982_ : v19976.toInt = (-1) := en_i_ne_f c19982
              refine At.enter rfl ?_
              refine r_aload_n e19927 ?_
              refine r_iload_n e19928 ?_
              refine r_callV 96 rfl [.ref 176, .int a1] [] (Nat.le_of_ble_eq_true rfl) rfl (T_X5_joinHere_176 _ hI19963 a1 (by omega) o19968) ?_
              rintro _ _ ⟨g19992, rfl, hI19993, hF19994, v19995, rfl, hr19996⟩
              refine At.sti ?_
              have hF19997 := Fr.tr hF19967 hF19994 rfl rfl
              have hb19998 : BLN (JN a1.toInt (CDX g19962)) v19995.toInt := hr19996.2
              refine At.enter rfl ?_
              refine r_goto ?_
              refine At.enter rfl ?_
              refine r_istore_n _ rfl ?_
              refine r_iload_n (w_e1 _ _ _) ?_
              refine r_iconst (-1) rfl ?_
              refine r_ics 106 rfl (fun c19999 => ?_) (fun c19999 => ?_)
              · have c19999_ : v19995.toInt ≠ (-1) := en_i_ne_t c19999
                have i20000 := BLN.yes hb19998 (by omega)
                refine At.enter rfl ?_
                refine r_aload_n (w_p1 (by decide) (Or.inr rfl) e19927) ?_
                refine r_callV 111 rfl [.ref 176] [] (Nat.le_of_ble_eq_true rfl) rfl (T_X5_step_176 _ hI19993 (TKX.c o19968 ((hF19994.2.1 175 ma_X5_joinHere_176_175)) ((hF19994.1 174 1 mf_X5_joinHere_176_174_1)) ((hF19994.1 176 3 mf_X5_joinHere_176_176_3)) ((hF19994.1 176 4 mf_X5_joinHere_176_176_4)) ((hF19994.1 176 5 mf_X5_joinHere_176_176_5))).1 (TKX.c o19968 ((hF19994.2.1 175 ma_X5_joinHere_176_175)) ((hF19994.1 174 1 mf_X5_joinHere_176_174_1)) ((hF19994.1 176 3 mf_X5_joinHere_176_176_3)) ((hF19994.1 176 4 mf_X5_joinHere_176_176_4)) ((hF19994.1 176 5 mf_X5_joinHere_176_176_5))).2.1.le.2.1) ?_
                rintro _ _ ⟨g20001, rfl, hI20002, hF20003, rfl, hr20005⟩
                refine At.stn ?_
                have hF20006 := Fr.tr hF19997 hF20003 rfl rfl
                have tok20007_ := hr20005.2
                rw [TX.c ((hF19994.2.1 175 ma_X5_joinHere_176_175)), nX.c ((hF19994.1 174 1 mf_X5_joinHere_176_174_1)), rX.c (b := 5) ((hF19994.1 176 5 mf_X5_joinHere_176_176_5))] at tok20007_
                have tok20007 := TKX.tok o19968 tok20007_
                rw [TX.c (((hF19964.2.1 175 (by decide)).trans (hF19923.2.1 175 (by decide)))), nX.c (((hF19964.1 174 1 (by decide)).trans (hF19923.1 174 1 (by decide))))] at tok20007
                have hT20008 := hr20005.1
                have x20009 := rX.e hI19993 (b := 4) (((hF19994.1 176 4 mf_X5_joinHere_176_176_4).trans hv19978))
                obtain ⟨v20010, hv20010⟩ : ∃ v, gI g20001 176 4 = v := ⟨_, rfl⟩
                have rv20010 := RgF.at hI20002.2.1 (p := 176) (b := 4) rfl
                rw [hv20010] at rv20010
                dsimp only at rv20010
                have tv20010 := congrArg Int32.toInt hv20010
                have x20011 := rX.e hI20002 (b := 4) (hv20010)
                refine At.enter rfl ?_
                refine r_iload_n (w_p1 (by decide) (Or.inr rfl) e19928) ?_
                refine r_ifs 115 rfl (fun c20012 => ?_) (fun c20012 => ?_)
                · have c20012_ : a1.toInt = 0 := en_k_eq_t c20012
                  refine At.enter rfl ?_
                  refine r_aload_n (w_p1 (by decide) (Or.inr rfl) e19927) ?_
                  refine q_getR (Sh.ref hI20002.1 kx_176 rfl) ?_
                  refine r_iload_n (w_e1 _ _ _) ?_
                  refine r_iconst 0 rfl ?_
                  refine r_callV 129 rfl [.ref 177, .int v19995, .int 0] [] (Nat.le_of_ble_eq_true rfl) rfl (T_X4_add_177 _ hI20002 v19995 0) ?_
                  rintro _ _ ⟨g20013, rfl, hI20014, hF20015, v20016, rfl, hr20017⟩
                  refine At.sti ?_
                  have hF20018 := Fr.tr hF20006 hF20015 rfl rfl
                  refine At.enter rfl ?_
                  refine r_goto ?_
                  refine At.enter rfl ?_
                  refine r_istore _ rfl ?_
                  refine q_iinc (w_p1 (by decide) (Or.inr rfl) (w_p1 (by decide) (Or.inr rfl) e19932)) (x19920.toInt + 1) rfl (by omega) (fun v20019 hv20019 => ?_)
                  refine r_goto ?_
                  have x20020 := rX.e hI19922 (b := 4) (hv19946)
                  have x20021 := rX.e hI19963 (b := 2) (hv19976)
                  have x20022 := rX.e hI19963 (b := 4) (hv19978)
                  have x20023 := rX.e hI20002 (b := 4) (hv20010)
                  have x20024 := rX.e hI20014 (b := 4) (((hF20015.1 176 4 mf_X4_add_177_176_4).trans hv20010))
                  have y20025 := (o19969.2.2 (by omega)).2
                  have y20026 := ((PRG0.step o19968 tok20007_ (rX.c (b := 2) (((hF20003.1 176 2 mf_X5_step_176_176_2).trans (hF19994.1 176 2 mf_X5_joinHere_176_176_2)))) (JN.ne i20000)).2.2 (by rw [(rX.c (b := 2) (((hF20003.1 176 2 mf_X5_step_176_176_2).trans (hF19994.1 176 2 mf_X5_joinHere_176_176_2))))]; omega)).2
                  exact ih19926 (400 - v20019.toInt) _ _ ⟨v19995, v20016, v20019, by first | rfl | omega, hI20014, hF20018, (w_p1 (by decide) (Or.inr rfl) (w_p1 (by decide) (Or.inr rfl) (w_p1 (by decide) (Or.inr rfl) e19927))), (w_p1 (by decide) (Or.inr rfl) (w_p1 (by decide) (Or.inr rfl) (w_p1 (by decide) (Or.inr rfl) e19928))), (w_p1 (by decide) (Or.inr rfl) (w_p1 (by decide) (Or.inr rfl) (w_p1 (by decide) (Or.inr rfl) e19929))), (w_p1 (by decide) (Or.inr rfl) (w_p1 (by decide) (Or.inr rfl) (w_e1 _ _ _))), (w_p1 (by decide) (Or.inr rfl) (w_e1 _ _ _)), (w_e1 _ _ _), by omega, by omega, by omega, (TKX.c hT20008 ((hF20015.2.1 175 ma_X4_add_177_175)) ((hF20015.1 174 1 mf_X4_add_177_174_1)) ((hF20015.1 176 3 mf_X4_add_177_176_3)) ((hF20015.1 176 4 mf_X4_add_177_176_4)) ((hF20015.1 176 5 mf_X4_add_177_176_5))), (LPI.eq (LPI.next q19937 (OPD.join o19975 (by omega)) tok20007 i20000 ⟨by omega, by omega⟩ (rX.c (b := 2) (((hF20003.1 176 2 mf_X5_step_176_176_2).trans (hF19994.1 176 2 mf_X5_joinHere_176_176_2)))) (rX.c (b := 6) (((hF20003.1 176 6 mf_X5_step_176_176_6).trans (hF19994.1 176 6 mf_X5_joinHere_176_176_6))))) (rX.c (b := 2) ((hF20015.1 176 2 mf_X4_add_177_176_2))) (rX.c (b := 4) ((hF20015.1 176 4 mf_X4_add_177_176_4))) (rX.c (b := 6) ((hF20015.1 176 6 mf_X4_add_177_176_6)))), ((PRG0.tr q19938 (PRG0.tr o19969 (PRG0.tr (PRG0.step o19968 tok20007_ (rX.c (b := 2) (((hF20003.1 176 2 mf_X5_step_176_176_2).trans (hF19994.1 176 2 mf_X5_joinHere_176_176_2)))) (JN.ne i20000)) (PRG0.eq (rX.c (b := 4) ((hF20015.1 176 4 mf_X4_add_177_176_4))) (rX.c (b := 2) ((hF20015.1 176 2 mf_X4_add_177_176_2))))))).le (by omega)), by omega⟩ ⟨by omega, by omega⟩
                · have c20012_ : a1.toInt ≠ 0 := en_k_eq_f c20012
                  refine At.enter rfl ?_
                  refine r_iload_n (w_p1 (by decide) (Or.inr rfl) e19928) ?_
                  refine r_iconst 1 rfl ?_
                  refine r_ics 120 rfl (fun c20027 => ?_) (fun c20027 => ?_)
                  · have c20027_ : a1.toInt ≠ 1 := en_i_ne_t c20027
                    refine At.enter rfl ?_
                    refine r_iconst (-1) rfl ?_
                    refine Ar.fall 133 rfl ?_
                    refine At.enter rfl ?_
                    refine r_istore _ rfl ?_
                    refine q_iinc (w_p1 (by decide) (Or.inr rfl) (w_p1 (by decide) (Or.inr rfl) e19932)) (x19920.toInt + 1) rfl (by omega) (fun v20028 hv20028 => ?_)
                    refine r_goto ?_
                    have x20029 := rX.e hI19922 (b := 4) (hv19946)
                    have x20030 := rX.e hI19963 (b := 2) (hv19976)
                    have x20031 := rX.e hI19963 (b := 4) (hv19978)
                    have x20032 := rX.e hI20002 (b := 4) (hv20010)
                    have x20033 := rX.e hI20002 (b := 4) (hv20010)
                    have y20034 := (o19969.2.2 (by omega)).2
                    have y20035 := ((PRG0.step o19968 tok20007_ (rX.c (b := 2) (((hF20003.1 176 2 mf_X5_step_176_176_2).trans (hF19994.1 176 2 mf_X5_joinHere_176_176_2)))) (JN.ne i20000)).2.2 (by rw [(rX.c (b := 2) (((hF20003.1 176 2 mf_X5_step_176_176_2).trans (hF19994.1 176 2 mf_X5_joinHere_176_176_2))))]; omega)).2
                    exact ih19926 (400 - v20028.toInt) _ _ ⟨v19995, (-1), v20028, by first | rfl | omega, hI20002, hF20006, (w_p1 (by decide) (Or.inr rfl) (w_p1 (by decide) (Or.inr rfl) (w_p1 (by decide) (Or.inr rfl) e19927))), (w_p1 (by decide) (Or.inr rfl) (w_p1 (by decide) (Or.inr rfl) (w_p1 (by decide) (Or.inr rfl) e19928))), (w_p1 (by decide) (Or.inr rfl) (w_p1 (by decide) (Or.inr rfl) (w_p1 (by decide) (Or.inr rfl) e19929))), (w_p1 (by decide) (Or.inr rfl) (w_p1 (by decide) (Or.inr rfl) (w_e1 _ _ _))), (w_p1 (by decide) (Or.inr rfl) (w_e1 _ _ _)), (w_e1 _ _ _), by omega, by decide, by omega, hT20008, (LPI.eq (LPI.next q19937 (OPD.join o19975 (by omega)) tok20007 i20000 ⟨by omega, by omega⟩ (rX.c (b := 2) (((hF20003.1 176 2 mf_X5_step_176_176_2).trans (hF19994.1 176 2 mf_X5_joinHere_176_176_2)))) (rX.c (b := 6) (((hF20003.1 176 6 mf_X5_step_176_176_6).trans (hF19994.1 176 6 mf_X5_joinHere_176_176_6))))) rfl rfl rfl), ((PRG0.tr q19938 (PRG0.tr o19969 (PRG0.tr (PRG0.step o19968 tok20007_ (rX.c (b := 2) (((hF20003.1 176 2 mf_X5_step_176_176_2).trans (hF19994.1 176 2 mf_X5_joinHere_176_176_2)))) (JN.ne i20000)) (PRG0.eq rfl rfl)))).le (by omega)), by omega⟩ ⟨by omega, by omega⟩
                  · have c20027_ : a1.toInt = 1 := en_i_ne_f c20027
                    refine At.enter rfl ?_
                    refine r_aload_n (w_p1 (by decide) (Or.inr rfl) e19927) ?_
                    refine q_getR (Sh.ref hI20002.1 kx_176 rfl) ?_
                    refine r_iload_n (w_e1 _ _ _) ?_
                    refine r_iconst 0 rfl ?_
                    refine r_callV 129 rfl [.ref 177, .int v19995, .int 0] [] (Nat.le_of_ble_eq_true rfl) rfl (T_X4_add_177 _ hI20002 v19995 0) ?_
                    rintro _ _ ⟨g20036, rfl, hI20037, hF20038, v20039, rfl, hr20040⟩
                    refine At.sti ?_
                    have hF20041 := Fr.tr hF20006 hF20038 rfl rfl
                    refine At.enter rfl ?_
                    refine r_goto ?_
                    refine At.enter rfl ?_
                    refine r_istore _ rfl ?_
                    refine q_iinc (w_p1 (by decide) (Or.inr rfl) (w_p1 (by decide) (Or.inr rfl) e19932)) (x19920.toInt + 1) rfl (by omega) (fun v20042 hv20042 => ?_)
                    refine r_goto ?_
                    have x20043 := rX.e hI19922 (b := 4) (hv19946)
                    have x20044 := rX.e hI19963 (b := 2) (hv19976)
                    have x20045 := rX.e hI19963 (b := 4) (hv19978)
                    have x20046 := rX.e hI20002 (b := 4) (hv20010)
                    have x20047 := rX.e hI20037 (b := 4) (((hF20038.1 176 4 mf_X4_add_177_176_4).trans hv20010))
                    have y20048 := (o19969.2.2 (by omega)).2
                    have y20049 := ((PRG0.step o19968 tok20007_ (rX.c (b := 2) (((hF20003.1 176 2 mf_X5_step_176_176_2).trans (hF19994.1 176 2 mf_X5_joinHere_176_176_2)))) (JN.ne i20000)).2.2 (by rw [(rX.c (b := 2) (((hF20003.1 176 2 mf_X5_step_176_176_2).trans (hF19994.1 176 2 mf_X5_joinHere_176_176_2))))]; omega)).2
                    exact ih19926 (400 - v20042.toInt) _ _ ⟨v19995, v20039, v20042, by first | rfl | omega, hI20037, hF20041, (w_p1 (by decide) (Or.inr rfl) (w_p1 (by decide) (Or.inr rfl) (w_p1 (by decide) (Or.inr rfl) e19927))), (w_p1 (by decide) (Or.inr rfl) (w_p1 (by decide) (Or.inr rfl) (w_p1 (by decide) (Or.inr rfl) e19928))), (w_p1 (by decide) (Or.inr rfl) (w_p1 (by decide) (Or.inr rfl) (w_p1 (by decide) (Or.inr rfl) e19929))), (w_p1 (by decide) (Or.inr rfl) (w_p1 (by decide) (Or.inr rfl) (w_e1 _ _ _))), (w_p1 (by decide) (Or.inr rfl) (w_e1 _ _ _)), (w_e1 _ _ _), by omega, by omega, by omega, (TKX.c hT20008 ((hF20038.2.1 175 ma_X4_add_177_175)) ((hF20038.1 174 1 mf_X4_add_177_174_1)) ((hF20038.1 176 3 mf_X4_add_177_176_3)) ((hF20038.1 176 4 mf_X4_add_177_176_4)) ((hF20038.1 176 5 mf_X4_add_177_176_5))), (LPI.eq (LPI.next q19937 (OPD.join o19975 (by omega)) tok20007 i20000 ⟨by omega, by omega⟩ (rX.c (b := 2) (((hF20003.1 176 2 mf_X5_step_176_176_2).trans (hF19994.1 176 2 mf_X5_joinHere_176_176_2)))) (rX.c (b := 6) (((hF20003.1 176 6 mf_X5_step_176_176_6).trans (hF19994.1 176 6 mf_X5_joinHere_176_176_6))))) (rX.c (b := 2) ((hF20038.1 176 2 mf_X4_add_177_176_2))) (rX.c (b := 4) ((hF20038.1 176 4 mf_X4_add_177_176_4))) (rX.c (b := 6) ((hF20038.1 176 6 mf_X4_add_177_176_6)))), ((PRG0.tr q19938 (PRG0.tr o19969 (PRG0.tr (PRG0.step o19968 tok20007_ (rX.c (b := 2) (((hF20003.1 176 2 mf_X5_step_176_176_2).trans (hF19994.1 176 2 mf_X5_joinHere_176_176_2)))) (JN.ne i20000)) (PRG0.eq (rX.c (b := 4) ((hF20038.1 176 4 mf_X4_add_177_176_4))) (rX.c (b := 2) ((hF20038.1 176 2 mf_X4_add_177_176_2))))))).le (by omega)), by omega⟩ ⟨by omega, by omega⟩
              · have c19999_ : v19995.toInt = (-1) := en_i_ne_f c19999
                have i20050 := BLN.no hb19998 (by omega)
                refine At.enter rfl ?_
                refine r_vret ?_
                have x20051 := rX.e hI19993 (b := 2) (((hF19994.1 176 2 mf_X5_joinHere_176_176_2).trans hv19976))
                have x20052 := rX.e hI19993 (b := 4) (((hF19994.1 176 4 mf_X5_joinHere_176_176_4).trans hv19978))
                obtain ⟨v20053, hv20053⟩ : ∃ v, gI g19962 176 6 = v := ⟨_, rfl⟩
                have tv20053 := congrArg Int32.toInt hv20053
                have x20054 := rX.e hI19993 (b := 6) (((hF19994.1 176 6 mf_X5_joinHere_176_176_6).trans hv20053))
                obtain ⟨v20055, hv20055⟩ : ∃ v, gI g0 176 2 = v := ⟨_, rfl⟩
                have tv20055 := congrArg Int32.toInt hv20055
                have x20056 := rX.e hI0 (b := 2) (hv20055)
                have x20057 := rX.e hI0 (b := 4) (hv19943)
                have x20058 := rX.e hI19922 (b := 2) (hv19972)
                have x20059 := rX.e hI19922 (b := 4) (hv19946)
                exact ⟨_, rfl, hI19993, hF19997, rfl, ⟨(TKX.c o19968 ((hF19994.2.1 175 ma_X5_joinHere_176_175)) ((hF19994.1 174 1 mf_X5_joinHere_176_174_1)) ((hF19994.1 176 3 mf_X5_joinHere_176_176_3)) ((hF19994.1 176 4 mf_X5_joinHere_176_176_4)) ((hF19994.1 176 5 mf_X5_joinHere_176_176_5))), (PRG0.tr q19938 (PRG0.tr o19969 (PRG0.eq (rX.c (b := 4) ((hF19994.1 176 4 mf_X5_joinHere_176_176_4))) (rX.c (b := 2) ((hF19994.1 176 2 mf_X5_joinHere_176_176_2)))))).le (by omega), LPI.end_ q19937 (OPD.join o19975 (by omega)) (rX.c (b := 2) ((hF19994.1 176 2 mf_X5_joinHere_176_176_2))) (rX.c (b := 4) ((hF19994.1 176 4 mf_X5_joinHere_176_176_4))) (rX.c (b := 6) ((hF19994.1 176 6 mf_X5_joinHere_176_176_6))), (fun hz => (by rw [CDX.c ((hF19994.2.1 175 ma_X5_joinHere_176_175)) ((hF19994.1 176 3 mf_X5_joinHere_176_176_3)) ((hF19994.1 176 4 mf_X5_joinHere_176_176_4)) ((hF19994.1 176 5 mf_X5_joinHere_176_176_5))]; exact NJ.mk (o19971 (by omega)) (by omega) i20050))⟩⟩
          · have c19981_ : x19918.toInt ≠ (-1) := en_i_eq_f c19981
            refine At.enter rfl ?_
            refine r_aload_n e19927 ?_
            refine q_getR (Sh.ref hI19963.1 kx_176 rfl) ?_
            refine r_iload_n e19930 ?_
            refine r_iconst 0 rfl ?_
            refine r_callV 82 rfl [.ref 177, .int x19918, .int 0] [] (Nat.le_of_ble_eq_true rfl) rfl (T_X4_add_177 _ hI19963 x19918 0) ?_
            rintro _ _ ⟨g20060, rfl, hI20061, hF20062, v20063, rfl, hr20064⟩
            refine At.sti ?_
            have hF20065 := Fr.tr hF19967 hF20062 rfl rfl
            refine At.enter rfl ?_
            refine r_pop rfl ?_
            refine Ar.fall 83 rfl ?_
            refine At.enter rfl ?_
            refine r_aload_n e19927 ?_
            refine q_getI (Sh.int hI20061.1 kx_176 rfl) v19976 ((hF20062.1 176 2 mf_X4_add_177_176_2).trans hv19976) ?_
            refine r_iconst (-1) rfl ?_
            refine r_ics 91 rfl (fun c20066 => ?_) (fun c20066 => ?_)
            · have c20066_ : v19976.toInt ≠ (-1) := en_i_ne_t c20066
              refine At.enter rfl ?_
              refine r_iconst (-1) rfl ?_
              refine Ar.fall 100 rfl ?_
              refine At.enter rfl ?_
              refine r_istore_n _ rfl ?_
              refine r_iload_n (w_e1 _ _ _) ?_
              refine r_iconst (-1) rfl ?_
              refine r_icf 106 rfl (by decide) ?_
              refine At.enter rfl ?_
              refine r_vret ?_
              have x20067 := rX.e hI20061 (b := 2) (((hF20062.1 176 2 mf_X4_add_177_176_2).trans hv19976))
              have x20068 := rX.e hI20061 (b := 4) (((hF20062.1 176 4 mf_X4_add_177_176_4).trans hv19978))
              obtain ⟨v20069, hv20069⟩ : ∃ v, gI g19962 176 6 = v := ⟨_, rfl⟩
              have tv20069 := congrArg Int32.toInt hv20069
              have x20070 := rX.e hI20061 (b := 6) (((hF20062.1 176 6 mf_X4_add_177_176_6).trans hv20069))
              obtain ⟨v20071, hv20071⟩ : ∃ v, gI g0 176 2 = v := ⟨_, rfl⟩
              have tv20071 := congrArg Int32.toInt hv20071
              have x20072 := rX.e hI0 (b := 2) (hv20071)
              have x20073 := rX.e hI0 (b := 4) (hv19943)
              have x20074 := rX.e hI19922 (b := 2) (hv19972)
              have x20075 := rX.e hI19922 (b := 4) (hv19946)
              exact ⟨_, rfl, hI20061, hF20065, rfl, ⟨(TKX.c o19968 ((hF20062.2.1 175 ma_X4_add_177_175)) ((hF20062.1 174 1 mf_X4_add_177_174_1)) ((hF20062.1 176 3 mf_X4_add_177_176_3)) ((hF20062.1 176 4 mf_X4_add_177_176_4)) ((hF20062.1 176 5 mf_X4_add_177_176_5))), (PRG0.tr q19938 (PRG0.tr o19969 (PRG0.eq (rX.c (b := 4) ((hF20062.1 176 4 mf_X4_add_177_176_4))) (rX.c (b := 2) ((hF20062.1 176 2 mf_X4_add_177_176_2)))))).le (by omega), LPI.end_ q19937 (OPD.join o19975 (by omega)) (rX.c (b := 2) ((hF20062.1 176 2 mf_X4_add_177_176_2))) (rX.c (b := 4) ((hF20062.1 176 4 mf_X4_add_177_176_4))) (rX.c (b := 6) ((hF20062.1 176 6 mf_X4_add_177_176_6))), (fun hz => absurd hz (by omega))⟩⟩
            · have c20066_ : v19976.toInt = (-1) := en_i_ne_f c20066
              refine At.enter rfl ?_
              refine r_aload_n e19927 ?_
              refine r_iload_n e19928 ?_
              refine r_callV 96 rfl [.ref 176, .int a1] [] (Nat.le_of_ble_eq_true rfl) rfl (T_X5_joinHere_176 _ hI20061 a1 (by omega) (TKX.c o19968 ((hF20062.2.1 175 ma_X4_add_177_175)) ((hF20062.1 174 1 mf_X4_add_177_174_1)) ((hF20062.1 176 3 mf_X4_add_177_176_3)) ((hF20062.1 176 4 mf_X4_add_177_176_4)) ((hF20062.1 176 5 mf_X4_add_177_176_5)))) ?_
              rintro _ _ ⟨g20076, rfl, hI20077, hF20078, v20079, rfl, hr20080⟩
              refine At.sti ?_
              have hF20081 := Fr.tr hF20065 hF20078 rfl rfl
              have hb20082 : BLN (JN a1.toInt (CDX g19962)) v20079.toInt := by have z := hr20080.2; rw [CDX.c ((hF20062.2.1 175 ma_X4_add_177_175)) ((hF20062.1 176 3 mf_X4_add_177_176_3)) ((hF20062.1 176 4 mf_X4_add_177_176_4)) ((hF20062.1 176 5 mf_X4_add_177_176_5))] at z; exact z
              refine At.enter rfl ?_
              refine r_goto ?_
              refine At.enter rfl ?_
              refine r_istore_n _ rfl ?_
              refine r_iload_n (w_e1 _ _ _) ?_
              refine r_iconst (-1) rfl ?_
              refine r_ics 106 rfl (fun c20083 => ?_) (fun c20083 => ?_)
              · have c20083_ : v20079.toInt ≠ (-1) := en_i_ne_t c20083
                have i20084 := BLN.yes hb20082 (by omega)
                refine At.enter rfl ?_
                refine r_aload_n (w_p1 (by decide) (Or.inr rfl) e19927) ?_
                refine r_callV 111 rfl [.ref 176] [] (Nat.le_of_ble_eq_true rfl) rfl (T_X5_step_176 _ hI20077 (TKX.c o19968 (((hF20078.2.1 175 ma_X5_joinHere_176_175).trans (hF20062.2.1 175 ma_X4_add_177_175))) (((hF20078.1 174 1 mf_X5_joinHere_176_174_1).trans (hF20062.1 174 1 mf_X4_add_177_174_1))) (((hF20078.1 176 3 mf_X5_joinHere_176_176_3).trans (hF20062.1 176 3 mf_X4_add_177_176_3))) (((hF20078.1 176 4 mf_X5_joinHere_176_176_4).trans (hF20062.1 176 4 mf_X4_add_177_176_4))) (((hF20078.1 176 5 mf_X5_joinHere_176_176_5).trans (hF20062.1 176 5 mf_X4_add_177_176_5)))).1 (TKX.c o19968 (((hF20078.2.1 175 ma_X5_joinHere_176_175).trans (hF20062.2.1 175 ma_X4_add_177_175))) (((hF20078.1 174 1 mf_X5_joinHere_176_174_1).trans (hF20062.1 174 1 mf_X4_add_177_174_1))) (((hF20078.1 176 3 mf_X5_joinHere_176_176_3).trans (hF20062.1 176 3 mf_X4_add_177_176_3))) (((hF20078.1 176 4 mf_X5_joinHere_176_176_4).trans (hF20062.1 176 4 mf_X4_add_177_176_4))) (((hF20078.1 176 5 mf_X5_joinHere_176_176_5).trans (hF20062.1 176 5 mf_X4_add_177_176_5)))).2.1.le.2.1) ?_
                rintro _ _ ⟨g20085, rfl, hI20086, hF20087, rfl, hr20089⟩
                refine At.stn ?_
                have hF20090 := Fr.tr hF20081 hF20087 rfl rfl
                have tok20091_ := hr20089.2
                rw [TX.c (((hF20078.2.1 175 ma_X5_joinHere_176_175).trans (hF20062.2.1 175 ma_X4_add_177_175))), nX.c (((hF20078.1 174 1 mf_X5_joinHere_176_174_1).trans (hF20062.1 174 1 mf_X4_add_177_174_1))), rX.c (b := 5) (((hF20078.1 176 5 mf_X5_joinHere_176_176_5).trans (hF20062.1 176 5 mf_X4_add_177_176_5)))] at tok20091_
                have tok20091 := TKX.tok o19968 tok20091_
                rw [TX.c (((hF19964.2.1 175 (by decide)).trans (hF19923.2.1 175 (by decide)))), nX.c (((hF19964.1 174 1 (by decide)).trans (hF19923.1 174 1 (by decide))))] at tok20091
                have hT20092 := hr20089.1
                have x20093 := rX.e hI20077 (b := 4) ((((hF20078.1 176 4 mf_X5_joinHere_176_176_4).trans (hF20062.1 176 4 mf_X4_add_177_176_4)).trans hv19978))
                obtain ⟨v20094, hv20094⟩ : ∃ v, gI g20085 176 4 = v := ⟨_, rfl⟩
                have rv20094 := RgF.at hI20086.2.1 (p := 176) (b := 4) rfl
                rw [hv20094] at rv20094
                dsimp only at rv20094
                have tv20094 := congrArg Int32.toInt hv20094
                have x20095 := rX.e hI20086 (b := 4) (hv20094)
                refine At.enter rfl ?_
                refine r_iload_n (w_p1 (by decide) (Or.inr rfl) e19928) ?_
                refine r_ifs 115 rfl (fun c20096 => ?_) (fun c20096 => ?_)
                · have c20096_ : a1.toInt = 0 := en_k_eq_t c20096
                  refine At.enter rfl ?_
                  refine r_aload_n (w_p1 (by decide) (Or.inr rfl) e19927) ?_
                  refine q_getR (Sh.ref hI20086.1 kx_176 rfl) ?_
                  refine r_iload_n (w_e1 _ _ _) ?_
                  refine r_iconst 0 rfl ?_
                  refine r_callV 129 rfl [.ref 177, .int v20079, .int 0] [] (Nat.le_of_ble_eq_true rfl) rfl (T_X4_add_177 _ hI20086 v20079 0) ?_
                  rintro _ _ ⟨g20097, rfl, hI20098, hF20099, v20100, rfl, hr20101⟩
                  refine At.sti ?_
                  have hF20102 := Fr.tr hF20090 hF20099 rfl rfl
                  refine At.enter rfl ?_
                  refine r_goto ?_
                  refine At.enter rfl ?_
                  refine r_istore _ rfl ?_
                  refine q_iinc (w_p1 (by decide) (Or.inr rfl) (w_p1 (by decide) (Or.inr rfl) e19932)) (x19920.toInt + 1) rfl (by omega) (fun v20103 hv20103 => ?_)
                  refine r_goto ?_
                  have x20104 := rX.e hI19922 (b := 4) (hv19946)
                  have x20105 := rX.e hI19963 (b := 2) (hv19976)
                  have x20106 := rX.e hI19963 (b := 4) (hv19978)
                  have x20107 := rX.e hI20086 (b := 4) (hv20094)
                  have x20108 := rX.e hI20098 (b := 4) (((hF20099.1 176 4 mf_X4_add_177_176_4).trans hv20094))
                  have y20109 := (o19969.2.2 (by omega)).2
                  have y20110 := ((PRG0.step o19968 tok20091_ (rX.c (b := 2) (((hF20087.1 176 2 mf_X5_step_176_176_2).trans ((hF20078.1 176 2 mf_X5_joinHere_176_176_2).trans (hF20062.1 176 2 mf_X4_add_177_176_2))))) (JN.ne i20084)).2.2 (by rw [(rX.c (b := 2) (((hF20087.1 176 2 mf_X5_step_176_176_2).trans ((hF20078.1 176 2 mf_X5_joinHere_176_176_2).trans (hF20062.1 176 2 mf_X4_add_177_176_2)))))]; omega)).2
                  exact ih19926 (400 - v20103.toInt) _ _ ⟨v20079, v20100, v20103, by first | rfl | omega, hI20098, hF20102, (w_p1 (by decide) (Or.inr rfl) (w_p1 (by decide) (Or.inr rfl) (w_p1 (by decide) (Or.inr rfl) e19927))), (w_p1 (by decide) (Or.inr rfl) (w_p1 (by decide) (Or.inr rfl) (w_p1 (by decide) (Or.inr rfl) e19928))), (w_p1 (by decide) (Or.inr rfl) (w_p1 (by decide) (Or.inr rfl) (w_p1 (by decide) (Or.inr rfl) e19929))), (w_p1 (by decide) (Or.inr rfl) (w_p1 (by decide) (Or.inr rfl) (w_e1 _ _ _))), (w_p1 (by decide) (Or.inr rfl) (w_e1 _ _ _)), (w_e1 _ _ _), by omega, by omega, by omega, (TKX.c hT20092 ((hF20099.2.1 175 ma_X4_add_177_175)) ((hF20099.1 174 1 mf_X4_add_177_174_1)) ((hF20099.1 176 3 mf_X4_add_177_176_3)) ((hF20099.1 176 4 mf_X4_add_177_176_4)) ((hF20099.1 176 5 mf_X4_add_177_176_5))), (LPI.eq (LPI.next q19937 (OPD.join o19975 (by omega)) tok20091 i20084 ⟨by omega, by omega⟩ (rX.c (b := 2) (((hF20087.1 176 2 mf_X5_step_176_176_2).trans ((hF20078.1 176 2 mf_X5_joinHere_176_176_2).trans (hF20062.1 176 2 mf_X4_add_177_176_2))))) (rX.c (b := 6) (((hF20087.1 176 6 mf_X5_step_176_176_6).trans ((hF20078.1 176 6 mf_X5_joinHere_176_176_6).trans (hF20062.1 176 6 mf_X4_add_177_176_6)))))) (rX.c (b := 2) ((hF20099.1 176 2 mf_X4_add_177_176_2))) (rX.c (b := 4) ((hF20099.1 176 4 mf_X4_add_177_176_4))) (rX.c (b := 6) ((hF20099.1 176 6 mf_X4_add_177_176_6)))), ((PRG0.tr q19938 (PRG0.tr o19969 (PRG0.tr (PRG0.step o19968 tok20091_ (rX.c (b := 2) (((hF20087.1 176 2 mf_X5_step_176_176_2).trans ((hF20078.1 176 2 mf_X5_joinHere_176_176_2).trans (hF20062.1 176 2 mf_X4_add_177_176_2))))) (JN.ne i20084)) (PRG0.eq (rX.c (b := 4) ((hF20099.1 176 4 mf_X4_add_177_176_4))) (rX.c (b := 2) ((hF20099.1 176 2 mf_X4_add_177_176_2))))))).le (by omega)), by omega⟩ ⟨by omega, by omega⟩
                · have c20096_ : a1.toInt ≠ 0 := en_k_eq_f c20096
                  refine At.enter rfl ?_
                  refine r_iload_n (w_p1 (by decide) (Or.inr rfl) e19928) ?_
                  refine r_iconst 1 rfl ?_
                  refine r_ics 120 rfl (fun c20111 => ?_) (fun c20111 => ?_)
                  · have c20111_ : a1.toInt ≠ 1 := en_i_ne_t c20111
                    refine At.enter rfl ?_
                    refine r_iconst (-1) rfl ?_
                    refine Ar.fall 133 rfl ?_
                    refine At.enter rfl ?_
                    refine r_istore _ rfl ?_
                    refine q_iinc (w_p1 (by decide) (Or.inr rfl) (w_p1 (by decide) (Or.inr rfl) e19932)) (x19920.toInt + 1) rfl (by omega) (fun v20112 hv20112 => ?_)
                    refine r_goto ?_
                    have x20113 := rX.e hI19922 (b := 4) (hv19946)
                    have x20114 := rX.e hI19963 (b := 2) (hv19976)
                    have x20115 := rX.e hI19963 (b := 4) (hv19978)
                    have x20116 := rX.e hI20086 (b := 4) (hv20094)
                    have x20117 := rX.e hI20086 (b := 4) (hv20094)
                    have y20118 := (o19969.2.2 (by omega)).2
                    have y20119 := ((PRG0.step o19968 tok20091_ (rX.c (b := 2) (((hF20087.1 176 2 mf_X5_step_176_176_2).trans ((hF20078.1 176 2 mf_X5_joinHere_176_176_2).trans (hF20062.1 176 2 mf_X4_add_177_176_2))))) (JN.ne i20084)).2.2 (by rw [(rX.c (b := 2) (((hF20087.1 176 2 mf_X5_step_176_176_2).trans ((hF20078.1 176 2 mf_X5_joinHere_176_176_2).trans (hF20062.1 176 2 mf_X4_add_177_176_2)))))]; omega)).2
                    exact ih19926 (400 - v20112.toInt) _ _ ⟨v20079, (-1), v20112, by first | rfl | omega, hI20086, hF20090, (w_p1 (by decide) (Or.inr rfl) (w_p1 (by decide) (Or.inr rfl) (w_p1 (by decide) (Or.inr rfl) e19927))), (w_p1 (by decide) (Or.inr rfl) (w_p1 (by decide) (Or.inr rfl) (w_p1 (by decide) (Or.inr rfl) e19928))), (w_p1 (by decide) (Or.inr rfl) (w_p1 (by decide) (Or.inr rfl) (w_p1 (by decide) (Or.inr rfl) e19929))), (w_p1 (by decide) (Or.inr rfl) (w_p1 (by decide) (Or.inr rfl) (w_e1 _ _ _))), (w_p1 (by decide) (Or.inr rfl) (w_e1 _ _ _)), (w_e1 _ _ _), by omega, by decide, by omega, hT20092, (LPI.eq (LPI.next q19937 (OPD.join o19975 (by omega)) tok20091 i20084 ⟨by omega, by omega⟩ (rX.c (b := 2) (((hF20087.1 176 2 mf_X5_step_176_176_2).trans ((hF20078.1 176 2 mf_X5_joinHere_176_176_2).trans (hF20062.1 176 2 mf_X4_add_177_176_2))))) (rX.c (b := 6) (((hF20087.1 176 6 mf_X5_step_176_176_6).trans ((hF20078.1 176 6 mf_X5_joinHere_176_176_6).trans (hF20062.1 176 6 mf_X4_add_177_176_6)))))) rfl rfl rfl), ((PRG0.tr q19938 (PRG0.tr o19969 (PRG0.tr (PRG0.step o19968 tok20091_ (rX.c (b := 2) (((hF20087.1 176 2 mf_X5_step_176_176_2).trans ((hF20078.1 176 2 mf_X5_joinHere_176_176_2).trans (hF20062.1 176 2 mf_X4_add_177_176_2))))) (JN.ne i20084)) (PRG0.eq rfl rfl)))).le (by omega)), by omega⟩ ⟨by omega, by omega⟩
                  · have c20111_ : a1.toInt = 1 := en_i_ne_f c20111
                    refine At.enter rfl ?_
                    refine r_aload_n (w_p1 (by decide) (Or.inr rfl) e19927) ?_
                    refine q_getR (Sh.ref hI20086.1 kx_176 rfl) ?_
                    refine r_iload_n (w_e1 _ _ _) ?_
                    refine r_iconst 0 rfl ?_
                    refine r_callV 129 rfl [.ref 177, .int v20079, .int 0] [] (Nat.le_of_ble_eq_true rfl) rfl (T_X4_add_177 _ hI20086 v20079 0) ?_
                    rintro _ _ ⟨g20120, rfl, hI20121, hF20122, v20123, rfl, hr20124⟩
                    refine At.sti ?_
                    have hF20125 := Fr.tr hF20090 hF20122 rfl rfl
                    refine At.enter rfl ?_
                    refine r_goto ?_
                    refine At.enter rfl ?_
                    refine r_istore _ rfl ?_
                    refine q_iinc (w_p1 (by decide) (Or.inr rfl) (w_p1 (by decide) (Or.inr rfl) e19932)) (x19920.toInt + 1) rfl (by omega) (fun v20126 hv20126 => ?_)
                    refine r_goto ?_
                    have x20127 := rX.e hI19922 (b := 4) (hv19946)
                    have x20128 := rX.e hI19963 (b := 2) (hv19976)
                    have x20129 := rX.e hI19963 (b := 4) (hv19978)
                    have x20130 := rX.e hI20086 (b := 4) (hv20094)
                    have x20131 := rX.e hI20121 (b := 4) (((hF20122.1 176 4 mf_X4_add_177_176_4).trans hv20094))
                    have y20132 := (o19969.2.2 (by omega)).2
                    have y20133 := ((PRG0.step o19968 tok20091_ (rX.c (b := 2) (((hF20087.1 176 2 mf_X5_step_176_176_2).trans ((hF20078.1 176 2 mf_X5_joinHere_176_176_2).trans (hF20062.1 176 2 mf_X4_add_177_176_2))))) (JN.ne i20084)).2.2 (by rw [(rX.c (b := 2) (((hF20087.1 176 2 mf_X5_step_176_176_2).trans ((hF20078.1 176 2 mf_X5_joinHere_176_176_2).trans (hF20062.1 176 2 mf_X4_add_177_176_2)))))]; omega)).2
                    exact ih19926 (400 - v20126.toInt) _ _ ⟨v20079, v20123, v20126, by first | rfl | omega, hI20121, hF20125, (w_p1 (by decide) (Or.inr rfl) (w_p1 (by decide) (Or.inr rfl) (w_p1 (by decide) (Or.inr rfl) e19927))), (w_p1 (by decide) (Or.inr rfl) (w_p1 (by decide) (Or.inr rfl) (w_p1 (by decide) (Or.inr rfl) e19928))), (w_p1 (by decide) (Or.inr rfl) (w_p1 (by decide) (Or.inr rfl) (w_p1 (by decide) (Or.inr rfl) e19929))), (w_p1 (by decide) (Or.inr rfl) (w_p1 (by decide) (Or.inr rfl) (w_e1 _ _ _))), (w_p1 (by decide) (Or.inr rfl) (w_e1 _ _ _)), (w_e1 _ _ _), by omega, by omega, by omega, (TKX.c hT20092 ((hF20122.2.1 175 ma_X4_add_177_175)) ((hF20122.1 174 1 mf_X4_add_177_174_1)) ((hF20122.1 176 3 mf_X4_add_177_176_3)) ((hF20122.1 176 4 mf_X4_add_177_176_4)) ((hF20122.1 176 5 mf_X4_add_177_176_5))), (LPI.eq (LPI.next q19937 (OPD.join o19975 (by omega)) tok20091 i20084 ⟨by omega, by omega⟩ (rX.c (b := 2) (((hF20087.1 176 2 mf_X5_step_176_176_2).trans ((hF20078.1 176 2 mf_X5_joinHere_176_176_2).trans (hF20062.1 176 2 mf_X4_add_177_176_2))))) (rX.c (b := 6) (((hF20087.1 176 6 mf_X5_step_176_176_6).trans ((hF20078.1 176 6 mf_X5_joinHere_176_176_6).trans (hF20062.1 176 6 mf_X4_add_177_176_6)))))) (rX.c (b := 2) ((hF20122.1 176 2 mf_X4_add_177_176_2))) (rX.c (b := 4) ((hF20122.1 176 4 mf_X4_add_177_176_4))) (rX.c (b := 6) ((hF20122.1 176 6 mf_X4_add_177_176_6)))), ((PRG0.tr q19938 (PRG0.tr o19969 (PRG0.tr (PRG0.step o19968 tok20091_ (rX.c (b := 2) (((hF20087.1 176 2 mf_X5_step_176_176_2).trans ((hF20078.1 176 2 mf_X5_joinHere_176_176_2).trans (hF20062.1 176 2 mf_X4_add_177_176_2))))) (JN.ne i20084)) (PRG0.eq (rX.c (b := 4) ((hF20122.1 176 4 mf_X4_add_177_176_4))) (rX.c (b := 2) ((hF20122.1 176 2 mf_X4_add_177_176_2))))))).le (by omega)), by omega⟩ ⟨by omega, by omega⟩
              · have c20083_ : v20079.toInt = (-1) := en_i_ne_f c20083
                have i20134 := BLN.no hb20082 (by omega)
                refine At.enter rfl ?_
                refine r_vret ?_
                have x20135 := rX.e hI20077 (b := 2) ((((hF20078.1 176 2 mf_X5_joinHere_176_176_2).trans (hF20062.1 176 2 mf_X4_add_177_176_2)).trans hv19976))
                have x20136 := rX.e hI20077 (b := 4) ((((hF20078.1 176 4 mf_X5_joinHere_176_176_4).trans (hF20062.1 176 4 mf_X4_add_177_176_4)).trans hv19978))
                obtain ⟨v20137, hv20137⟩ : ∃ v, gI g19962 176 6 = v := ⟨_, rfl⟩
                have tv20137 := congrArg Int32.toInt hv20137
                have x20138 := rX.e hI20077 (b := 6) ((((hF20078.1 176 6 mf_X5_joinHere_176_176_6).trans (hF20062.1 176 6 mf_X4_add_177_176_6)).trans hv20137))
                obtain ⟨v20139, hv20139⟩ : ∃ v, gI g0 176 2 = v := ⟨_, rfl⟩
                have tv20139 := congrArg Int32.toInt hv20139
                have x20140 := rX.e hI0 (b := 2) (hv20139)
                have x20141 := rX.e hI0 (b := 4) (hv19943)
                have x20142 := rX.e hI19922 (b := 2) (hv19972)
                have x20143 := rX.e hI19922 (b := 4) (hv19946)
                exact ⟨_, rfl, hI20077, hF20081, rfl, ⟨(TKX.c o19968 (((hF20078.2.1 175 ma_X5_joinHere_176_175).trans (hF20062.2.1 175 ma_X4_add_177_175))) (((hF20078.1 174 1 mf_X5_joinHere_176_174_1).trans (hF20062.1 174 1 mf_X4_add_177_174_1))) (((hF20078.1 176 3 mf_X5_joinHere_176_176_3).trans (hF20062.1 176 3 mf_X4_add_177_176_3))) (((hF20078.1 176 4 mf_X5_joinHere_176_176_4).trans (hF20062.1 176 4 mf_X4_add_177_176_4))) (((hF20078.1 176 5 mf_X5_joinHere_176_176_5).trans (hF20062.1 176 5 mf_X4_add_177_176_5)))), (PRG0.tr q19938 (PRG0.tr o19969 (PRG0.eq (rX.c (b := 4) (((hF20078.1 176 4 mf_X5_joinHere_176_176_4).trans (hF20062.1 176 4 mf_X4_add_177_176_4)))) (rX.c (b := 2) (((hF20078.1 176 2 mf_X5_joinHere_176_176_2).trans (hF20062.1 176 2 mf_X4_add_177_176_2))))))).le (by omega), LPI.end_ q19937 (OPD.join o19975 (by omega)) (rX.c (b := 2) (((hF20078.1 176 2 mf_X5_joinHere_176_176_2).trans (hF20062.1 176 2 mf_X4_add_177_176_2)))) (rX.c (b := 4) (((hF20078.1 176 4 mf_X5_joinHere_176_176_4).trans (hF20062.1 176 4 mf_X4_add_177_176_4)))) (rX.c (b := 6) (((hF20078.1 176 6 mf_X5_joinHere_176_176_6).trans (hF20062.1 176 6 mf_X4_add_177_176_6)))), (fun hz => (by rw [CDX.c (((hF20078.2.1 175 ma_X5_joinHere_176_175).trans (hF20062.2.1 175 ma_X4_add_177_175))) (((hF20078.1 176 3 mf_X5_joinHere_176_176_3).trans (hF20062.1 176 3 mf_X4_add_177_176_3))) (((hF20078.1 176 4 mf_X5_joinHere_176_176_4).trans (hF20062.1 176 4 mf_X4_add_177_176_4))) (((hF20078.1 176 5 mf_X5_joinHere_176_176_5).trans (hF20062.1 176 5 mf_X4_add_177_176_5)))]; exact NJ.mk (o19971 (by omega)) (by omega) i20134))⟩⟩
        · have c19980_ : x19919.toInt ≠ (-1) := en_i_eq_f c19980
          refine At.enter rfl ?_
          refine r_aload_n e19927 ?_
          refine q_getR (Sh.ref hI19963.1 kx_176 rfl) ?_
          refine r_iload e19931 ?_
          refine r_callV 65 rfl [.ref 177, .int x19919] [] (Nat.le_of_ble_eq_true rfl) rfl (T_X4_aimAtEnd_177 _ hI19963 x19919) ?_
          rintro _ _ ⟨g20144, rfl, hI20145, hF20146, rfl⟩
          refine At.stn ?_
          have hF20149 := Fr.tr hF19967 hF20146 rfl rfl
          refine At.enter rfl ?_
          refine r_goto ?_
          refine At.enter rfl ?_
          refine r_aload_n e19927 ?_
          refine q_getI (Sh.int hI20145.1 kx_176 rfl) v19976 ((hF20146.1 176 2 mf_X4_aimAtEnd_177_176_2).trans hv19976) ?_
          refine r_iconst (-1) rfl ?_
          refine r_ics 91 rfl (fun c20150 => ?_) (fun c20150 => ?_)
          · have c20150_ : v19976.toInt ≠ (-1) := en_i_ne_t c20150
            refine At.enter rfl ?_
            refine r_iconst (-1) rfl ?_
            refine Ar.fall 100 rfl ?_
            refine At.enter rfl ?_
            refine r_istore_n _ rfl ?_
            refine r_iload_n (w_e1 _ _ _) ?_
            refine r_iconst (-1) rfl ?_
            refine r_icf 106 rfl (by decide) ?_
            refine At.enter rfl ?_
            refine r_vret ?_
            have x20151 := rX.e hI20145 (b := 2) (((hF20146.1 176 2 mf_X4_aimAtEnd_177_176_2).trans hv19976))
            have x20152 := rX.e hI20145 (b := 4) (((hF20146.1 176 4 mf_X4_aimAtEnd_177_176_4).trans hv19978))
            obtain ⟨v20153, hv20153⟩ : ∃ v, gI g19962 176 6 = v := ⟨_, rfl⟩
            have tv20153 := congrArg Int32.toInt hv20153
            have x20154 := rX.e hI20145 (b := 6) (((hF20146.1 176 6 mf_X4_aimAtEnd_177_176_6).trans hv20153))
            obtain ⟨v20155, hv20155⟩ : ∃ v, gI g0 176 2 = v := ⟨_, rfl⟩
            have tv20155 := congrArg Int32.toInt hv20155
            have x20156 := rX.e hI0 (b := 2) (hv20155)
            have x20157 := rX.e hI0 (b := 4) (hv19943)
            have x20158 := rX.e hI19922 (b := 2) (hv19972)
            have x20159 := rX.e hI19922 (b := 4) (hv19946)
            exact ⟨_, rfl, hI20145, hF20149, rfl, ⟨(TKX.c o19968 ((hF20146.2.1 175 ma_X4_aimAtEnd_177_175)) ((hF20146.1 174 1 mf_X4_aimAtEnd_177_174_1)) ((hF20146.1 176 3 mf_X4_aimAtEnd_177_176_3)) ((hF20146.1 176 4 mf_X4_aimAtEnd_177_176_4)) ((hF20146.1 176 5 mf_X4_aimAtEnd_177_176_5))), (PRG0.tr q19938 (PRG0.tr o19969 (PRG0.eq (rX.c (b := 4) ((hF20146.1 176 4 mf_X4_aimAtEnd_177_176_4))) (rX.c (b := 2) ((hF20146.1 176 2 mf_X4_aimAtEnd_177_176_2)))))).le (by omega), LPI.end_ q19937 (OPD.join o19975 (by omega)) (rX.c (b := 2) ((hF20146.1 176 2 mf_X4_aimAtEnd_177_176_2))) (rX.c (b := 4) ((hF20146.1 176 4 mf_X4_aimAtEnd_177_176_4))) (rX.c (b := 6) ((hF20146.1 176 6 mf_X4_aimAtEnd_177_176_6))), (fun hz => absurd hz (by omega))⟩⟩
          · have c20150_ : v19976.toInt = (-1) := en_i_ne_f c20150
            refine At.enter rfl ?_
            refine r_aload_n e19927 ?_
            refine r_iload_n e19928 ?_
            refine r_callV 96 rfl [.ref 176, .int a1] [] (Nat.le_of_ble_eq_true rfl) rfl (T_X5_joinHere_176 _ hI20145 a1 (by omega) (TKX.c o19968 ((hF20146.2.1 175 ma_X4_aimAtEnd_177_175)) ((hF20146.1 174 1 mf_X4_aimAtEnd_177_174_1)) ((hF20146.1 176 3 mf_X4_aimAtEnd_177_176_3)) ((hF20146.1 176 4 mf_X4_aimAtEnd_177_176_4)) ((hF20146.1 176 5 mf_X4_aimAtEnd_177_176_5)))) ?_
            rintro _ _ ⟨g20160, rfl, hI20161, hF20162, v20163, rfl, hr20164⟩
            refine At.sti ?_
            have hF20165 := Fr.tr hF20149 hF20162 rfl rfl
            have hb20166 : BLN (JN a1.toInt (CDX g19962)) v20163.toInt := by have z := hr20164.2; rw [CDX.c ((hF20146.2.1 175 ma_X4_aimAtEnd_177_175)) ((hF20146.1 176 3 mf_X4_aimAtEnd_177_176_3)) ((hF20146.1 176 4 mf_X4_aimAtEnd_177_176_4)) ((hF20146.1 176 5 mf_X4_aimAtEnd_177_176_5))] at z; exact z
            refine At.enter rfl ?_
            refine r_goto ?_
            refine At.enter rfl ?_
            refine r_istore_n _ rfl ?_
            refine r_iload_n (w_e1 _ _ _) ?_
            refine r_iconst (-1) rfl ?_
            refine r_ics 106 rfl (fun c20167 => ?_) (fun c20167 => ?_)
            · have c20167_ : v20163.toInt ≠ (-1) := en_i_ne_t c20167
              have i20168 := BLN.yes hb20166 (by omega)
              refine At.enter rfl ?_
              refine r_aload_n (w_p1 (by decide) (Or.inr rfl) e19927) ?_
              refine r_callV 111 rfl [.ref 176] [] (Nat.le_of_ble_eq_true rfl) rfl (T_X5_step_176 _ hI20161 (TKX.c o19968 (((hF20162.2.1 175 ma_X5_joinHere_176_175).trans (hF20146.2.1 175 ma_X4_aimAtEnd_177_175))) (((hF20162.1 174 1 mf_X5_joinHere_176_174_1).trans (hF20146.1 174 1 mf_X4_aimAtEnd_177_174_1))) (((hF20162.1 176 3 mf_X5_joinHere_176_176_3).trans (hF20146.1 176 3 mf_X4_aimAtEnd_177_176_3))) (((hF20162.1 176 4 mf_X5_joinHere_176_176_4).trans (hF20146.1 176 4 mf_X4_aimAtEnd_177_176_4))) (((hF20162.1 176 5 mf_X5_joinHere_176_176_5).trans (hF20146.1 176 5 mf_X4_aimAtEnd_177_176_5)))).1 (TKX.c o19968 (((hF20162.2.1 175 ma_X5_joinHere_176_175).trans (hF20146.2.1 175 ma_X4_aimAtEnd_177_175))) (((hF20162.1 174 1 mf_X5_joinHere_176_174_1).trans (hF20146.1 174 1 mf_X4_aimAtEnd_177_174_1))) (((hF20162.1 176 3 mf_X5_joinHere_176_176_3).trans (hF20146.1 176 3 mf_X4_aimAtEnd_177_176_3))) (((hF20162.1 176 4 mf_X5_joinHere_176_176_4).trans (hF20146.1 176 4 mf_X4_aimAtEnd_177_176_4))) (((hF20162.1 176 5 mf_X5_joinHere_176_176_5).trans (hF20146.1 176 5 mf_X4_aimAtEnd_177_176_5)))).2.1.le.2.1) ?_
              rintro _ _ ⟨g20169, rfl, hI20170, hF20171, rfl, hr20173⟩
              refine At.stn ?_
              have hF20174 := Fr.tr hF20165 hF20171 rfl rfl
              have tok20175_ := hr20173.2
              rw [TX.c (((hF20162.2.1 175 ma_X5_joinHere_176_175).trans (hF20146.2.1 175 ma_X4_aimAtEnd_177_175))), nX.c (((hF20162.1 174 1 mf_X5_joinHere_176_174_1).trans (hF20146.1 174 1 mf_X4_aimAtEnd_177_174_1))), rX.c (b := 5) (((hF20162.1 176 5 mf_X5_joinHere_176_176_5).trans (hF20146.1 176 5 mf_X4_aimAtEnd_177_176_5)))] at tok20175_
              have tok20175 := TKX.tok o19968 tok20175_
              rw [TX.c (((hF19964.2.1 175 (by decide)).trans (hF19923.2.1 175 (by decide)))), nX.c (((hF19964.1 174 1 (by decide)).trans (hF19923.1 174 1 (by decide))))] at tok20175
              have hT20176 := hr20173.1
              have x20177 := rX.e hI20161 (b := 4) ((((hF20162.1 176 4 mf_X5_joinHere_176_176_4).trans (hF20146.1 176 4 mf_X4_aimAtEnd_177_176_4)).trans hv19978))
              obtain ⟨v20178, hv20178⟩ : ∃ v, gI g20169 176 4 = v := ⟨_, rfl⟩
              have rv20178 := RgF.at hI20170.2.1 (p := 176) (b := 4) rfl
              rw [hv20178] at rv20178
              dsimp only at rv20178
              have tv20178 := congrArg Int32.toInt hv20178
              have x20179 := rX.e hI20170 (b := 4) (hv20178)
              refine At.enter rfl ?_
              refine r_iload_n (w_p1 (by decide) (Or.inr rfl) e19928) ?_
              refine r_ifs 115 rfl (fun c20180 => ?_) (fun c20180 => ?_)
              · have c20180_ : a1.toInt = 0 := en_k_eq_t c20180
                refine At.enter rfl ?_
                refine r_aload_n (w_p1 (by decide) (Or.inr rfl) e19927) ?_
                refine q_getR (Sh.ref hI20170.1 kx_176 rfl) ?_
                refine r_iload_n (w_e1 _ _ _) ?_
                refine r_iconst 0 rfl ?_
                refine r_callV 129 rfl [.ref 177, .int v20163, .int 0] [] (Nat.le_of_ble_eq_true rfl) rfl (T_X4_add_177 _ hI20170 v20163 0) ?_
                rintro _ _ ⟨g20181, rfl, hI20182, hF20183, v20184, rfl, hr20185⟩
                refine At.sti ?_
                have hF20186 := Fr.tr hF20174 hF20183 rfl rfl
                refine At.enter rfl ?_
                refine r_goto ?_
                refine At.enter rfl ?_
                refine r_istore _ rfl ?_
                refine q_iinc (w_p1 (by decide) (Or.inr rfl) (w_p1 (by decide) (Or.inr rfl) e19932)) (x19920.toInt + 1) rfl (by omega) (fun v20187 hv20187 => ?_)
                refine r_goto ?_
                have x20188 := rX.e hI19922 (b := 4) (hv19946)
                have x20189 := rX.e hI19963 (b := 2) (hv19976)
                have x20190 := rX.e hI19963 (b := 4) (hv19978)
                have x20191 := rX.e hI20170 (b := 4) (hv20178)
                have x20192 := rX.e hI20182 (b := 4) (((hF20183.1 176 4 mf_X4_add_177_176_4).trans hv20178))
                have y20193 := (o19969.2.2 (by omega)).2
                have y20194 := ((PRG0.step o19968 tok20175_ (rX.c (b := 2) (((hF20171.1 176 2 mf_X5_step_176_176_2).trans ((hF20162.1 176 2 mf_X5_joinHere_176_176_2).trans (hF20146.1 176 2 mf_X4_aimAtEnd_177_176_2))))) (JN.ne i20168)).2.2 (by rw [(rX.c (b := 2) (((hF20171.1 176 2 mf_X5_step_176_176_2).trans ((hF20162.1 176 2 mf_X5_joinHere_176_176_2).trans (hF20146.1 176 2 mf_X4_aimAtEnd_177_176_2)))))]; omega)).2
                exact ih19926 (400 - v20187.toInt) _ _ ⟨v20163, v20184, v20187, by first | rfl | omega, hI20182, hF20186, (w_p1 (by decide) (Or.inr rfl) (w_p1 (by decide) (Or.inr rfl) (w_p1 (by decide) (Or.inr rfl) e19927))), (w_p1 (by decide) (Or.inr rfl) (w_p1 (by decide) (Or.inr rfl) (w_p1 (by decide) (Or.inr rfl) e19928))), (w_p1 (by decide) (Or.inr rfl) (w_p1 (by decide) (Or.inr rfl) (w_p1 (by decide) (Or.inr rfl) e19929))), (w_p1 (by decide) (Or.inr rfl) (w_p1 (by decide) (Or.inr rfl) (w_e1 _ _ _))), (w_p1 (by decide) (Or.inr rfl) (w_e1 _ _ _)), (w_e1 _ _ _), by omega, by omega, by omega, (TKX.c hT20176 ((hF20183.2.1 175 ma_X4_add_177_175)) ((hF20183.1 174 1 mf_X4_add_177_174_1)) ((hF20183.1 176 3 mf_X4_add_177_176_3)) ((hF20183.1 176 4 mf_X4_add_177_176_4)) ((hF20183.1 176 5 mf_X4_add_177_176_5))), (LPI.eq (LPI.next q19937 (OPD.join o19975 (by omega)) tok20175 i20168 ⟨by omega, by omega⟩ (rX.c (b := 2) (((hF20171.1 176 2 mf_X5_step_176_176_2).trans ((hF20162.1 176 2 mf_X5_joinHere_176_176_2).trans (hF20146.1 176 2 mf_X4_aimAtEnd_177_176_2))))) (rX.c (b := 6) (((hF20171.1 176 6 mf_X5_step_176_176_6).trans ((hF20162.1 176 6 mf_X5_joinHere_176_176_6).trans (hF20146.1 176 6 mf_X4_aimAtEnd_177_176_6)))))) (rX.c (b := 2) ((hF20183.1 176 2 mf_X4_add_177_176_2))) (rX.c (b := 4) ((hF20183.1 176 4 mf_X4_add_177_176_4))) (rX.c (b := 6) ((hF20183.1 176 6 mf_X4_add_177_176_6)))), ((PRG0.tr q19938 (PRG0.tr o19969 (PRG0.tr (PRG0.step o19968 tok20175_ (rX.c (b := 2) (((hF20171.1 176 2 mf_X5_step_176_176_2).trans ((hF20162.1 176 2 mf_X5_joinHere_176_176_2).trans (hF20146.1 176 2 mf_X4_aimAtEnd_177_176_2))))) (JN.ne i20168)) (PRG0.eq (rX.c (b := 4) ((hF20183.1 176 4 mf_X4_add_177_176_4))) (rX.c (b := 2) ((hF20183.1 176 2 mf_X4_add_177_176_2))))))).le (by omega)), by omega⟩ ⟨by omega, by omega⟩
              · have c20180_ : a1.toInt ≠ 0 := en_k_eq_f c20180
                refine At.enter rfl ?_
                refine r_iload_n (w_p1 (by decide) (Or.inr rfl) e19928) ?_
                refine r_iconst 1 rfl ?_
                refine r_ics 120 rfl (fun c20195 => ?_) (fun c20195 => ?_)
                · have c20195_ : a1.toInt ≠ 1 := en_i_ne_t c20195
                  refine At.enter rfl ?_
                  refine r_iconst (-1) rfl ?_
                  refine Ar.fall 133 rfl ?_
                  refine At.enter rfl ?_
                  refine r_istore _ rfl ?_
                  refine q_iinc (w_p1 (by decide) (Or.inr rfl) (w_p1 (by decide) (Or.inr rfl) e19932)) (x19920.toInt + 1) rfl (by omega) (fun v20196 hv20196 => ?_)
                  refine r_goto ?_
                  have x20197 := rX.e hI19922 (b := 4) (hv19946)
                  have x20198 := rX.e hI19963 (b := 2) (hv19976)
                  have x20199 := rX.e hI19963 (b := 4) (hv19978)
                  have x20200 := rX.e hI20170 (b := 4) (hv20178)
                  have x20201 := rX.e hI20170 (b := 4) (hv20178)
                  have y20202 := (o19969.2.2 (by omega)).2
                  have y20203 := ((PRG0.step o19968 tok20175_ (rX.c (b := 2) (((hF20171.1 176 2 mf_X5_step_176_176_2).trans ((hF20162.1 176 2 mf_X5_joinHere_176_176_2).trans (hF20146.1 176 2 mf_X4_aimAtEnd_177_176_2))))) (JN.ne i20168)).2.2 (by rw [(rX.c (b := 2) (((hF20171.1 176 2 mf_X5_step_176_176_2).trans ((hF20162.1 176 2 mf_X5_joinHere_176_176_2).trans (hF20146.1 176 2 mf_X4_aimAtEnd_177_176_2)))))]; omega)).2
                  exact ih19926 (400 - v20196.toInt) _ _ ⟨v20163, (-1), v20196, by first | rfl | omega, hI20170, hF20174, (w_p1 (by decide) (Or.inr rfl) (w_p1 (by decide) (Or.inr rfl) (w_p1 (by decide) (Or.inr rfl) e19927))), (w_p1 (by decide) (Or.inr rfl) (w_p1 (by decide) (Or.inr rfl) (w_p1 (by decide) (Or.inr rfl) e19928))), (w_p1 (by decide) (Or.inr rfl) (w_p1 (by decide) (Or.inr rfl) (w_p1 (by decide) (Or.inr rfl) e19929))), (w_p1 (by decide) (Or.inr rfl) (w_p1 (by decide) (Or.inr rfl) (w_e1 _ _ _))), (w_p1 (by decide) (Or.inr rfl) (w_e1 _ _ _)), (w_e1 _ _ _), by omega, by decide, by omega, hT20176, (LPI.eq (LPI.next q19937 (OPD.join o19975 (by omega)) tok20175 i20168 ⟨by omega, by omega⟩ (rX.c (b := 2) (((hF20171.1 176 2 mf_X5_step_176_176_2).trans ((hF20162.1 176 2 mf_X5_joinHere_176_176_2).trans (hF20146.1 176 2 mf_X4_aimAtEnd_177_176_2))))) (rX.c (b := 6) (((hF20171.1 176 6 mf_X5_step_176_176_6).trans ((hF20162.1 176 6 mf_X5_joinHere_176_176_6).trans (hF20146.1 176 6 mf_X4_aimAtEnd_177_176_6)))))) rfl rfl rfl), ((PRG0.tr q19938 (PRG0.tr o19969 (PRG0.tr (PRG0.step o19968 tok20175_ (rX.c (b := 2) (((hF20171.1 176 2 mf_X5_step_176_176_2).trans ((hF20162.1 176 2 mf_X5_joinHere_176_176_2).trans (hF20146.1 176 2 mf_X4_aimAtEnd_177_176_2))))) (JN.ne i20168)) (PRG0.eq rfl rfl)))).le (by omega)), by omega⟩ ⟨by omega, by omega⟩
                · have c20195_ : a1.toInt = 1 := en_i_ne_f c20195
                  refine At.enter rfl ?_
                  refine r_aload_n (w_p1 (by decide) (Or.inr rfl) e19927) ?_
                  refine q_getR (Sh.ref hI20170.1 kx_176 rfl) ?_
                  refine r_iload_n (w_e1 _ _ _) ?_
                  refine r_iconst 0 rfl ?_
                  refine r_callV 129 rfl [.ref 177, .int v20163, .int 0] [] (Nat.le_of_ble_eq_true rfl) rfl (T_X4_add_177 _ hI20170 v20163 0) ?_
                  rintro _ _ ⟨g20204, rfl, hI20205, hF20206, v20207, rfl, hr20208⟩
                  refine At.sti ?_
                  have hF20209 := Fr.tr hF20174 hF20206 rfl rfl
                  refine At.enter rfl ?_
                  refine r_goto ?_
                  refine At.enter rfl ?_
                  refine r_istore _ rfl ?_
                  refine q_iinc (w_p1 (by decide) (Or.inr rfl) (w_p1 (by decide) (Or.inr rfl) e19932)) (x19920.toInt + 1) rfl (by omega) (fun v20210 hv20210 => ?_)
                  refine r_goto ?_
                  have x20211 := rX.e hI19922 (b := 4) (hv19946)
                  have x20212 := rX.e hI19963 (b := 2) (hv19976)
                  have x20213 := rX.e hI19963 (b := 4) (hv19978)
                  have x20214 := rX.e hI20170 (b := 4) (hv20178)
                  have x20215 := rX.e hI20205 (b := 4) (((hF20206.1 176 4 mf_X4_add_177_176_4).trans hv20178))
                  have y20216 := (o19969.2.2 (by omega)).2
                  have y20217 := ((PRG0.step o19968 tok20175_ (rX.c (b := 2) (((hF20171.1 176 2 mf_X5_step_176_176_2).trans ((hF20162.1 176 2 mf_X5_joinHere_176_176_2).trans (hF20146.1 176 2 mf_X4_aimAtEnd_177_176_2))))) (JN.ne i20168)).2.2 (by rw [(rX.c (b := 2) (((hF20171.1 176 2 mf_X5_step_176_176_2).trans ((hF20162.1 176 2 mf_X5_joinHere_176_176_2).trans (hF20146.1 176 2 mf_X4_aimAtEnd_177_176_2)))))]; omega)).2
                  exact ih19926 (400 - v20210.toInt) _ _ ⟨v20163, v20207, v20210, by first | rfl | omega, hI20205, hF20209, (w_p1 (by decide) (Or.inr rfl) (w_p1 (by decide) (Or.inr rfl) (w_p1 (by decide) (Or.inr rfl) e19927))), (w_p1 (by decide) (Or.inr rfl) (w_p1 (by decide) (Or.inr rfl) (w_p1 (by decide) (Or.inr rfl) e19928))), (w_p1 (by decide) (Or.inr rfl) (w_p1 (by decide) (Or.inr rfl) (w_p1 (by decide) (Or.inr rfl) e19929))), (w_p1 (by decide) (Or.inr rfl) (w_p1 (by decide) (Or.inr rfl) (w_e1 _ _ _))), (w_p1 (by decide) (Or.inr rfl) (w_e1 _ _ _)), (w_e1 _ _ _), by omega, by omega, by omega, (TKX.c hT20176 ((hF20206.2.1 175 ma_X4_add_177_175)) ((hF20206.1 174 1 mf_X4_add_177_174_1)) ((hF20206.1 176 3 mf_X4_add_177_176_3)) ((hF20206.1 176 4 mf_X4_add_177_176_4)) ((hF20206.1 176 5 mf_X4_add_177_176_5))), (LPI.eq (LPI.next q19937 (OPD.join o19975 (by omega)) tok20175 i20168 ⟨by omega, by omega⟩ (rX.c (b := 2) (((hF20171.1 176 2 mf_X5_step_176_176_2).trans ((hF20162.1 176 2 mf_X5_joinHere_176_176_2).trans (hF20146.1 176 2 mf_X4_aimAtEnd_177_176_2))))) (rX.c (b := 6) (((hF20171.1 176 6 mf_X5_step_176_176_6).trans ((hF20162.1 176 6 mf_X5_joinHere_176_176_6).trans (hF20146.1 176 6 mf_X4_aimAtEnd_177_176_6)))))) (rX.c (b := 2) ((hF20206.1 176 2 mf_X4_add_177_176_2))) (rX.c (b := 4) ((hF20206.1 176 4 mf_X4_add_177_176_4))) (rX.c (b := 6) ((hF20206.1 176 6 mf_X4_add_177_176_6)))), ((PRG0.tr q19938 (PRG0.tr o19969 (PRG0.tr (PRG0.step o19968 tok20175_ (rX.c (b := 2) (((hF20171.1 176 2 mf_X5_step_176_176_2).trans ((hF20162.1 176 2 mf_X5_joinHere_176_176_2).trans (hF20146.1 176 2 mf_X4_aimAtEnd_177_176_2))))) (JN.ne i20168)) (PRG0.eq (rX.c (b := 4) ((hF20206.1 176 4 mf_X4_add_177_176_4))) (rX.c (b := 2) ((hF20206.1 176 2 mf_X4_add_177_176_2))))))).le (by omega)), by omega⟩ ⟨by omega, by omega⟩
            · have c20167_ : v20163.toInt = (-1) := en_i_ne_f c20167
              have i20218 := BLN.no hb20166 (by omega)
              refine At.enter rfl ?_
              refine r_vret ?_
              have x20219 := rX.e hI20161 (b := 2) ((((hF20162.1 176 2 mf_X5_joinHere_176_176_2).trans (hF20146.1 176 2 mf_X4_aimAtEnd_177_176_2)).trans hv19976))
              have x20220 := rX.e hI20161 (b := 4) ((((hF20162.1 176 4 mf_X5_joinHere_176_176_4).trans (hF20146.1 176 4 mf_X4_aimAtEnd_177_176_4)).trans hv19978))
              obtain ⟨v20221, hv20221⟩ : ∃ v, gI g19962 176 6 = v := ⟨_, rfl⟩
              have tv20221 := congrArg Int32.toInt hv20221
              have x20222 := rX.e hI20161 (b := 6) ((((hF20162.1 176 6 mf_X5_joinHere_176_176_6).trans (hF20146.1 176 6 mf_X4_aimAtEnd_177_176_6)).trans hv20221))
              obtain ⟨v20223, hv20223⟩ : ∃ v, gI g0 176 2 = v := ⟨_, rfl⟩
              have tv20223 := congrArg Int32.toInt hv20223
              have x20224 := rX.e hI0 (b := 2) (hv20223)
              have x20225 := rX.e hI0 (b := 4) (hv19943)
              have x20226 := rX.e hI19922 (b := 2) (hv19972)
              have x20227 := rX.e hI19922 (b := 4) (hv19946)
              exact ⟨_, rfl, hI20161, hF20165, rfl, ⟨(TKX.c o19968 (((hF20162.2.1 175 ma_X5_joinHere_176_175).trans (hF20146.2.1 175 ma_X4_aimAtEnd_177_175))) (((hF20162.1 174 1 mf_X5_joinHere_176_174_1).trans (hF20146.1 174 1 mf_X4_aimAtEnd_177_174_1))) (((hF20162.1 176 3 mf_X5_joinHere_176_176_3).trans (hF20146.1 176 3 mf_X4_aimAtEnd_177_176_3))) (((hF20162.1 176 4 mf_X5_joinHere_176_176_4).trans (hF20146.1 176 4 mf_X4_aimAtEnd_177_176_4))) (((hF20162.1 176 5 mf_X5_joinHere_176_176_5).trans (hF20146.1 176 5 mf_X4_aimAtEnd_177_176_5)))), (PRG0.tr q19938 (PRG0.tr o19969 (PRG0.eq (rX.c (b := 4) (((hF20162.1 176 4 mf_X5_joinHere_176_176_4).trans (hF20146.1 176 4 mf_X4_aimAtEnd_177_176_4)))) (rX.c (b := 2) (((hF20162.1 176 2 mf_X5_joinHere_176_176_2).trans (hF20146.1 176 2 mf_X4_aimAtEnd_177_176_2))))))).le (by omega), LPI.end_ q19937 (OPD.join o19975 (by omega)) (rX.c (b := 2) (((hF20162.1 176 2 mf_X5_joinHere_176_176_2).trans (hF20146.1 176 2 mf_X4_aimAtEnd_177_176_2)))) (rX.c (b := 4) (((hF20162.1 176 4 mf_X5_joinHere_176_176_4).trans (hF20146.1 176 4 mf_X4_aimAtEnd_177_176_4)))) (rX.c (b := 6) (((hF20162.1 176 6 mf_X5_joinHere_176_176_6).trans (hF20146.1 176 6 mf_X4_aimAtEnd_177_176_6)))), (fun hz => (by rw [CDX.c (((hF20162.2.1 175 ma_X5_joinHere_176_175).trans (hF20146.2.1 175 ma_X4_aimAtEnd_177_175))) (((hF20162.1 176 3 mf_X5_joinHere_176_176_3).trans (hF20146.1 176 3 mf_X4_aimAtEnd_177_176_3))) (((hF20162.1 176 4 mf_X5_joinHere_176_176_4).trans (hF20146.1 176 4 mf_X4_aimAtEnd_177_176_4))) (((hF20162.1 176 5 mf_X5_joinHere_176_176_5).trans (hF20146.1 176 5 mf_X4_aimAtEnd_177_176_5)))]; exact NJ.mk (o19971 (by omega)) (by omega) i20218))⟩⟩
      · have c19960_ : a1.toInt = 3 := en_i_ne_f c19960
        refine At.enter rfl ?_
        refine r_aload_n e19927 ?_
        refine r_iload_n e19929 ?_
        refine r_callV 39 rfl [.ref 176, .int a2] [] (Nat.le_of_ble_eq_true rfl) rfl (IHT _ (by omega) hI19922 a2 (by omega) (by omega) q19936) ?_
        rintro _ _ ⟨g20228, rfl, hI20229, hF20230, rfl, hr20232⟩
        refine At.stn ?_
        have hF20233 := Fr.tr hF19923 hF20230 rfl rfl
        obtain ⟨v20237, hv20237⟩ : ∃ v, gI g19921 176 2 = v := ⟨_, rfl⟩
        have tv20237 := congrArg Int32.toInt hv20237
        have x20238 := rX.e hI19922 (b := 2) (hv20237)
        have x20239 := rX.e hI19922 (b := 4) (hv19946)
        obtain ⟨o20234, o20235, o20236⟩ := hr20232
        rw [TX.ci hI19922 ((hF19923.2.1 175 (by decide))), nX.ci hI19922 ((hF19923.1 174 1 (by decide)))] at o20236
        obtain ⟨v20240, hv20240⟩ : ∃ v, gI g20228 176 2 = v := ⟨_, rfl⟩
        have tv20240 := congrArg Int32.toInt hv20240
        have x20241 := rX.e hI20229 (b := 2) (hv20240)
        obtain ⟨v20242, hv20242⟩ : ∃ v, gI g20228 176 4 = v := ⟨_, rfl⟩
        have rv20242 := RgF.at hI20229.2.1 (p := 176) (b := 4) rfl
        rw [hv20242] at rv20242
        dsimp only at rv20242
        have tv20242 := congrArg Int32.toInt hv20242
        have x20243 := rX.e hI20229 (b := 4) (hv20242)
        refine At.enter rfl ?_
        refine r_goto ?_
        refine At.enter rfl ?_
        refine r_iload e19931 ?_
        refine r_iconst (-1) rfl ?_
        refine r_ics 56 rfl (fun c20244 => ?_) (fun c20244 => ?_)
        · have c20244_ : x19919.toInt = (-1) := en_i_eq_t c20244
          refine At.enter rfl ?_
          refine r_iload_n e19930 ?_
          refine r_iconst (-1) rfl ?_
          refine r_ics 73 rfl (fun c20245 => ?_) (fun c20245 => ?_)
          · have c20245_ : x19918.toInt = (-1) := en_i_eq_t c20245
            refine At.enter rfl ?_
            refine r_aload_n e19927 ?_
            refine q_getI (Sh.int hI20229.1 kx_176 rfl) v20240 hv20240 ?_
            refine r_iconst (-1) rfl ?_
            refine r_ics 91 rfl (fun c20246 => ?_) (fun c20246 => ?_)
            · have c20246_ : v20240.toInt ≠ (-1) := en_i_ne_t c20246
              refine At.enter rfl ?_
              refine r_iconst (-1) rfl ?_
              refine Ar.fall 100 rfl ?_
              refine At.enter rfl ?_
              refine r_istore_n _ rfl ?_
              refine r_iload_n (w_e1 _ _ _) ?_
              refine r_iconst (-1) rfl ?_
              refine r_icf 106 rfl (by decide) ?_
              refine At.enter rfl ?_
              refine r_vret ?_
              have x20247 := rX.e hI20229 (b := 2) (hv20240)
              have x20248 := rX.e hI20229 (b := 4) (hv20242)
              obtain ⟨v20249, hv20249⟩ : ∃ v, gI g20228 176 6 = v := ⟨_, rfl⟩
              have tv20249 := congrArg Int32.toInt hv20249
              have x20250 := rX.e hI20229 (b := 6) (hv20249)
              obtain ⟨v20251, hv20251⟩ : ∃ v, gI g0 176 2 = v := ⟨_, rfl⟩
              have tv20251 := congrArg Int32.toInt hv20251
              have x20252 := rX.e hI0 (b := 2) (hv20251)
              have x20253 := rX.e hI0 (b := 4) (hv19943)
              have x20254 := rX.e hI19922 (b := 2) (hv20237)
              have x20255 := rX.e hI19922 (b := 4) (hv19946)
              exact ⟨_, rfl, hI20229, hF20233, rfl, ⟨o20234, (PRG0.tr q19938 (PRG0.tr o20235 (PRG0.eq rfl rfl))).le (by omega), LPI.end_ q19937 (OPD.part o20236 (by omega)) rfl rfl rfl, (fun hz => absurd hz (by omega))⟩⟩
            · have c20246_ : v20240.toInt = (-1) := en_i_ne_f c20246
              refine At.enter rfl ?_
              refine r_aload_n e19927 ?_
              refine r_iload_n e19928 ?_
              refine r_callV 96 rfl [.ref 176, .int a1] [] (Nat.le_of_ble_eq_true rfl) rfl (T_X5_joinHere_176 _ hI20229 a1 (by omega) o20234) ?_
              rintro _ _ ⟨g20256, rfl, hI20257, hF20258, v20259, rfl, hr20260⟩
              refine At.sti ?_
              have hF20261 := Fr.tr hF20233 hF20258 rfl rfl
              have hb20262 : BLN (JN a1.toInt (CDX g20228)) v20259.toInt := hr20260.2
              refine At.enter rfl ?_
              refine r_goto ?_
              refine At.enter rfl ?_
              refine r_istore_n _ rfl ?_
              refine r_iload_n (w_e1 _ _ _) ?_
              refine r_iconst (-1) rfl ?_
              refine r_ics 106 rfl (fun c20263 => ?_) (fun c20263 => ?_)
              · have c20263_ : v20259.toInt ≠ (-1) := en_i_ne_t c20263
                have i20264 := BLN.yes hb20262 (by omega)
                refine At.enter rfl ?_
                refine r_aload_n (w_p1 (by decide) (Or.inr rfl) e19927) ?_
                refine r_callV 111 rfl [.ref 176] [] (Nat.le_of_ble_eq_true rfl) rfl (T_X5_step_176 _ hI20257 (TKX.c o20234 ((hF20258.2.1 175 ma_X5_joinHere_176_175)) ((hF20258.1 174 1 mf_X5_joinHere_176_174_1)) ((hF20258.1 176 3 mf_X5_joinHere_176_176_3)) ((hF20258.1 176 4 mf_X5_joinHere_176_176_4)) ((hF20258.1 176 5 mf_X5_joinHere_176_176_5))).1 (TKX.c o20234 ((hF20258.2.1 175 ma_X5_joinHere_176_175)) ((hF20258.1 174 1 mf_X5_joinHere_176_174_1)) ((hF20258.1 176 3 mf_X5_joinHere_176_176_3)) ((hF20258.1 176 4 mf_X5_joinHere_176_176_4)) ((hF20258.1 176 5 mf_X5_joinHere_176_176_5))).2.1.le.2.1) ?_
                rintro _ _ ⟨g20265, rfl, hI20266, hF20267, rfl, hr20269⟩
                refine At.stn ?_
                have hF20270 := Fr.tr hF20261 hF20267 rfl rfl
                have tok20271_ := hr20269.2
                rw [TX.c ((hF20258.2.1 175 ma_X5_joinHere_176_175)), nX.c ((hF20258.1 174 1 mf_X5_joinHere_176_174_1)), rX.c (b := 5) ((hF20258.1 176 5 mf_X5_joinHere_176_176_5))] at tok20271_
                have tok20271 := TKX.tok o20234 tok20271_
                rw [TX.c (((hF20230.2.1 175 (by decide)).trans (hF19923.2.1 175 (by decide)))), nX.c (((hF20230.1 174 1 (by decide)).trans (hF19923.1 174 1 (by decide))))] at tok20271
                have hT20272 := hr20269.1
                have x20273 := rX.e hI20257 (b := 4) (((hF20258.1 176 4 mf_X5_joinHere_176_176_4).trans hv20242))
                obtain ⟨v20274, hv20274⟩ : ∃ v, gI g20265 176 4 = v := ⟨_, rfl⟩
                have rv20274 := RgF.at hI20266.2.1 (p := 176) (b := 4) rfl
                rw [hv20274] at rv20274
                dsimp only at rv20274
                have tv20274 := congrArg Int32.toInt hv20274
                have x20275 := rX.e hI20266 (b := 4) (hv20274)
                refine At.enter rfl ?_
                refine r_iload_n (w_p1 (by decide) (Or.inr rfl) e19928) ?_
                refine r_ifs 115 rfl (fun c20276 => ?_) (fun c20276 => ?_)
                · have c20276_ : a1.toInt = 0 := en_k_eq_t c20276
                  exfalso; omega
                · have c20276_ : a1.toInt ≠ 0 := en_k_eq_f c20276
                  refine At.enter rfl ?_
                  refine r_iload_n (w_p1 (by decide) (Or.inr rfl) e19928) ?_
                  refine r_iconst 1 rfl ?_
                  refine r_ics 120 rfl (fun c20277 => ?_) (fun c20277 => ?_)
                  · have c20277_ : a1.toInt ≠ 1 := en_i_ne_t c20277
                    refine At.enter rfl ?_
                    refine r_iconst (-1) rfl ?_
                    refine Ar.fall 133 rfl ?_
                    refine At.enter rfl ?_
                    refine r_istore _ rfl ?_
                    refine q_iinc (w_p1 (by decide) (Or.inr rfl) (w_p1 (by decide) (Or.inr rfl) e19932)) (x19920.toInt + 1) rfl (by omega) (fun v20278 hv20278 => ?_)
                    refine r_goto ?_
                    have x20279 := rX.e hI19922 (b := 4) (hv19946)
                    have x20280 := rX.e hI20229 (b := 2) (hv20240)
                    have x20281 := rX.e hI20229 (b := 4) (hv20242)
                    have x20282 := rX.e hI20266 (b := 4) (hv20274)
                    have x20283 := rX.e hI20266 (b := 4) (hv20274)
                    have y20284 := (o20235.2.2 (by omega)).2
                    have y20285 := ((PRG0.step o20234 tok20271_ (rX.c (b := 2) (((hF20267.1 176 2 mf_X5_step_176_176_2).trans (hF20258.1 176 2 mf_X5_joinHere_176_176_2)))) (JN.ne i20264)).2.2 (by rw [(rX.c (b := 2) (((hF20267.1 176 2 mf_X5_step_176_176_2).trans (hF20258.1 176 2 mf_X5_joinHere_176_176_2))))]; omega)).2
                    exact ih19926 (400 - v20278.toInt) _ _ ⟨v20259, (-1), v20278, by first | rfl | omega, hI20266, hF20270, (w_p1 (by decide) (Or.inr rfl) (w_p1 (by decide) (Or.inr rfl) (w_p1 (by decide) (Or.inr rfl) e19927))), (w_p1 (by decide) (Or.inr rfl) (w_p1 (by decide) (Or.inr rfl) (w_p1 (by decide) (Or.inr rfl) e19928))), (w_p1 (by decide) (Or.inr rfl) (w_p1 (by decide) (Or.inr rfl) (w_p1 (by decide) (Or.inr rfl) e19929))), (w_p1 (by decide) (Or.inr rfl) (w_p1 (by decide) (Or.inr rfl) (w_e1 _ _ _))), (w_p1 (by decide) (Or.inr rfl) (w_e1 _ _ _)), (w_e1 _ _ _), by omega, by decide, by omega, hT20272, (LPI.eq (LPI.next q19937 (OPD.part o20236 (by omega)) tok20271 i20264 ⟨by omega, by omega⟩ (rX.c (b := 2) (((hF20267.1 176 2 mf_X5_step_176_176_2).trans (hF20258.1 176 2 mf_X5_joinHere_176_176_2)))) (rX.c (b := 6) (((hF20267.1 176 6 mf_X5_step_176_176_6).trans (hF20258.1 176 6 mf_X5_joinHere_176_176_6))))) rfl rfl rfl), ((PRG0.tr q19938 (PRG0.tr o20235 (PRG0.tr (PRG0.step o20234 tok20271_ (rX.c (b := 2) (((hF20267.1 176 2 mf_X5_step_176_176_2).trans (hF20258.1 176 2 mf_X5_joinHere_176_176_2)))) (JN.ne i20264)) (PRG0.eq rfl rfl)))).le (by omega)), by omega⟩ ⟨by omega, by omega⟩
                  · have c20277_ : a1.toInt = 1 := en_i_ne_f c20277
                    exfalso; omega
              · have c20263_ : v20259.toInt = (-1) := en_i_ne_f c20263
                have i20286 := BLN.no hb20262 (by omega)
                refine At.enter rfl ?_
                refine r_vret ?_
                have x20287 := rX.e hI20257 (b := 2) (((hF20258.1 176 2 mf_X5_joinHere_176_176_2).trans hv20240))
                have x20288 := rX.e hI20257 (b := 4) (((hF20258.1 176 4 mf_X5_joinHere_176_176_4).trans hv20242))
                obtain ⟨v20289, hv20289⟩ : ∃ v, gI g20228 176 6 = v := ⟨_, rfl⟩
                have tv20289 := congrArg Int32.toInt hv20289
                have x20290 := rX.e hI20257 (b := 6) (((hF20258.1 176 6 mf_X5_joinHere_176_176_6).trans hv20289))
                obtain ⟨v20291, hv20291⟩ : ∃ v, gI g0 176 2 = v := ⟨_, rfl⟩
                have tv20291 := congrArg Int32.toInt hv20291
                have x20292 := rX.e hI0 (b := 2) (hv20291)
                have x20293 := rX.e hI0 (b := 4) (hv19943)
                have x20294 := rX.e hI19922 (b := 2) (hv20237)
                have x20295 := rX.e hI19922 (b := 4) (hv19946)
                exact ⟨_, rfl, hI20257, hF20261, rfl, ⟨(TKX.c o20234 ((hF20258.2.1 175 ma_X5_joinHere_176_175)) ((hF20258.1 174 1 mf_X5_joinHere_176_174_1)) ((hF20258.1 176 3 mf_X5_joinHere_176_176_3)) ((hF20258.1 176 4 mf_X5_joinHere_176_176_4)) ((hF20258.1 176 5 mf_X5_joinHere_176_176_5))), (PRG0.tr q19938 (PRG0.tr o20235 (PRG0.eq (rX.c (b := 4) ((hF20258.1 176 4 mf_X5_joinHere_176_176_4))) (rX.c (b := 2) ((hF20258.1 176 2 mf_X5_joinHere_176_176_2)))))).le (by omega), LPI.end_ q19937 (OPD.part o20236 (by omega)) (rX.c (b := 2) ((hF20258.1 176 2 mf_X5_joinHere_176_176_2))) (rX.c (b := 4) ((hF20258.1 176 4 mf_X5_joinHere_176_176_4))) (rX.c (b := 6) ((hF20258.1 176 6 mf_X5_joinHere_176_176_6))), (fun hz => (by rw [CDX.c ((hF20258.2.1 175 ma_X5_joinHere_176_175)) ((hF20258.1 176 3 mf_X5_joinHere_176_176_3)) ((hF20258.1 176 4 mf_X5_joinHere_176_176_4)) ((hF20258.1 176 5 mf_X5_joinHere_176_176_5))]; exact NJ.mk1 (by omega) i20286))⟩⟩
          · have c20245_ : x19918.toInt ≠ (-1) := en_i_eq_f c20245
            refine At.enter rfl ?_
            refine r_aload_n e19927 ?_
            refine q_getR (Sh.ref hI20229.1 kx_176 rfl) ?_
            refine r_iload_n e19930 ?_
            refine r_iconst 0 rfl ?_
            refine r_callV 82 rfl [.ref 177, .int x19918, .int 0] [] (Nat.le_of_ble_eq_true rfl) rfl (T_X4_add_177 _ hI20229 x19918 0) ?_
            rintro _ _ ⟨g20296, rfl, hI20297, hF20298, v20299, rfl, hr20300⟩
            refine At.sti ?_
            have hF20301 := Fr.tr hF20233 hF20298 rfl rfl
            refine At.enter rfl ?_
            refine r_pop rfl ?_
            refine Ar.fall 83 rfl ?_
            refine At.enter rfl ?_
            refine r_aload_n e19927 ?_
            refine q_getI (Sh.int hI20297.1 kx_176 rfl) v20240 ((hF20298.1 176 2 mf_X4_add_177_176_2).trans hv20240) ?_
            refine r_iconst (-1) rfl ?_
            refine r_ics 91 rfl (fun c20302 => ?_) (fun c20302 => ?_)
            · have c20302_ : v20240.toInt ≠ (-1) := en_i_ne_t c20302
              refine At.enter rfl ?_
              refine r_iconst (-1) rfl ?_
              refine Ar.fall 100 rfl ?_
              refine At.enter rfl ?_
              refine r_istore_n _ rfl ?_
              refine r_iload_n (w_e1 _ _ _) ?_
              refine r_iconst (-1) rfl ?_
              refine r_icf 106 rfl (by decide) ?_
              refine At.enter rfl ?_
              refine r_vret ?_
              have x20303 := rX.e hI20297 (b := 2) (((hF20298.1 176 2 mf_X4_add_177_176_2).trans hv20240))
              have x20304 := rX.e hI20297 (b := 4) (((hF20298.1 176 4 mf_X4_add_177_176_4).trans hv20242))
              obtain ⟨v20305, hv20305⟩ : ∃ v, gI g20228 176 6 = v := ⟨_, rfl⟩
              have tv20305 := congrArg Int32.toInt hv20305
              have x20306 := rX.e hI20297 (b := 6) (((hF20298.1 176 6 mf_X4_add_177_176_6).trans hv20305))
              obtain ⟨v20307, hv20307⟩ : ∃ v, gI g0 176 2 = v := ⟨_, rfl⟩
              have tv20307 := congrArg Int32.toInt hv20307
              have x20308 := rX.e hI0 (b := 2) (hv20307)
              have x20309 := rX.e hI0 (b := 4) (hv19943)
              have x20310 := rX.e hI19922 (b := 2) (hv20237)
              have x20311 := rX.e hI19922 (b := 4) (hv19946)
              exact ⟨_, rfl, hI20297, hF20301, rfl, ⟨(TKX.c o20234 ((hF20298.2.1 175 ma_X4_add_177_175)) ((hF20298.1 174 1 mf_X4_add_177_174_1)) ((hF20298.1 176 3 mf_X4_add_177_176_3)) ((hF20298.1 176 4 mf_X4_add_177_176_4)) ((hF20298.1 176 5 mf_X4_add_177_176_5))), (PRG0.tr q19938 (PRG0.tr o20235 (PRG0.eq (rX.c (b := 4) ((hF20298.1 176 4 mf_X4_add_177_176_4))) (rX.c (b := 2) ((hF20298.1 176 2 mf_X4_add_177_176_2)))))).le (by omega), LPI.end_ q19937 (OPD.part o20236 (by omega)) (rX.c (b := 2) ((hF20298.1 176 2 mf_X4_add_177_176_2))) (rX.c (b := 4) ((hF20298.1 176 4 mf_X4_add_177_176_4))) (rX.c (b := 6) ((hF20298.1 176 6 mf_X4_add_177_176_6))), (fun hz => absurd hz (by omega))⟩⟩
            · have c20302_ : v20240.toInt = (-1) := en_i_ne_f c20302
              refine At.enter rfl ?_
              refine r_aload_n e19927 ?_
              refine r_iload_n e19928 ?_
              refine r_callV 96 rfl [.ref 176, .int a1] [] (Nat.le_of_ble_eq_true rfl) rfl (T_X5_joinHere_176 _ hI20297 a1 (by omega) (TKX.c o20234 ((hF20298.2.1 175 ma_X4_add_177_175)) ((hF20298.1 174 1 mf_X4_add_177_174_1)) ((hF20298.1 176 3 mf_X4_add_177_176_3)) ((hF20298.1 176 4 mf_X4_add_177_176_4)) ((hF20298.1 176 5 mf_X4_add_177_176_5)))) ?_
              rintro _ _ ⟨g20312, rfl, hI20313, hF20314, v20315, rfl, hr20316⟩
              refine At.sti ?_
              have hF20317 := Fr.tr hF20301 hF20314 rfl rfl
              have hb20318 : BLN (JN a1.toInt (CDX g20228)) v20315.toInt := by have z := hr20316.2; rw [CDX.c ((hF20298.2.1 175 ma_X4_add_177_175)) ((hF20298.1 176 3 mf_X4_add_177_176_3)) ((hF20298.1 176 4 mf_X4_add_177_176_4)) ((hF20298.1 176 5 mf_X4_add_177_176_5))] at z; exact z
              refine At.enter rfl ?_
              refine r_goto ?_
              refine At.enter rfl ?_
              refine r_istore_n _ rfl ?_
              refine r_iload_n (w_e1 _ _ _) ?_
              refine r_iconst (-1) rfl ?_
              refine r_ics 106 rfl (fun c20319 => ?_) (fun c20319 => ?_)
              · have c20319_ : v20315.toInt ≠ (-1) := en_i_ne_t c20319
                have i20320 := BLN.yes hb20318 (by omega)
                refine At.enter rfl ?_
                refine r_aload_n (w_p1 (by decide) (Or.inr rfl) e19927) ?_
                refine r_callV 111 rfl [.ref 176] [] (Nat.le_of_ble_eq_true rfl) rfl (T_X5_step_176 _ hI20313 (TKX.c o20234 (((hF20314.2.1 175 ma_X5_joinHere_176_175).trans (hF20298.2.1 175 ma_X4_add_177_175))) (((hF20314.1 174 1 mf_X5_joinHere_176_174_1).trans (hF20298.1 174 1 mf_X4_add_177_174_1))) (((hF20314.1 176 3 mf_X5_joinHere_176_176_3).trans (hF20298.1 176 3 mf_X4_add_177_176_3))) (((hF20314.1 176 4 mf_X5_joinHere_176_176_4).trans (hF20298.1 176 4 mf_X4_add_177_176_4))) (((hF20314.1 176 5 mf_X5_joinHere_176_176_5).trans (hF20298.1 176 5 mf_X4_add_177_176_5)))).1 (TKX.c o20234 (((hF20314.2.1 175 ma_X5_joinHere_176_175).trans (hF20298.2.1 175 ma_X4_add_177_175))) (((hF20314.1 174 1 mf_X5_joinHere_176_174_1).trans (hF20298.1 174 1 mf_X4_add_177_174_1))) (((hF20314.1 176 3 mf_X5_joinHere_176_176_3).trans (hF20298.1 176 3 mf_X4_add_177_176_3))) (((hF20314.1 176 4 mf_X5_joinHere_176_176_4).trans (hF20298.1 176 4 mf_X4_add_177_176_4))) (((hF20314.1 176 5 mf_X5_joinHere_176_176_5).trans (hF20298.1 176 5 mf_X4_add_177_176_5)))).2.1.le.2.1) ?_
                rintro _ _ ⟨g20321, rfl, hI20322, hF20323, rfl, hr20325⟩
                refine At.stn ?_
                have hF20326 := Fr.tr hF20317 hF20323 rfl rfl
                have tok20327_ := hr20325.2
                rw [TX.c (((hF20314.2.1 175 ma_X5_joinHere_176_175).trans (hF20298.2.1 175 ma_X4_add_177_175))), nX.c (((hF20314.1 174 1 mf_X5_joinHere_176_174_1).trans (hF20298.1 174 1 mf_X4_add_177_174_1))), rX.c (b := 5) (((hF20314.1 176 5 mf_X5_joinHere_176_176_5).trans (hF20298.1 176 5 mf_X4_add_177_176_5)))] at tok20327_
                have tok20327 := TKX.tok o20234 tok20327_
                rw [TX.c (((hF20230.2.1 175 (by decide)).trans (hF19923.2.1 175 (by decide)))), nX.c (((hF20230.1 174 1 (by decide)).trans (hF19923.1 174 1 (by decide))))] at tok20327
                have hT20328 := hr20325.1
                have x20329 := rX.e hI20313 (b := 4) ((((hF20314.1 176 4 mf_X5_joinHere_176_176_4).trans (hF20298.1 176 4 mf_X4_add_177_176_4)).trans hv20242))
                obtain ⟨v20330, hv20330⟩ : ∃ v, gI g20321 176 4 = v := ⟨_, rfl⟩
                have rv20330 := RgF.at hI20322.2.1 (p := 176) (b := 4) rfl
                rw [hv20330] at rv20330
                dsimp only at rv20330
                have tv20330 := congrArg Int32.toInt hv20330
                have x20331 := rX.e hI20322 (b := 4) (hv20330)
                refine At.enter rfl ?_
                refine r_iload_n (w_p1 (by decide) (Or.inr rfl) e19928) ?_
                refine r_ifs 115 rfl (fun c20332 => ?_) (fun c20332 => ?_)
                · have c20332_ : a1.toInt = 0 := en_k_eq_t c20332
                  exfalso; omega
                · have c20332_ : a1.toInt ≠ 0 := en_k_eq_f c20332
                  refine At.enter rfl ?_
                  refine r_iload_n (w_p1 (by decide) (Or.inr rfl) e19928) ?_
                  refine r_iconst 1 rfl ?_
                  refine r_ics 120 rfl (fun c20333 => ?_) (fun c20333 => ?_)
                  · have c20333_ : a1.toInt ≠ 1 := en_i_ne_t c20333
                    refine At.enter rfl ?_
                    refine r_iconst (-1) rfl ?_
                    refine Ar.fall 133 rfl ?_
                    refine At.enter rfl ?_
                    refine r_istore _ rfl ?_
                    refine q_iinc (w_p1 (by decide) (Or.inr rfl) (w_p1 (by decide) (Or.inr rfl) e19932)) (x19920.toInt + 1) rfl (by omega) (fun v20334 hv20334 => ?_)
                    refine r_goto ?_
                    have x20335 := rX.e hI19922 (b := 4) (hv19946)
                    have x20336 := rX.e hI20229 (b := 2) (hv20240)
                    have x20337 := rX.e hI20229 (b := 4) (hv20242)
                    have x20338 := rX.e hI20322 (b := 4) (hv20330)
                    have x20339 := rX.e hI20322 (b := 4) (hv20330)
                    have y20340 := (o20235.2.2 (by omega)).2
                    have y20341 := ((PRG0.step o20234 tok20327_ (rX.c (b := 2) (((hF20323.1 176 2 mf_X5_step_176_176_2).trans ((hF20314.1 176 2 mf_X5_joinHere_176_176_2).trans (hF20298.1 176 2 mf_X4_add_177_176_2))))) (JN.ne i20320)).2.2 (by rw [(rX.c (b := 2) (((hF20323.1 176 2 mf_X5_step_176_176_2).trans ((hF20314.1 176 2 mf_X5_joinHere_176_176_2).trans (hF20298.1 176 2 mf_X4_add_177_176_2)))))]; omega)).2
                    exact ih19926 (400 - v20334.toInt) _ _ ⟨v20315, (-1), v20334, by first | rfl | omega, hI20322, hF20326, (w_p1 (by decide) (Or.inr rfl) (w_p1 (by decide) (Or.inr rfl) (w_p1 (by decide) (Or.inr rfl) e19927))), (w_p1 (by decide) (Or.inr rfl) (w_p1 (by decide) (Or.inr rfl) (w_p1 (by decide) (Or.inr rfl) e19928))), (w_p1 (by decide) (Or.inr rfl) (w_p1 (by decide) (Or.inr rfl) (w_p1 (by decide) (Or.inr rfl) e19929))), (w_p1 (by decide) (Or.inr rfl) (w_p1 (by decide) (Or.inr rfl) (w_e1 _ _ _))), (w_p1 (by decide) (Or.inr rfl) (w_e1 _ _ _)), (w_e1 _ _ _), by omega, by decide, by omega, hT20328, (LPI.eq (LPI.next q19937 (OPD.part o20236 (by omega)) tok20327 i20320 ⟨by omega, by omega⟩ (rX.c (b := 2) (((hF20323.1 176 2 mf_X5_step_176_176_2).trans ((hF20314.1 176 2 mf_X5_joinHere_176_176_2).trans (hF20298.1 176 2 mf_X4_add_177_176_2))))) (rX.c (b := 6) (((hF20323.1 176 6 mf_X5_step_176_176_6).trans ((hF20314.1 176 6 mf_X5_joinHere_176_176_6).trans (hF20298.1 176 6 mf_X4_add_177_176_6)))))) rfl rfl rfl), ((PRG0.tr q19938 (PRG0.tr o20235 (PRG0.tr (PRG0.step o20234 tok20327_ (rX.c (b := 2) (((hF20323.1 176 2 mf_X5_step_176_176_2).trans ((hF20314.1 176 2 mf_X5_joinHere_176_176_2).trans (hF20298.1 176 2 mf_X4_add_177_176_2))))) (JN.ne i20320)) (PRG0.eq rfl rfl)))).le (by omega)), by omega⟩ ⟨by omega, by omega⟩
                  · have c20333_ : a1.toInt = 1 := en_i_ne_f c20333
                    exfalso; omega
              · have c20319_ : v20315.toInt = (-1) := en_i_ne_f c20319
                have i20342 := BLN.no hb20318 (by omega)
                refine At.enter rfl ?_
                refine r_vret ?_
                have x20343 := rX.e hI20313 (b := 2) ((((hF20314.1 176 2 mf_X5_joinHere_176_176_2).trans (hF20298.1 176 2 mf_X4_add_177_176_2)).trans hv20240))
                have x20344 := rX.e hI20313 (b := 4) ((((hF20314.1 176 4 mf_X5_joinHere_176_176_4).trans (hF20298.1 176 4 mf_X4_add_177_176_4)).trans hv20242))
                obtain ⟨v20345, hv20345⟩ : ∃ v, gI g20228 176 6 = v := ⟨_, rfl⟩
                have tv20345 := congrArg Int32.toInt hv20345
                have x20346 := rX.e hI20313 (b := 6) ((((hF20314.1 176 6 mf_X5_joinHere_176_176_6).trans (hF20298.1 176 6 mf_X4_add_177_176_6)).trans hv20345))
                obtain ⟨v20347, hv20347⟩ : ∃ v, gI g0 176 2 = v := ⟨_, rfl⟩
                have tv20347 := congrArg Int32.toInt hv20347
                have x20348 := rX.e hI0 (b := 2) (hv20347)
                have x20349 := rX.e hI0 (b := 4) (hv19943)
                have x20350 := rX.e hI19922 (b := 2) (hv20237)
                have x20351 := rX.e hI19922 (b := 4) (hv19946)
                exact ⟨_, rfl, hI20313, hF20317, rfl, ⟨(TKX.c o20234 (((hF20314.2.1 175 ma_X5_joinHere_176_175).trans (hF20298.2.1 175 ma_X4_add_177_175))) (((hF20314.1 174 1 mf_X5_joinHere_176_174_1).trans (hF20298.1 174 1 mf_X4_add_177_174_1))) (((hF20314.1 176 3 mf_X5_joinHere_176_176_3).trans (hF20298.1 176 3 mf_X4_add_177_176_3))) (((hF20314.1 176 4 mf_X5_joinHere_176_176_4).trans (hF20298.1 176 4 mf_X4_add_177_176_4))) (((hF20314.1 176 5 mf_X5_joinHere_176_176_5).trans (hF20298.1 176 5 mf_X4_add_177_176_5)))), (PRG0.tr q19938 (PRG0.tr o20235 (PRG0.eq (rX.c (b := 4) (((hF20314.1 176 4 mf_X5_joinHere_176_176_4).trans (hF20298.1 176 4 mf_X4_add_177_176_4)))) (rX.c (b := 2) (((hF20314.1 176 2 mf_X5_joinHere_176_176_2).trans (hF20298.1 176 2 mf_X4_add_177_176_2))))))).le (by omega), LPI.end_ q19937 (OPD.part o20236 (by omega)) (rX.c (b := 2) (((hF20314.1 176 2 mf_X5_joinHere_176_176_2).trans (hF20298.1 176 2 mf_X4_add_177_176_2)))) (rX.c (b := 4) (((hF20314.1 176 4 mf_X5_joinHere_176_176_4).trans (hF20298.1 176 4 mf_X4_add_177_176_4)))) (rX.c (b := 6) (((hF20314.1 176 6 mf_X5_joinHere_176_176_6).trans (hF20298.1 176 6 mf_X4_add_177_176_6)))), (fun hz => (by rw [CDX.c (((hF20314.2.1 175 ma_X5_joinHere_176_175).trans (hF20298.2.1 175 ma_X4_add_177_175))) (((hF20314.1 176 3 mf_X5_joinHere_176_176_3).trans (hF20298.1 176 3 mf_X4_add_177_176_3))) (((hF20314.1 176 4 mf_X5_joinHere_176_176_4).trans (hF20298.1 176 4 mf_X4_add_177_176_4))) (((hF20314.1 176 5 mf_X5_joinHere_176_176_5).trans (hF20298.1 176 5 mf_X4_add_177_176_5)))]; exact NJ.mk1 (by omega) i20342))⟩⟩
        · have c20244_ : x19919.toInt ≠ (-1) := en_i_eq_f c20244
          refine At.enter rfl ?_
          refine r_aload_n e19927 ?_
          refine q_getR (Sh.ref hI20229.1 kx_176 rfl) ?_
          refine r_iload e19931 ?_
          refine r_callV 65 rfl [.ref 177, .int x19919] [] (Nat.le_of_ble_eq_true rfl) rfl (T_X4_aimAtEnd_177 _ hI20229 x19919) ?_
          rintro _ _ ⟨g20352, rfl, hI20353, hF20354, rfl⟩
          refine At.stn ?_
          have hF20357 := Fr.tr hF20233 hF20354 rfl rfl
          refine At.enter rfl ?_
          refine r_goto ?_
          refine At.enter rfl ?_
          refine r_aload_n e19927 ?_
          refine q_getI (Sh.int hI20353.1 kx_176 rfl) v20240 ((hF20354.1 176 2 mf_X4_aimAtEnd_177_176_2).trans hv20240) ?_
          refine r_iconst (-1) rfl ?_
          refine r_ics 91 rfl (fun c20358 => ?_) (fun c20358 => ?_)
          · have c20358_ : v20240.toInt ≠ (-1) := en_i_ne_t c20358
            refine At.enter rfl ?_
            refine r_iconst (-1) rfl ?_
            refine Ar.fall 100 rfl ?_
            refine At.enter rfl ?_
            refine r_istore_n _ rfl ?_
            refine r_iload_n (w_e1 _ _ _) ?_
            refine r_iconst (-1) rfl ?_
            refine r_icf 106 rfl (by decide) ?_
            refine At.enter rfl ?_
            refine r_vret ?_
            have x20359 := rX.e hI20353 (b := 2) (((hF20354.1 176 2 mf_X4_aimAtEnd_177_176_2).trans hv20240))
            have x20360 := rX.e hI20353 (b := 4) (((hF20354.1 176 4 mf_X4_aimAtEnd_177_176_4).trans hv20242))
            obtain ⟨v20361, hv20361⟩ : ∃ v, gI g20228 176 6 = v := ⟨_, rfl⟩
            have tv20361 := congrArg Int32.toInt hv20361
            have x20362 := rX.e hI20353 (b := 6) (((hF20354.1 176 6 mf_X4_aimAtEnd_177_176_6).trans hv20361))
            obtain ⟨v20363, hv20363⟩ : ∃ v, gI g0 176 2 = v := ⟨_, rfl⟩
            have tv20363 := congrArg Int32.toInt hv20363
            have x20364 := rX.e hI0 (b := 2) (hv20363)
            have x20365 := rX.e hI0 (b := 4) (hv19943)
            have x20366 := rX.e hI19922 (b := 2) (hv20237)
            have x20367 := rX.e hI19922 (b := 4) (hv19946)
            exact ⟨_, rfl, hI20353, hF20357, rfl, ⟨(TKX.c o20234 ((hF20354.2.1 175 ma_X4_aimAtEnd_177_175)) ((hF20354.1 174 1 mf_X4_aimAtEnd_177_174_1)) ((hF20354.1 176 3 mf_X4_aimAtEnd_177_176_3)) ((hF20354.1 176 4 mf_X4_aimAtEnd_177_176_4)) ((hF20354.1 176 5 mf_X4_aimAtEnd_177_176_5))), (PRG0.tr q19938 (PRG0.tr o20235 (PRG0.eq (rX.c (b := 4) ((hF20354.1 176 4 mf_X4_aimAtEnd_177_176_4))) (rX.c (b := 2) ((hF20354.1 176 2 mf_X4_aimAtEnd_177_176_2)))))).le (by omega), LPI.end_ q19937 (OPD.part o20236 (by omega)) (rX.c (b := 2) ((hF20354.1 176 2 mf_X4_aimAtEnd_177_176_2))) (rX.c (b := 4) ((hF20354.1 176 4 mf_X4_aimAtEnd_177_176_4))) (rX.c (b := 6) ((hF20354.1 176 6 mf_X4_aimAtEnd_177_176_6))), (fun hz => absurd hz (by omega))⟩⟩
          · have c20358_ : v20240.toInt = (-1) := en_i_ne_f c20358
            refine At.enter rfl ?_
            refine r_aload_n e19927 ?_
            refine r_iload_n e19928 ?_
            refine r_callV 96 rfl [.ref 176, .int a1] [] (Nat.le_of_ble_eq_true rfl) rfl (T_X5_joinHere_176 _ hI20353 a1 (by omega) (TKX.c o20234 ((hF20354.2.1 175 ma_X4_aimAtEnd_177_175)) ((hF20354.1 174 1 mf_X4_aimAtEnd_177_174_1)) ((hF20354.1 176 3 mf_X4_aimAtEnd_177_176_3)) ((hF20354.1 176 4 mf_X4_aimAtEnd_177_176_4)) ((hF20354.1 176 5 mf_X4_aimAtEnd_177_176_5)))) ?_
            rintro _ _ ⟨g20368, rfl, hI20369, hF20370, v20371, rfl, hr20372⟩
            refine At.sti ?_
            have hF20373 := Fr.tr hF20357 hF20370 rfl rfl
            have hb20374 : BLN (JN a1.toInt (CDX g20228)) v20371.toInt := by have z := hr20372.2; rw [CDX.c ((hF20354.2.1 175 ma_X4_aimAtEnd_177_175)) ((hF20354.1 176 3 mf_X4_aimAtEnd_177_176_3)) ((hF20354.1 176 4 mf_X4_aimAtEnd_177_176_4)) ((hF20354.1 176 5 mf_X4_aimAtEnd_177_176_5))] at z; exact z
            refine At.enter rfl ?_
            refine r_goto ?_
            refine At.enter rfl ?_
            refine r_istore_n _ rfl ?_
            refine r_iload_n (w_e1 _ _ _) ?_
            refine r_iconst (-1) rfl ?_
            refine r_ics 106 rfl (fun c20375 => ?_) (fun c20375 => ?_)
            · have c20375_ : v20371.toInt ≠ (-1) := en_i_ne_t c20375
              have i20376 := BLN.yes hb20374 (by omega)
              refine At.enter rfl ?_
              refine r_aload_n (w_p1 (by decide) (Or.inr rfl) e19927) ?_
              refine r_callV 111 rfl [.ref 176] [] (Nat.le_of_ble_eq_true rfl) rfl (T_X5_step_176 _ hI20369 (TKX.c o20234 (((hF20370.2.1 175 ma_X5_joinHere_176_175).trans (hF20354.2.1 175 ma_X4_aimAtEnd_177_175))) (((hF20370.1 174 1 mf_X5_joinHere_176_174_1).trans (hF20354.1 174 1 mf_X4_aimAtEnd_177_174_1))) (((hF20370.1 176 3 mf_X5_joinHere_176_176_3).trans (hF20354.1 176 3 mf_X4_aimAtEnd_177_176_3))) (((hF20370.1 176 4 mf_X5_joinHere_176_176_4).trans (hF20354.1 176 4 mf_X4_aimAtEnd_177_176_4))) (((hF20370.1 176 5 mf_X5_joinHere_176_176_5).trans (hF20354.1 176 5 mf_X4_aimAtEnd_177_176_5)))).1 (TKX.c o20234 (((hF20370.2.1 175 ma_X5_joinHere_176_175).trans (hF20354.2.1 175 ma_X4_aimAtEnd_177_175))) (((hF20370.1 174 1 mf_X5_joinHere_176_174_1).trans (hF20354.1 174 1 mf_X4_aimAtEnd_177_174_1))) (((hF20370.1 176 3 mf_X5_joinHere_176_176_3).trans (hF20354.1 176 3 mf_X4_aimAtEnd_177_176_3))) (((hF20370.1 176 4 mf_X5_joinHere_176_176_4).trans (hF20354.1 176 4 mf_X4_aimAtEnd_177_176_4))) (((hF20370.1 176 5 mf_X5_joinHere_176_176_5).trans (hF20354.1 176 5 mf_X4_aimAtEnd_177_176_5)))).2.1.le.2.1) ?_
              rintro _ _ ⟨g20377, rfl, hI20378, hF20379, rfl, hr20381⟩
              refine At.stn ?_
              have hF20382 := Fr.tr hF20373 hF20379 rfl rfl
              have tok20383_ := hr20381.2
              rw [TX.c (((hF20370.2.1 175 ma_X5_joinHere_176_175).trans (hF20354.2.1 175 ma_X4_aimAtEnd_177_175))), nX.c (((hF20370.1 174 1 mf_X5_joinHere_176_174_1).trans (hF20354.1 174 1 mf_X4_aimAtEnd_177_174_1))), rX.c (b := 5) (((hF20370.1 176 5 mf_X5_joinHere_176_176_5).trans (hF20354.1 176 5 mf_X4_aimAtEnd_177_176_5)))] at tok20383_
              have tok20383 := TKX.tok o20234 tok20383_
              rw [TX.c (((hF20230.2.1 175 (by decide)).trans (hF19923.2.1 175 (by decide)))), nX.c (((hF20230.1 174 1 (by decide)).trans (hF19923.1 174 1 (by decide))))] at tok20383
              have hT20384 := hr20381.1
              have x20385 := rX.e hI20369 (b := 4) ((((hF20370.1 176 4 mf_X5_joinHere_176_176_4).trans (hF20354.1 176 4 mf_X4_aimAtEnd_177_176_4)).trans hv20242))
              obtain ⟨v20386, hv20386⟩ : ∃ v, gI g20377 176 4 = v := ⟨_, rfl⟩
              have rv20386 := RgF.at hI20378.2.1 (p := 176) (b := 4) rfl
              rw [hv20386] at rv20386
              dsimp only at rv20386
              have tv20386 := congrArg Int32.toInt hv20386
              have x20387 := rX.e hI20378 (b := 4) (hv20386)
              refine At.enter rfl ?_
              refine r_iload_n (w_p1 (by decide) (Or.inr rfl) e19928) ?_
              refine r_ifs 115 rfl (fun c20388 => ?_) (fun c20388 => ?_)
              · have c20388_ : a1.toInt = 0 := en_k_eq_t c20388
                exfalso; omega
              · have c20388_ : a1.toInt ≠ 0 := en_k_eq_f c20388
                refine At.enter rfl ?_
                refine r_iload_n (w_p1 (by decide) (Or.inr rfl) e19928) ?_
                refine r_iconst 1 rfl ?_
                refine r_ics 120 rfl (fun c20389 => ?_) (fun c20389 => ?_)
                · have c20389_ : a1.toInt ≠ 1 := en_i_ne_t c20389
                  refine At.enter rfl ?_
                  refine r_iconst (-1) rfl ?_
                  refine Ar.fall 133 rfl ?_
                  refine At.enter rfl ?_
                  refine r_istore _ rfl ?_
                  refine q_iinc (w_p1 (by decide) (Or.inr rfl) (w_p1 (by decide) (Or.inr rfl) e19932)) (x19920.toInt + 1) rfl (by omega) (fun v20390 hv20390 => ?_)
                  refine r_goto ?_
                  have x20391 := rX.e hI19922 (b := 4) (hv19946)
                  have x20392 := rX.e hI20229 (b := 2) (hv20240)
                  have x20393 := rX.e hI20229 (b := 4) (hv20242)
                  have x20394 := rX.e hI20378 (b := 4) (hv20386)
                  have x20395 := rX.e hI20378 (b := 4) (hv20386)
                  have y20396 := (o20235.2.2 (by omega)).2
                  have y20397 := ((PRG0.step o20234 tok20383_ (rX.c (b := 2) (((hF20379.1 176 2 mf_X5_step_176_176_2).trans ((hF20370.1 176 2 mf_X5_joinHere_176_176_2).trans (hF20354.1 176 2 mf_X4_aimAtEnd_177_176_2))))) (JN.ne i20376)).2.2 (by rw [(rX.c (b := 2) (((hF20379.1 176 2 mf_X5_step_176_176_2).trans ((hF20370.1 176 2 mf_X5_joinHere_176_176_2).trans (hF20354.1 176 2 mf_X4_aimAtEnd_177_176_2)))))]; omega)).2
                  exact ih19926 (400 - v20390.toInt) _ _ ⟨v20371, (-1), v20390, by first | rfl | omega, hI20378, hF20382, (w_p1 (by decide) (Or.inr rfl) (w_p1 (by decide) (Or.inr rfl) (w_p1 (by decide) (Or.inr rfl) e19927))), (w_p1 (by decide) (Or.inr rfl) (w_p1 (by decide) (Or.inr rfl) (w_p1 (by decide) (Or.inr rfl) e19928))), (w_p1 (by decide) (Or.inr rfl) (w_p1 (by decide) (Or.inr rfl) (w_p1 (by decide) (Or.inr rfl) e19929))), (w_p1 (by decide) (Or.inr rfl) (w_p1 (by decide) (Or.inr rfl) (w_e1 _ _ _))), (w_p1 (by decide) (Or.inr rfl) (w_e1 _ _ _)), (w_e1 _ _ _), by omega, by decide, by omega, hT20384, (LPI.eq (LPI.next q19937 (OPD.part o20236 (by omega)) tok20383 i20376 ⟨by omega, by omega⟩ (rX.c (b := 2) (((hF20379.1 176 2 mf_X5_step_176_176_2).trans ((hF20370.1 176 2 mf_X5_joinHere_176_176_2).trans (hF20354.1 176 2 mf_X4_aimAtEnd_177_176_2))))) (rX.c (b := 6) (((hF20379.1 176 6 mf_X5_step_176_176_6).trans ((hF20370.1 176 6 mf_X5_joinHere_176_176_6).trans (hF20354.1 176 6 mf_X4_aimAtEnd_177_176_6)))))) rfl rfl rfl), ((PRG0.tr q19938 (PRG0.tr o20235 (PRG0.tr (PRG0.step o20234 tok20383_ (rX.c (b := 2) (((hF20379.1 176 2 mf_X5_step_176_176_2).trans ((hF20370.1 176 2 mf_X5_joinHere_176_176_2).trans (hF20354.1 176 2 mf_X4_aimAtEnd_177_176_2))))) (JN.ne i20376)) (PRG0.eq rfl rfl)))).le (by omega)), by omega⟩ ⟨by omega, by omega⟩
                · have c20389_ : a1.toInt = 1 := en_i_ne_f c20389
                  exfalso; omega
            · have c20375_ : v20371.toInt = (-1) := en_i_ne_f c20375
              have i20398 := BLN.no hb20374 (by omega)
              refine At.enter rfl ?_
              refine r_vret ?_
              have x20399 := rX.e hI20369 (b := 2) ((((hF20370.1 176 2 mf_X5_joinHere_176_176_2).trans (hF20354.1 176 2 mf_X4_aimAtEnd_177_176_2)).trans hv20240))
              have x20400 := rX.e hI20369 (b := 4) ((((hF20370.1 176 4 mf_X5_joinHere_176_176_4).trans (hF20354.1 176 4 mf_X4_aimAtEnd_177_176_4)).trans hv20242))
              obtain ⟨v20401, hv20401⟩ : ∃ v, gI g20228 176 6 = v := ⟨_, rfl⟩
              have tv20401 := congrArg Int32.toInt hv20401
              have x20402 := rX.e hI20369 (b := 6) ((((hF20370.1 176 6 mf_X5_joinHere_176_176_6).trans (hF20354.1 176 6 mf_X4_aimAtEnd_177_176_6)).trans hv20401))
              obtain ⟨v20403, hv20403⟩ : ∃ v, gI g0 176 2 = v := ⟨_, rfl⟩
              have tv20403 := congrArg Int32.toInt hv20403
              have x20404 := rX.e hI0 (b := 2) (hv20403)
              have x20405 := rX.e hI0 (b := 4) (hv19943)
              have x20406 := rX.e hI19922 (b := 2) (hv20237)
              have x20407 := rX.e hI19922 (b := 4) (hv19946)
              exact ⟨_, rfl, hI20369, hF20373, rfl, ⟨(TKX.c o20234 (((hF20370.2.1 175 ma_X5_joinHere_176_175).trans (hF20354.2.1 175 ma_X4_aimAtEnd_177_175))) (((hF20370.1 174 1 mf_X5_joinHere_176_174_1).trans (hF20354.1 174 1 mf_X4_aimAtEnd_177_174_1))) (((hF20370.1 176 3 mf_X5_joinHere_176_176_3).trans (hF20354.1 176 3 mf_X4_aimAtEnd_177_176_3))) (((hF20370.1 176 4 mf_X5_joinHere_176_176_4).trans (hF20354.1 176 4 mf_X4_aimAtEnd_177_176_4))) (((hF20370.1 176 5 mf_X5_joinHere_176_176_5).trans (hF20354.1 176 5 mf_X4_aimAtEnd_177_176_5)))), (PRG0.tr q19938 (PRG0.tr o20235 (PRG0.eq (rX.c (b := 4) (((hF20370.1 176 4 mf_X5_joinHere_176_176_4).trans (hF20354.1 176 4 mf_X4_aimAtEnd_177_176_4)))) (rX.c (b := 2) (((hF20370.1 176 2 mf_X5_joinHere_176_176_2).trans (hF20354.1 176 2 mf_X4_aimAtEnd_177_176_2))))))).le (by omega), LPI.end_ q19937 (OPD.part o20236 (by omega)) (rX.c (b := 2) (((hF20370.1 176 2 mf_X5_joinHere_176_176_2).trans (hF20354.1 176 2 mf_X4_aimAtEnd_177_176_2)))) (rX.c (b := 4) (((hF20370.1 176 4 mf_X5_joinHere_176_176_4).trans (hF20354.1 176 4 mf_X4_aimAtEnd_177_176_4)))) (rX.c (b := 6) (((hF20370.1 176 6 mf_X5_joinHere_176_176_6).trans (hF20354.1 176 6 mf_X4_aimAtEnd_177_176_6)))), (fun hz => (by rw [CDX.c (((hF20370.2.1 175 ma_X5_joinHere_176_175).trans (hF20354.2.1 175 ma_X4_aimAtEnd_177_175))) (((hF20370.1 176 3 mf_X5_joinHere_176_176_3).trans (hF20354.1 176 3 mf_X4_aimAtEnd_177_176_3))) (((hF20370.1 176 4 mf_X5_joinHere_176_176_4).trans (hF20354.1 176 4 mf_X4_aimAtEnd_177_176_4))) (((hF20370.1 176 5 mf_X5_joinHere_176_176_5).trans (hF20354.1 176 5 mf_X4_aimAtEnd_177_176_5)))]; exact NJ.mk1 (by omega) i20398))⟩⟩
    · have c19959_ : a1.toInt = 1 := en_i_ne_f c19959
      refine At.enter rfl ?_
      refine r_aload_n e19927 ?_
      refine r_iload_n e19929 ?_
      refine r_callV 26 rfl [.ref 176, .int a2] [] (Nat.le_of_ble_eq_true rfl) rfl (IHP _ (by omega) hI19922 a2 (by omega) (by omega) q19936) ?_
      rintro _ _ ⟨g20408, rfl, hI20409, hF20410, rfl, hr20412⟩
      refine At.stn ?_
      have hF20413 := Fr.tr hF19923 hF20410 rfl rfl
      obtain ⟨v20417, hv20417⟩ : ∃ v, gI g19921 176 2 = v := ⟨_, rfl⟩
      have tv20417 := congrArg Int32.toInt hv20417
      have x20418 := rX.e hI19922 (b := 2) (hv20417)
      have x20419 := rX.e hI19922 (b := 4) (hv19946)
      obtain ⟨o20414, o20415, o20416⟩ := hr20412
      rw [TX.ci hI19922 ((hF19923.2.1 175 (by decide))), nX.ci hI19922 ((hF19923.1 174 1 (by decide)))] at o20416
      obtain ⟨v20420, hv20420⟩ : ∃ v, gI g20408 176 2 = v := ⟨_, rfl⟩
      have tv20420 := congrArg Int32.toInt hv20420
      have x20421 := rX.e hI20409 (b := 2) (hv20420)
      obtain ⟨v20422, hv20422⟩ : ∃ v, gI g20408 176 4 = v := ⟨_, rfl⟩
      have rv20422 := RgF.at hI20409.2.1 (p := 176) (b := 4) rfl
      rw [hv20422] at rv20422
      dsimp only at rv20422
      have tv20422 := congrArg Int32.toInt hv20422
      have x20423 := rX.e hI20409 (b := 4) (hv20422)
      refine At.enter rfl ?_
      refine r_goto ?_
      refine At.enter rfl ?_
      refine r_iload e19931 ?_
      refine r_iconst (-1) rfl ?_
      refine r_ics 56 rfl (fun c20424 => ?_) (fun c20424 => ?_)
      · have c20424_ : x19919.toInt = (-1) := en_i_eq_t c20424
        refine At.enter rfl ?_
        refine r_iload_n e19930 ?_
        refine r_iconst (-1) rfl ?_
        refine r_ics 73 rfl (fun c20425 => ?_) (fun c20425 => ?_)
        · have c20425_ : x19918.toInt = (-1) := en_i_eq_t c20425
          refine At.enter rfl ?_
          refine r_aload_n e19927 ?_
          refine q_getI (Sh.int hI20409.1 kx_176 rfl) v20420 hv20420 ?_
          refine r_iconst (-1) rfl ?_
          refine r_ics 91 rfl (fun c20426 => ?_) (fun c20426 => ?_)
          · have c20426_ : v20420.toInt ≠ (-1) := en_i_ne_t c20426
            refine At.enter rfl ?_
            refine r_iconst (-1) rfl ?_
            refine Ar.fall 100 rfl ?_
            refine At.enter rfl ?_
            refine r_istore_n _ rfl ?_
            refine r_iload_n (w_e1 _ _ _) ?_
            refine r_iconst (-1) rfl ?_
            refine r_icf 106 rfl (by decide) ?_
            refine At.enter rfl ?_
            refine r_vret ?_
            have x20427 := rX.e hI20409 (b := 2) (hv20420)
            have x20428 := rX.e hI20409 (b := 4) (hv20422)
            obtain ⟨v20429, hv20429⟩ : ∃ v, gI g20408 176 6 = v := ⟨_, rfl⟩
            have tv20429 := congrArg Int32.toInt hv20429
            have x20430 := rX.e hI20409 (b := 6) (hv20429)
            obtain ⟨v20431, hv20431⟩ : ∃ v, gI g0 176 2 = v := ⟨_, rfl⟩
            have tv20431 := congrArg Int32.toInt hv20431
            have x20432 := rX.e hI0 (b := 2) (hv20431)
            have x20433 := rX.e hI0 (b := 4) (hv19943)
            have x20434 := rX.e hI19922 (b := 2) (hv20417)
            have x20435 := rX.e hI19922 (b := 4) (hv19946)
            exact ⟨_, rfl, hI20409, hF20413, rfl, ⟨o20414, (PRG0.tr q19938 (PRG0.tr o20415 (PRG0.eq rfl rfl))).le (by omega), LPI.end_ q19937 (OPD.plain o20416 (by omega)) rfl rfl rfl, (fun hz => absurd hz (by omega))⟩⟩
          · have c20426_ : v20420.toInt = (-1) := en_i_ne_f c20426
            refine At.enter rfl ?_
            refine r_aload_n e19927 ?_
            refine r_iload_n e19928 ?_
            refine r_callV 96 rfl [.ref 176, .int a1] [] (Nat.le_of_ble_eq_true rfl) rfl (T_X5_joinHere_176 _ hI20409 a1 (by omega) o20414) ?_
            rintro _ _ ⟨g20436, rfl, hI20437, hF20438, v20439, rfl, hr20440⟩
            refine At.sti ?_
            have hF20441 := Fr.tr hF20413 hF20438 rfl rfl
            have hb20442 : BLN (JN a1.toInt (CDX g20408)) v20439.toInt := hr20440.2
            refine At.enter rfl ?_
            refine r_goto ?_
            refine At.enter rfl ?_
            refine r_istore_n _ rfl ?_
            refine r_iload_n (w_e1 _ _ _) ?_
            refine r_iconst (-1) rfl ?_
            refine r_ics 106 rfl (fun c20443 => ?_) (fun c20443 => ?_)
            · have c20443_ : v20439.toInt ≠ (-1) := en_i_ne_t c20443
              have i20444 := BLN.yes hb20442 (by omega)
              refine At.enter rfl ?_
              refine r_aload_n (w_p1 (by decide) (Or.inr rfl) e19927) ?_
              refine r_callV 111 rfl [.ref 176] [] (Nat.le_of_ble_eq_true rfl) rfl (T_X5_step_176 _ hI20437 (TKX.c o20414 ((hF20438.2.1 175 ma_X5_joinHere_176_175)) ((hF20438.1 174 1 mf_X5_joinHere_176_174_1)) ((hF20438.1 176 3 mf_X5_joinHere_176_176_3)) ((hF20438.1 176 4 mf_X5_joinHere_176_176_4)) ((hF20438.1 176 5 mf_X5_joinHere_176_176_5))).1 (TKX.c o20414 ((hF20438.2.1 175 ma_X5_joinHere_176_175)) ((hF20438.1 174 1 mf_X5_joinHere_176_174_1)) ((hF20438.1 176 3 mf_X5_joinHere_176_176_3)) ((hF20438.1 176 4 mf_X5_joinHere_176_176_4)) ((hF20438.1 176 5 mf_X5_joinHere_176_176_5))).2.1.le.2.1) ?_
              rintro _ _ ⟨g20445, rfl, hI20446, hF20447, rfl, hr20449⟩
              refine At.stn ?_
              have hF20450 := Fr.tr hF20441 hF20447 rfl rfl
              have tok20451_ := hr20449.2
              rw [TX.c ((hF20438.2.1 175 ma_X5_joinHere_176_175)), nX.c ((hF20438.1 174 1 mf_X5_joinHere_176_174_1)), rX.c (b := 5) ((hF20438.1 176 5 mf_X5_joinHere_176_176_5))] at tok20451_
              have tok20451 := TKX.tok o20414 tok20451_
              rw [TX.c (((hF20410.2.1 175 (by decide)).trans (hF19923.2.1 175 (by decide)))), nX.c (((hF20410.1 174 1 (by decide)).trans (hF19923.1 174 1 (by decide))))] at tok20451
              have hT20452 := hr20449.1
              have x20453 := rX.e hI20437 (b := 4) (((hF20438.1 176 4 mf_X5_joinHere_176_176_4).trans hv20422))
              obtain ⟨v20454, hv20454⟩ : ∃ v, gI g20445 176 4 = v := ⟨_, rfl⟩
              have rv20454 := RgF.at hI20446.2.1 (p := 176) (b := 4) rfl
              rw [hv20454] at rv20454
              dsimp only at rv20454
              have tv20454 := congrArg Int32.toInt hv20454
              have x20455 := rX.e hI20446 (b := 4) (hv20454)
              refine At.enter rfl ?_
              refine r_iload_n (w_p1 (by decide) (Or.inr rfl) e19928) ?_
              refine r_ifs 115 rfl (fun c20456 => ?_) (fun c20456 => ?_)
              · have c20456_ : a1.toInt = 0 := en_k_eq_t c20456
                exfalso; omega
              · have c20456_ : a1.toInt ≠ 0 := en_k_eq_f c20456
                refine At.enter rfl ?_
                refine r_iload_n (w_p1 (by decide) (Or.inr rfl) e19928) ?_
                refine r_iconst 1 rfl ?_
                refine r_ics 120 rfl (fun c20457 => ?_) (fun c20457 => ?_)
                · have c20457_ : a1.toInt ≠ 1 := en_i_ne_t c20457
                  exfalso; omega
                · have c20457_ : a1.toInt = 1 := en_i_ne_f c20457
                  refine At.enter rfl ?_
                  refine r_aload_n (w_p1 (by decide) (Or.inr rfl) e19927) ?_
                  refine q_getR (Sh.ref hI20446.1 kx_176 rfl) ?_
                  refine r_iload_n (w_e1 _ _ _) ?_
                  refine r_iconst 0 rfl ?_
                  refine r_callV 129 rfl [.ref 177, .int v20439, .int 0] [] (Nat.le_of_ble_eq_true rfl) rfl (T_X4_add_177 _ hI20446 v20439 0) ?_
                  rintro _ _ ⟨g20458, rfl, hI20459, hF20460, v20461, rfl, hr20462⟩
                  refine At.sti ?_
                  have hF20463 := Fr.tr hF20450 hF20460 rfl rfl
                  refine At.enter rfl ?_
                  refine r_goto ?_
                  refine At.enter rfl ?_
                  refine r_istore _ rfl ?_
                  refine q_iinc (w_p1 (by decide) (Or.inr rfl) (w_p1 (by decide) (Or.inr rfl) e19932)) (x19920.toInt + 1) rfl (by omega) (fun v20464 hv20464 => ?_)
                  refine r_goto ?_
                  have x20465 := rX.e hI19922 (b := 4) (hv19946)
                  have x20466 := rX.e hI20409 (b := 2) (hv20420)
                  have x20467 := rX.e hI20409 (b := 4) (hv20422)
                  have x20468 := rX.e hI20446 (b := 4) (hv20454)
                  have x20469 := rX.e hI20459 (b := 4) (((hF20460.1 176 4 mf_X4_add_177_176_4).trans hv20454))
                  have y20470 := (o20415.2.2 (by omega)).2
                  have y20471 := ((PRG0.step o20414 tok20451_ (rX.c (b := 2) (((hF20447.1 176 2 mf_X5_step_176_176_2).trans (hF20438.1 176 2 mf_X5_joinHere_176_176_2)))) (JN.ne i20444)).2.2 (by rw [(rX.c (b := 2) (((hF20447.1 176 2 mf_X5_step_176_176_2).trans (hF20438.1 176 2 mf_X5_joinHere_176_176_2))))]; omega)).2
                  exact ih19926 (400 - v20464.toInt) _ _ ⟨v20439, v20461, v20464, by first | rfl | omega, hI20459, hF20463, (w_p1 (by decide) (Or.inr rfl) (w_p1 (by decide) (Or.inr rfl) (w_p1 (by decide) (Or.inr rfl) e19927))), (w_p1 (by decide) (Or.inr rfl) (w_p1 (by decide) (Or.inr rfl) (w_p1 (by decide) (Or.inr rfl) e19928))), (w_p1 (by decide) (Or.inr rfl) (w_p1 (by decide) (Or.inr rfl) (w_p1 (by decide) (Or.inr rfl) e19929))), (w_p1 (by decide) (Or.inr rfl) (w_p1 (by decide) (Or.inr rfl) (w_e1 _ _ _))), (w_p1 (by decide) (Or.inr rfl) (w_e1 _ _ _)), (w_e1 _ _ _), by omega, by omega, by omega, (TKX.c hT20452 ((hF20460.2.1 175 ma_X4_add_177_175)) ((hF20460.1 174 1 mf_X4_add_177_174_1)) ((hF20460.1 176 3 mf_X4_add_177_176_3)) ((hF20460.1 176 4 mf_X4_add_177_176_4)) ((hF20460.1 176 5 mf_X4_add_177_176_5))), (LPI.eq (LPI.next q19937 (OPD.plain o20416 (by omega)) tok20451 i20444 ⟨by omega, by omega⟩ (rX.c (b := 2) (((hF20447.1 176 2 mf_X5_step_176_176_2).trans (hF20438.1 176 2 mf_X5_joinHere_176_176_2)))) (rX.c (b := 6) (((hF20447.1 176 6 mf_X5_step_176_176_6).trans (hF20438.1 176 6 mf_X5_joinHere_176_176_6))))) (rX.c (b := 2) ((hF20460.1 176 2 mf_X4_add_177_176_2))) (rX.c (b := 4) ((hF20460.1 176 4 mf_X4_add_177_176_4))) (rX.c (b := 6) ((hF20460.1 176 6 mf_X4_add_177_176_6)))), ((PRG0.tr q19938 (PRG0.tr o20415 (PRG0.tr (PRG0.step o20414 tok20451_ (rX.c (b := 2) (((hF20447.1 176 2 mf_X5_step_176_176_2).trans (hF20438.1 176 2 mf_X5_joinHere_176_176_2)))) (JN.ne i20444)) (PRG0.eq (rX.c (b := 4) ((hF20460.1 176 4 mf_X4_add_177_176_4))) (rX.c (b := 2) ((hF20460.1 176 2 mf_X4_add_177_176_2))))))).le (by omega)), by omega⟩ ⟨by omega, by omega⟩
            · have c20443_ : v20439.toInt = (-1) := en_i_ne_f c20443
              have i20472 := BLN.no hb20442 (by omega)
              refine At.enter rfl ?_
              refine r_vret ?_
              have x20473 := rX.e hI20437 (b := 2) (((hF20438.1 176 2 mf_X5_joinHere_176_176_2).trans hv20420))
              have x20474 := rX.e hI20437 (b := 4) (((hF20438.1 176 4 mf_X5_joinHere_176_176_4).trans hv20422))
              obtain ⟨v20475, hv20475⟩ : ∃ v, gI g20408 176 6 = v := ⟨_, rfl⟩
              have tv20475 := congrArg Int32.toInt hv20475
              have x20476 := rX.e hI20437 (b := 6) (((hF20438.1 176 6 mf_X5_joinHere_176_176_6).trans hv20475))
              obtain ⟨v20477, hv20477⟩ : ∃ v, gI g0 176 2 = v := ⟨_, rfl⟩
              have tv20477 := congrArg Int32.toInt hv20477
              have x20478 := rX.e hI0 (b := 2) (hv20477)
              have x20479 := rX.e hI0 (b := 4) (hv19943)
              have x20480 := rX.e hI19922 (b := 2) (hv20417)
              have x20481 := rX.e hI19922 (b := 4) (hv19946)
              exact ⟨_, rfl, hI20437, hF20441, rfl, ⟨(TKX.c o20414 ((hF20438.2.1 175 ma_X5_joinHere_176_175)) ((hF20438.1 174 1 mf_X5_joinHere_176_174_1)) ((hF20438.1 176 3 mf_X5_joinHere_176_176_3)) ((hF20438.1 176 4 mf_X5_joinHere_176_176_4)) ((hF20438.1 176 5 mf_X5_joinHere_176_176_5))), (PRG0.tr q19938 (PRG0.tr o20415 (PRG0.eq (rX.c (b := 4) ((hF20438.1 176 4 mf_X5_joinHere_176_176_4))) (rX.c (b := 2) ((hF20438.1 176 2 mf_X5_joinHere_176_176_2)))))).le (by omega), LPI.end_ q19937 (OPD.plain o20416 (by omega)) (rX.c (b := 2) ((hF20438.1 176 2 mf_X5_joinHere_176_176_2))) (rX.c (b := 4) ((hF20438.1 176 4 mf_X5_joinHere_176_176_4))) (rX.c (b := 6) ((hF20438.1 176 6 mf_X5_joinHere_176_176_6))), (fun hz => (by rw [CDX.c ((hF20438.2.1 175 ma_X5_joinHere_176_175)) ((hF20438.1 176 3 mf_X5_joinHere_176_176_3)) ((hF20438.1 176 4 mf_X5_joinHere_176_176_4)) ((hF20438.1 176 5 mf_X5_joinHere_176_176_5))]; exact NJ.mk1 (by omega) i20472))⟩⟩
        · have c20425_ : x19918.toInt ≠ (-1) := en_i_eq_f c20425
          refine At.enter rfl ?_
          refine r_aload_n e19927 ?_
          refine q_getR (Sh.ref hI20409.1 kx_176 rfl) ?_
          refine r_iload_n e19930 ?_
          refine r_iconst 0 rfl ?_
          refine r_callV 82 rfl [.ref 177, .int x19918, .int 0] [] (Nat.le_of_ble_eq_true rfl) rfl (T_X4_add_177 _ hI20409 x19918 0) ?_
          rintro _ _ ⟨g20482, rfl, hI20483, hF20484, v20485, rfl, hr20486⟩
          refine At.sti ?_
          have hF20487 := Fr.tr hF20413 hF20484 rfl rfl
          refine At.enter rfl ?_
          refine r_pop rfl ?_
          refine Ar.fall 83 rfl ?_
          refine At.enter rfl ?_
          refine r_aload_n e19927 ?_
          refine q_getI (Sh.int hI20483.1 kx_176 rfl) v20420 ((hF20484.1 176 2 mf_X4_add_177_176_2).trans hv20420) ?_
          refine r_iconst (-1) rfl ?_
          refine r_ics 91 rfl (fun c20488 => ?_) (fun c20488 => ?_)
          · have c20488_ : v20420.toInt ≠ (-1) := en_i_ne_t c20488
            refine At.enter rfl ?_
            refine r_iconst (-1) rfl ?_
            refine Ar.fall 100 rfl ?_
            refine At.enter rfl ?_
            refine r_istore_n _ rfl ?_
            refine r_iload_n (w_e1 _ _ _) ?_
            refine r_iconst (-1) rfl ?_
            refine r_icf 106 rfl (by decide) ?_
            refine At.enter rfl ?_
            refine r_vret ?_
            have x20489 := rX.e hI20483 (b := 2) (((hF20484.1 176 2 mf_X4_add_177_176_2).trans hv20420))
            have x20490 := rX.e hI20483 (b := 4) (((hF20484.1 176 4 mf_X4_add_177_176_4).trans hv20422))
            obtain ⟨v20491, hv20491⟩ : ∃ v, gI g20408 176 6 = v := ⟨_, rfl⟩
            have tv20491 := congrArg Int32.toInt hv20491
            have x20492 := rX.e hI20483 (b := 6) (((hF20484.1 176 6 mf_X4_add_177_176_6).trans hv20491))
            obtain ⟨v20493, hv20493⟩ : ∃ v, gI g0 176 2 = v := ⟨_, rfl⟩
            have tv20493 := congrArg Int32.toInt hv20493
            have x20494 := rX.e hI0 (b := 2) (hv20493)
            have x20495 := rX.e hI0 (b := 4) (hv19943)
            have x20496 := rX.e hI19922 (b := 2) (hv20417)
            have x20497 := rX.e hI19922 (b := 4) (hv19946)
            exact ⟨_, rfl, hI20483, hF20487, rfl, ⟨(TKX.c o20414 ((hF20484.2.1 175 ma_X4_add_177_175)) ((hF20484.1 174 1 mf_X4_add_177_174_1)) ((hF20484.1 176 3 mf_X4_add_177_176_3)) ((hF20484.1 176 4 mf_X4_add_177_176_4)) ((hF20484.1 176 5 mf_X4_add_177_176_5))), (PRG0.tr q19938 (PRG0.tr o20415 (PRG0.eq (rX.c (b := 4) ((hF20484.1 176 4 mf_X4_add_177_176_4))) (rX.c (b := 2) ((hF20484.1 176 2 mf_X4_add_177_176_2)))))).le (by omega), LPI.end_ q19937 (OPD.plain o20416 (by omega)) (rX.c (b := 2) ((hF20484.1 176 2 mf_X4_add_177_176_2))) (rX.c (b := 4) ((hF20484.1 176 4 mf_X4_add_177_176_4))) (rX.c (b := 6) ((hF20484.1 176 6 mf_X4_add_177_176_6))), (fun hz => absurd hz (by omega))⟩⟩
          · have c20488_ : v20420.toInt = (-1) := en_i_ne_f c20488
            refine At.enter rfl ?_
            refine r_aload_n e19927 ?_
            refine r_iload_n e19928 ?_
            refine r_callV 96 rfl [.ref 176, .int a1] [] (Nat.le_of_ble_eq_true rfl) rfl (T_X5_joinHere_176 _ hI20483 a1 (by omega) (TKX.c o20414 ((hF20484.2.1 175 ma_X4_add_177_175)) ((hF20484.1 174 1 mf_X4_add_177_174_1)) ((hF20484.1 176 3 mf_X4_add_177_176_3)) ((hF20484.1 176 4 mf_X4_add_177_176_4)) ((hF20484.1 176 5 mf_X4_add_177_176_5)))) ?_
            rintro _ _ ⟨g20498, rfl, hI20499, hF20500, v20501, rfl, hr20502⟩
            refine At.sti ?_
            have hF20503 := Fr.tr hF20487 hF20500 rfl rfl
            have hb20504 : BLN (JN a1.toInt (CDX g20408)) v20501.toInt := by have z := hr20502.2; rw [CDX.c ((hF20484.2.1 175 ma_X4_add_177_175)) ((hF20484.1 176 3 mf_X4_add_177_176_3)) ((hF20484.1 176 4 mf_X4_add_177_176_4)) ((hF20484.1 176 5 mf_X4_add_177_176_5))] at z; exact z
            refine At.enter rfl ?_
            refine r_goto ?_
            refine At.enter rfl ?_
            refine r_istore_n _ rfl ?_
            refine r_iload_n (w_e1 _ _ _) ?_
            refine r_iconst (-1) rfl ?_
            refine r_ics 106 rfl (fun c20505 => ?_) (fun c20505 => ?_)
            · have c20505_ : v20501.toInt ≠ (-1) := en_i_ne_t c20505
              have i20506 := BLN.yes hb20504 (by omega)
              refine At.enter rfl ?_
              refine r_aload_n (w_p1 (by decide) (Or.inr rfl) e19927) ?_
              refine r_callV 111 rfl [.ref 176] [] (Nat.le_of_ble_eq_true rfl) rfl (T_X5_step_176 _ hI20499 (TKX.c o20414 (((hF20500.2.1 175 ma_X5_joinHere_176_175).trans (hF20484.2.1 175 ma_X4_add_177_175))) (((hF20500.1 174 1 mf_X5_joinHere_176_174_1).trans (hF20484.1 174 1 mf_X4_add_177_174_1))) (((hF20500.1 176 3 mf_X5_joinHere_176_176_3).trans (hF20484.1 176 3 mf_X4_add_177_176_3))) (((hF20500.1 176 4 mf_X5_joinHere_176_176_4).trans (hF20484.1 176 4 mf_X4_add_177_176_4))) (((hF20500.1 176 5 mf_X5_joinHere_176_176_5).trans (hF20484.1 176 5 mf_X4_add_177_176_5)))).1 (TKX.c o20414 (((hF20500.2.1 175 ma_X5_joinHere_176_175).trans (hF20484.2.1 175 ma_X4_add_177_175))) (((hF20500.1 174 1 mf_X5_joinHere_176_174_1).trans (hF20484.1 174 1 mf_X4_add_177_174_1))) (((hF20500.1 176 3 mf_X5_joinHere_176_176_3).trans (hF20484.1 176 3 mf_X4_add_177_176_3))) (((hF20500.1 176 4 mf_X5_joinHere_176_176_4).trans (hF20484.1 176 4 mf_X4_add_177_176_4))) (((hF20500.1 176 5 mf_X5_joinHere_176_176_5).trans (hF20484.1 176 5 mf_X4_add_177_176_5)))).2.1.le.2.1) ?_
              rintro _ _ ⟨g20507, rfl, hI20508, hF20509, rfl, hr20511⟩
              refine At.stn ?_
              have hF20512 := Fr.tr hF20503 hF20509 rfl rfl
              have tok20513_ := hr20511.2
              rw [TX.c (((hF20500.2.1 175 ma_X5_joinHere_176_175).trans (hF20484.2.1 175 ma_X4_add_177_175))), nX.c (((hF20500.1 174 1 mf_X5_joinHere_176_174_1).trans (hF20484.1 174 1 mf_X4_add_177_174_1))), rX.c (b := 5) (((hF20500.1 176 5 mf_X5_joinHere_176_176_5).trans (hF20484.1 176 5 mf_X4_add_177_176_5)))] at tok20513_
              have tok20513 := TKX.tok o20414 tok20513_
              rw [TX.c (((hF20410.2.1 175 (by decide)).trans (hF19923.2.1 175 (by decide)))), nX.c (((hF20410.1 174 1 (by decide)).trans (hF19923.1 174 1 (by decide))))] at tok20513
              have hT20514 := hr20511.1
              have x20515 := rX.e hI20499 (b := 4) ((((hF20500.1 176 4 mf_X5_joinHere_176_176_4).trans (hF20484.1 176 4 mf_X4_add_177_176_4)).trans hv20422))
              obtain ⟨v20516, hv20516⟩ : ∃ v, gI g20507 176 4 = v := ⟨_, rfl⟩
              have rv20516 := RgF.at hI20508.2.1 (p := 176) (b := 4) rfl
              rw [hv20516] at rv20516
              dsimp only at rv20516
              have tv20516 := congrArg Int32.toInt hv20516
              have x20517 := rX.e hI20508 (b := 4) (hv20516)
              refine At.enter rfl ?_
              refine r_iload_n (w_p1 (by decide) (Or.inr rfl) e19928) ?_
              refine r_ifs 115 rfl (fun c20518 => ?_) (fun c20518 => ?_)
              · have c20518_ : a1.toInt = 0 := en_k_eq_t c20518
                exfalso; omega
              · have c20518_ : a1.toInt ≠ 0 := en_k_eq_f c20518
                refine At.enter rfl ?_
                refine r_iload_n (w_p1 (by decide) (Or.inr rfl) e19928) ?_
                refine r_iconst 1 rfl ?_
                refine r_ics 120 rfl (fun c20519 => ?_) (fun c20519 => ?_)
                · have c20519_ : a1.toInt ≠ 1 := en_i_ne_t c20519
                  exfalso; omega
                · have c20519_ : a1.toInt = 1 := en_i_ne_f c20519
                  refine At.enter rfl ?_
                  refine r_aload_n (w_p1 (by decide) (Or.inr rfl) e19927) ?_
                  refine q_getR (Sh.ref hI20508.1 kx_176 rfl) ?_
                  refine r_iload_n (w_e1 _ _ _) ?_
                  refine r_iconst 0 rfl ?_
                  refine r_callV 129 rfl [.ref 177, .int v20501, .int 0] [] (Nat.le_of_ble_eq_true rfl) rfl (T_X4_add_177 _ hI20508 v20501 0) ?_
                  rintro _ _ ⟨g20520, rfl, hI20521, hF20522, v20523, rfl, hr20524⟩
                  refine At.sti ?_
                  have hF20525 := Fr.tr hF20512 hF20522 rfl rfl
                  refine At.enter rfl ?_
                  refine r_goto ?_
                  refine At.enter rfl ?_
                  refine r_istore _ rfl ?_
                  refine q_iinc (w_p1 (by decide) (Or.inr rfl) (w_p1 (by decide) (Or.inr rfl) e19932)) (x19920.toInt + 1) rfl (by omega) (fun v20526 hv20526 => ?_)
                  refine r_goto ?_
                  have x20527 := rX.e hI19922 (b := 4) (hv19946)
                  have x20528 := rX.e hI20409 (b := 2) (hv20420)
                  have x20529 := rX.e hI20409 (b := 4) (hv20422)
                  have x20530 := rX.e hI20508 (b := 4) (hv20516)
                  have x20531 := rX.e hI20521 (b := 4) (((hF20522.1 176 4 mf_X4_add_177_176_4).trans hv20516))
                  have y20532 := (o20415.2.2 (by omega)).2
                  have y20533 := ((PRG0.step o20414 tok20513_ (rX.c (b := 2) (((hF20509.1 176 2 mf_X5_step_176_176_2).trans ((hF20500.1 176 2 mf_X5_joinHere_176_176_2).trans (hF20484.1 176 2 mf_X4_add_177_176_2))))) (JN.ne i20506)).2.2 (by rw [(rX.c (b := 2) (((hF20509.1 176 2 mf_X5_step_176_176_2).trans ((hF20500.1 176 2 mf_X5_joinHere_176_176_2).trans (hF20484.1 176 2 mf_X4_add_177_176_2)))))]; omega)).2
                  exact ih19926 (400 - v20526.toInt) _ _ ⟨v20501, v20523, v20526, by first | rfl | omega, hI20521, hF20525, (w_p1 (by decide) (Or.inr rfl) (w_p1 (by decide) (Or.inr rfl) (w_p1 (by decide) (Or.inr rfl) e19927))), (w_p1 (by decide) (Or.inr rfl) (w_p1 (by decide) (Or.inr rfl) (w_p1 (by decide) (Or.inr rfl) e19928))), (w_p1 (by decide) (Or.inr rfl) (w_p1 (by decide) (Or.inr rfl) (w_p1 (by decide) (Or.inr rfl) e19929))), (w_p1 (by decide) (Or.inr rfl) (w_p1 (by decide) (Or.inr rfl) (w_e1 _ _ _))), (w_p1 (by decide) (Or.inr rfl) (w_e1 _ _ _)), (w_e1 _ _ _), by omega, by omega, by omega, (TKX.c hT20514 ((hF20522.2.1 175 ma_X4_add_177_175)) ((hF20522.1 174 1 mf_X4_add_177_174_1)) ((hF20522.1 176 3 mf_X4_add_177_176_3)) ((hF20522.1 176 4 mf_X4_add_177_176_4)) ((hF20522.1 176 5 mf_X4_add_177_176_5))), (LPI.eq (LPI.next q19937 (OPD.plain o20416 (by omega)) tok20513 i20506 ⟨by omega, by omega⟩ (rX.c (b := 2) (((hF20509.1 176 2 mf_X5_step_176_176_2).trans ((hF20500.1 176 2 mf_X5_joinHere_176_176_2).trans (hF20484.1 176 2 mf_X4_add_177_176_2))))) (rX.c (b := 6) (((hF20509.1 176 6 mf_X5_step_176_176_6).trans ((hF20500.1 176 6 mf_X5_joinHere_176_176_6).trans (hF20484.1 176 6 mf_X4_add_177_176_6)))))) (rX.c (b := 2) ((hF20522.1 176 2 mf_X4_add_177_176_2))) (rX.c (b := 4) ((hF20522.1 176 4 mf_X4_add_177_176_4))) (rX.c (b := 6) ((hF20522.1 176 6 mf_X4_add_177_176_6)))), ((PRG0.tr q19938 (PRG0.tr o20415 (PRG0.tr (PRG0.step o20414 tok20513_ (rX.c (b := 2) (((hF20509.1 176 2 mf_X5_step_176_176_2).trans ((hF20500.1 176 2 mf_X5_joinHere_176_176_2).trans (hF20484.1 176 2 mf_X4_add_177_176_2))))) (JN.ne i20506)) (PRG0.eq (rX.c (b := 4) ((hF20522.1 176 4 mf_X4_add_177_176_4))) (rX.c (b := 2) ((hF20522.1 176 2 mf_X4_add_177_176_2))))))).le (by omega)), by omega⟩ ⟨by omega, by omega⟩
            · have c20505_ : v20501.toInt = (-1) := en_i_ne_f c20505
              have i20534 := BLN.no hb20504 (by omega)
              refine At.enter rfl ?_
              refine r_vret ?_
              have x20535 := rX.e hI20499 (b := 2) ((((hF20500.1 176 2 mf_X5_joinHere_176_176_2).trans (hF20484.1 176 2 mf_X4_add_177_176_2)).trans hv20420))
              have x20536 := rX.e hI20499 (b := 4) ((((hF20500.1 176 4 mf_X5_joinHere_176_176_4).trans (hF20484.1 176 4 mf_X4_add_177_176_4)).trans hv20422))
              obtain ⟨v20537, hv20537⟩ : ∃ v, gI g20408 176 6 = v := ⟨_, rfl⟩
              have tv20537 := congrArg Int32.toInt hv20537
              have x20538 := rX.e hI20499 (b := 6) ((((hF20500.1 176 6 mf_X5_joinHere_176_176_6).trans (hF20484.1 176 6 mf_X4_add_177_176_6)).trans hv20537))
              obtain ⟨v20539, hv20539⟩ : ∃ v, gI g0 176 2 = v := ⟨_, rfl⟩
              have tv20539 := congrArg Int32.toInt hv20539
              have x20540 := rX.e hI0 (b := 2) (hv20539)
              have x20541 := rX.e hI0 (b := 4) (hv19943)
              have x20542 := rX.e hI19922 (b := 2) (hv20417)
              have x20543 := rX.e hI19922 (b := 4) (hv19946)
              exact ⟨_, rfl, hI20499, hF20503, rfl, ⟨(TKX.c o20414 (((hF20500.2.1 175 ma_X5_joinHere_176_175).trans (hF20484.2.1 175 ma_X4_add_177_175))) (((hF20500.1 174 1 mf_X5_joinHere_176_174_1).trans (hF20484.1 174 1 mf_X4_add_177_174_1))) (((hF20500.1 176 3 mf_X5_joinHere_176_176_3).trans (hF20484.1 176 3 mf_X4_add_177_176_3))) (((hF20500.1 176 4 mf_X5_joinHere_176_176_4).trans (hF20484.1 176 4 mf_X4_add_177_176_4))) (((hF20500.1 176 5 mf_X5_joinHere_176_176_5).trans (hF20484.1 176 5 mf_X4_add_177_176_5)))), (PRG0.tr q19938 (PRG0.tr o20415 (PRG0.eq (rX.c (b := 4) (((hF20500.1 176 4 mf_X5_joinHere_176_176_4).trans (hF20484.1 176 4 mf_X4_add_177_176_4)))) (rX.c (b := 2) (((hF20500.1 176 2 mf_X5_joinHere_176_176_2).trans (hF20484.1 176 2 mf_X4_add_177_176_2))))))).le (by omega), LPI.end_ q19937 (OPD.plain o20416 (by omega)) (rX.c (b := 2) (((hF20500.1 176 2 mf_X5_joinHere_176_176_2).trans (hF20484.1 176 2 mf_X4_add_177_176_2)))) (rX.c (b := 4) (((hF20500.1 176 4 mf_X5_joinHere_176_176_4).trans (hF20484.1 176 4 mf_X4_add_177_176_4)))) (rX.c (b := 6) (((hF20500.1 176 6 mf_X5_joinHere_176_176_6).trans (hF20484.1 176 6 mf_X4_add_177_176_6)))), (fun hz => (by rw [CDX.c (((hF20500.2.1 175 ma_X5_joinHere_176_175).trans (hF20484.2.1 175 ma_X4_add_177_175))) (((hF20500.1 176 3 mf_X5_joinHere_176_176_3).trans (hF20484.1 176 3 mf_X4_add_177_176_3))) (((hF20500.1 176 4 mf_X5_joinHere_176_176_4).trans (hF20484.1 176 4 mf_X4_add_177_176_4))) (((hF20500.1 176 5 mf_X5_joinHere_176_176_5).trans (hF20484.1 176 5 mf_X4_add_177_176_5)))]; exact NJ.mk1 (by omega) i20534))⟩⟩
      · have c20424_ : x19919.toInt ≠ (-1) := en_i_eq_f c20424
        refine At.enter rfl ?_
        refine r_aload_n e19927 ?_
        refine q_getR (Sh.ref hI20409.1 kx_176 rfl) ?_
        refine r_iload e19931 ?_
        refine r_callV 65 rfl [.ref 177, .int x19919] [] (Nat.le_of_ble_eq_true rfl) rfl (T_X4_aimAtEnd_177 _ hI20409 x19919) ?_
        rintro _ _ ⟨g20544, rfl, hI20545, hF20546, rfl⟩
        refine At.stn ?_
        have hF20549 := Fr.tr hF20413 hF20546 rfl rfl
        refine At.enter rfl ?_
        refine r_goto ?_
        refine At.enter rfl ?_
        refine r_aload_n e19927 ?_
        refine q_getI (Sh.int hI20545.1 kx_176 rfl) v20420 ((hF20546.1 176 2 mf_X4_aimAtEnd_177_176_2).trans hv20420) ?_
        refine r_iconst (-1) rfl ?_
        refine r_ics 91 rfl (fun c20550 => ?_) (fun c20550 => ?_)
        · have c20550_ : v20420.toInt ≠ (-1) := en_i_ne_t c20550
          refine At.enter rfl ?_
          refine r_iconst (-1) rfl ?_
          refine Ar.fall 100 rfl ?_
          refine At.enter rfl ?_
          refine r_istore_n _ rfl ?_
          refine r_iload_n (w_e1 _ _ _) ?_
          refine r_iconst (-1) rfl ?_
          refine r_icf 106 rfl (by decide) ?_
          refine At.enter rfl ?_
          refine r_vret ?_
          have x20551 := rX.e hI20545 (b := 2) (((hF20546.1 176 2 mf_X4_aimAtEnd_177_176_2).trans hv20420))
          have x20552 := rX.e hI20545 (b := 4) (((hF20546.1 176 4 mf_X4_aimAtEnd_177_176_4).trans hv20422))
          obtain ⟨v20553, hv20553⟩ : ∃ v, gI g20408 176 6 = v := ⟨_, rfl⟩
          have tv20553 := congrArg Int32.toInt hv20553
          have x20554 := rX.e hI20545 (b := 6) (((hF20546.1 176 6 mf_X4_aimAtEnd_177_176_6).trans hv20553))
          obtain ⟨v20555, hv20555⟩ : ∃ v, gI g0 176 2 = v := ⟨_, rfl⟩
          have tv20555 := congrArg Int32.toInt hv20555
          have x20556 := rX.e hI0 (b := 2) (hv20555)
          have x20557 := rX.e hI0 (b := 4) (hv19943)
          have x20558 := rX.e hI19922 (b := 2) (hv20417)
          have x20559 := rX.e hI19922 (b := 4) (hv19946)
          exact ⟨_, rfl, hI20545, hF20549, rfl, ⟨(TKX.c o20414 ((hF20546.2.1 175 ma_X4_aimAtEnd_177_175)) ((hF20546.1 174 1 mf_X4_aimAtEnd_177_174_1)) ((hF20546.1 176 3 mf_X4_aimAtEnd_177_176_3)) ((hF20546.1 176 4 mf_X4_aimAtEnd_177_176_4)) ((hF20546.1 176 5 mf_X4_aimAtEnd_177_176_5))), (PRG0.tr q19938 (PRG0.tr o20415 (PRG0.eq (rX.c (b := 4) ((hF20546.1 176 4 mf_X4_aimAtEnd_177_176_4))) (rX.c (b := 2) ((hF20546.1 176 2 mf_X4_aimAtEnd_177_176_2)))))).le (by omega), LPI.end_ q19937 (OPD.plain o20416 (by omega)) (rX.c (b := 2) ((hF20546.1 176 2 mf_X4_aimAtEnd_177_176_2))) (rX.c (b := 4) ((hF20546.1 176 4 mf_X4_aimAtEnd_177_176_4))) (rX.c (b := 6) ((hF20546.1 176 6 mf_X4_aimAtEnd_177_176_6))), (fun hz => absurd hz (by omega))⟩⟩
        · have c20550_ : v20420.toInt = (-1) := en_i_ne_f c20550
          refine At.enter rfl ?_
          refine r_aload_n e19927 ?_
          refine r_iload_n e19928 ?_
          refine r_callV 96 rfl [.ref 176, .int a1] [] (Nat.le_of_ble_eq_true rfl) rfl (T_X5_joinHere_176 _ hI20545 a1 (by omega) (TKX.c o20414 ((hF20546.2.1 175 ma_X4_aimAtEnd_177_175)) ((hF20546.1 174 1 mf_X4_aimAtEnd_177_174_1)) ((hF20546.1 176 3 mf_X4_aimAtEnd_177_176_3)) ((hF20546.1 176 4 mf_X4_aimAtEnd_177_176_4)) ((hF20546.1 176 5 mf_X4_aimAtEnd_177_176_5)))) ?_
          rintro _ _ ⟨g20560, rfl, hI20561, hF20562, v20563, rfl, hr20564⟩
          refine At.sti ?_
          have hF20565 := Fr.tr hF20549 hF20562 rfl rfl
          have hb20566 : BLN (JN a1.toInt (CDX g20408)) v20563.toInt := by have z := hr20564.2; rw [CDX.c ((hF20546.2.1 175 ma_X4_aimAtEnd_177_175)) ((hF20546.1 176 3 mf_X4_aimAtEnd_177_176_3)) ((hF20546.1 176 4 mf_X4_aimAtEnd_177_176_4)) ((hF20546.1 176 5 mf_X4_aimAtEnd_177_176_5))] at z; exact z
          refine At.enter rfl ?_
          refine r_goto ?_
          refine At.enter rfl ?_
          refine r_istore_n _ rfl ?_
          refine r_iload_n (w_e1 _ _ _) ?_
          refine r_iconst (-1) rfl ?_
          refine r_ics 106 rfl (fun c20567 => ?_) (fun c20567 => ?_)
          · have c20567_ : v20563.toInt ≠ (-1) := en_i_ne_t c20567
            have i20568 := BLN.yes hb20566 (by omega)
            refine At.enter rfl ?_
            refine r_aload_n (w_p1 (by decide) (Or.inr rfl) e19927) ?_
            refine r_callV 111 rfl [.ref 176] [] (Nat.le_of_ble_eq_true rfl) rfl (T_X5_step_176 _ hI20561 (TKX.c o20414 (((hF20562.2.1 175 ma_X5_joinHere_176_175).trans (hF20546.2.1 175 ma_X4_aimAtEnd_177_175))) (((hF20562.1 174 1 mf_X5_joinHere_176_174_1).trans (hF20546.1 174 1 mf_X4_aimAtEnd_177_174_1))) (((hF20562.1 176 3 mf_X5_joinHere_176_176_3).trans (hF20546.1 176 3 mf_X4_aimAtEnd_177_176_3))) (((hF20562.1 176 4 mf_X5_joinHere_176_176_4).trans (hF20546.1 176 4 mf_X4_aimAtEnd_177_176_4))) (((hF20562.1 176 5 mf_X5_joinHere_176_176_5).trans (hF20546.1 176 5 mf_X4_aimAtEnd_177_176_5)))).1 (TKX.c o20414 (((hF20562.2.1 175 ma_X5_joinHere_176_175).trans (hF20546.2.1 175 ma_X4_aimAtEnd_177_175))) (((hF20562.1 174 1 mf_X5_joinHere_176_174_1).trans (hF20546.1 174 1 mf_X4_aimAtEnd_177_174_1))) (((hF20562.1 176 3 mf_X5_joinHere_176_176_3).trans (hF20546.1 176 3 mf_X4_aimAtEnd_177_176_3))) (((hF20562.1 176 4 mf_X5_joinHere_176_176_4).trans (hF20546.1 176 4 mf_X4_aimAtEnd_177_176_4))) (((hF20562.1 176 5 mf_X5_joinHere_176_176_5).trans (hF20546.1 176 5 mf_X4_aimAtEnd_177_176_5)))).2.1.le.2.1) ?_
            rintro _ _ ⟨g20569, rfl, hI20570, hF20571, rfl, hr20573⟩
            refine At.stn ?_
            have hF20574 := Fr.tr hF20565 hF20571 rfl rfl
            have tok20575_ := hr20573.2
            rw [TX.c (((hF20562.2.1 175 ma_X5_joinHere_176_175).trans (hF20546.2.1 175 ma_X4_aimAtEnd_177_175))), nX.c (((hF20562.1 174 1 mf_X5_joinHere_176_174_1).trans (hF20546.1 174 1 mf_X4_aimAtEnd_177_174_1))), rX.c (b := 5) (((hF20562.1 176 5 mf_X5_joinHere_176_176_5).trans (hF20546.1 176 5 mf_X4_aimAtEnd_177_176_5)))] at tok20575_
            have tok20575 := TKX.tok o20414 tok20575_
            rw [TX.c (((hF20410.2.1 175 (by decide)).trans (hF19923.2.1 175 (by decide)))), nX.c (((hF20410.1 174 1 (by decide)).trans (hF19923.1 174 1 (by decide))))] at tok20575
            have hT20576 := hr20573.1
            have x20577 := rX.e hI20561 (b := 4) ((((hF20562.1 176 4 mf_X5_joinHere_176_176_4).trans (hF20546.1 176 4 mf_X4_aimAtEnd_177_176_4)).trans hv20422))
            obtain ⟨v20578, hv20578⟩ : ∃ v, gI g20569 176 4 = v := ⟨_, rfl⟩
            have rv20578 := RgF.at hI20570.2.1 (p := 176) (b := 4) rfl
            rw [hv20578] at rv20578
            dsimp only at rv20578
            have tv20578 := congrArg Int32.toInt hv20578
            have x20579 := rX.e hI20570 (b := 4) (hv20578)
            refine At.enter rfl ?_
            refine r_iload_n (w_p1 (by decide) (Or.inr rfl) e19928) ?_
            refine r_ifs 115 rfl (fun c20580 => ?_) (fun c20580 => ?_)
            · have c20580_ : a1.toInt = 0 := en_k_eq_t c20580
              exfalso; omega
            · have c20580_ : a1.toInt ≠ 0 := en_k_eq_f c20580
              refine At.enter rfl ?_
              refine r_iload_n (w_p1 (by decide) (Or.inr rfl) e19928) ?_
              refine r_iconst 1 rfl ?_
              refine r_ics 120 rfl (fun c20581 => ?_) (fun c20581 => ?_)
              · have c20581_ : a1.toInt ≠ 1 := en_i_ne_t c20581
                exfalso; omega
              · have c20581_ : a1.toInt = 1 := en_i_ne_f c20581
                refine At.enter rfl ?_
                refine r_aload_n (w_p1 (by decide) (Or.inr rfl) e19927) ?_
                refine q_getR (Sh.ref hI20570.1 kx_176 rfl) ?_
                refine r_iload_n (w_e1 _ _ _) ?_
                refine r_iconst 0 rfl ?_
                refine r_callV 129 rfl [.ref 177, .int v20563, .int 0] [] (Nat.le_of_ble_eq_true rfl) rfl (T_X4_add_177 _ hI20570 v20563 0) ?_
                rintro _ _ ⟨g20582, rfl, hI20583, hF20584, v20585, rfl, hr20586⟩
                refine At.sti ?_
                have hF20587 := Fr.tr hF20574 hF20584 rfl rfl
                refine At.enter rfl ?_
                refine r_goto ?_
                refine At.enter rfl ?_
                refine r_istore _ rfl ?_
                refine q_iinc (w_p1 (by decide) (Or.inr rfl) (w_p1 (by decide) (Or.inr rfl) e19932)) (x19920.toInt + 1) rfl (by omega) (fun v20588 hv20588 => ?_)
                refine r_goto ?_
                have x20589 := rX.e hI19922 (b := 4) (hv19946)
                have x20590 := rX.e hI20409 (b := 2) (hv20420)
                have x20591 := rX.e hI20409 (b := 4) (hv20422)
                have x20592 := rX.e hI20570 (b := 4) (hv20578)
                have x20593 := rX.e hI20583 (b := 4) (((hF20584.1 176 4 mf_X4_add_177_176_4).trans hv20578))
                have y20594 := (o20415.2.2 (by omega)).2
                have y20595 := ((PRG0.step o20414 tok20575_ (rX.c (b := 2) (((hF20571.1 176 2 mf_X5_step_176_176_2).trans ((hF20562.1 176 2 mf_X5_joinHere_176_176_2).trans (hF20546.1 176 2 mf_X4_aimAtEnd_177_176_2))))) (JN.ne i20568)).2.2 (by rw [(rX.c (b := 2) (((hF20571.1 176 2 mf_X5_step_176_176_2).trans ((hF20562.1 176 2 mf_X5_joinHere_176_176_2).trans (hF20546.1 176 2 mf_X4_aimAtEnd_177_176_2)))))]; omega)).2
                exact ih19926 (400 - v20588.toInt) _ _ ⟨v20563, v20585, v20588, by first | rfl | omega, hI20583, hF20587, (w_p1 (by decide) (Or.inr rfl) (w_p1 (by decide) (Or.inr rfl) (w_p1 (by decide) (Or.inr rfl) e19927))), (w_p1 (by decide) (Or.inr rfl) (w_p1 (by decide) (Or.inr rfl) (w_p1 (by decide) (Or.inr rfl) e19928))), (w_p1 (by decide) (Or.inr rfl) (w_p1 (by decide) (Or.inr rfl) (w_p1 (by decide) (Or.inr rfl) e19929))), (w_p1 (by decide) (Or.inr rfl) (w_p1 (by decide) (Or.inr rfl) (w_e1 _ _ _))), (w_p1 (by decide) (Or.inr rfl) (w_e1 _ _ _)), (w_e1 _ _ _), by omega, by omega, by omega, (TKX.c hT20576 ((hF20584.2.1 175 ma_X4_add_177_175)) ((hF20584.1 174 1 mf_X4_add_177_174_1)) ((hF20584.1 176 3 mf_X4_add_177_176_3)) ((hF20584.1 176 4 mf_X4_add_177_176_4)) ((hF20584.1 176 5 mf_X4_add_177_176_5))), (LPI.eq (LPI.next q19937 (OPD.plain o20416 (by omega)) tok20575 i20568 ⟨by omega, by omega⟩ (rX.c (b := 2) (((hF20571.1 176 2 mf_X5_step_176_176_2).trans ((hF20562.1 176 2 mf_X5_joinHere_176_176_2).trans (hF20546.1 176 2 mf_X4_aimAtEnd_177_176_2))))) (rX.c (b := 6) (((hF20571.1 176 6 mf_X5_step_176_176_6).trans ((hF20562.1 176 6 mf_X5_joinHere_176_176_6).trans (hF20546.1 176 6 mf_X4_aimAtEnd_177_176_6)))))) (rX.c (b := 2) ((hF20584.1 176 2 mf_X4_add_177_176_2))) (rX.c (b := 4) ((hF20584.1 176 4 mf_X4_add_177_176_4))) (rX.c (b := 6) ((hF20584.1 176 6 mf_X4_add_177_176_6)))), ((PRG0.tr q19938 (PRG0.tr o20415 (PRG0.tr (PRG0.step o20414 tok20575_ (rX.c (b := 2) (((hF20571.1 176 2 mf_X5_step_176_176_2).trans ((hF20562.1 176 2 mf_X5_joinHere_176_176_2).trans (hF20546.1 176 2 mf_X4_aimAtEnd_177_176_2))))) (JN.ne i20568)) (PRG0.eq (rX.c (b := 4) ((hF20584.1 176 4 mf_X4_add_177_176_4))) (rX.c (b := 2) ((hF20584.1 176 2 mf_X4_add_177_176_2))))))).le (by omega)), by omega⟩ ⟨by omega, by omega⟩
          · have c20567_ : v20563.toInt = (-1) := en_i_ne_f c20567
            have i20596 := BLN.no hb20566 (by omega)
            refine At.enter rfl ?_
            refine r_vret ?_
            have x20597 := rX.e hI20561 (b := 2) ((((hF20562.1 176 2 mf_X5_joinHere_176_176_2).trans (hF20546.1 176 2 mf_X4_aimAtEnd_177_176_2)).trans hv20420))
            have x20598 := rX.e hI20561 (b := 4) ((((hF20562.1 176 4 mf_X5_joinHere_176_176_4).trans (hF20546.1 176 4 mf_X4_aimAtEnd_177_176_4)).trans hv20422))
            obtain ⟨v20599, hv20599⟩ : ∃ v, gI g20408 176 6 = v := ⟨_, rfl⟩
            have tv20599 := congrArg Int32.toInt hv20599
            have x20600 := rX.e hI20561 (b := 6) ((((hF20562.1 176 6 mf_X5_joinHere_176_176_6).trans (hF20546.1 176 6 mf_X4_aimAtEnd_177_176_6)).trans hv20599))
            obtain ⟨v20601, hv20601⟩ : ∃ v, gI g0 176 2 = v := ⟨_, rfl⟩
            have tv20601 := congrArg Int32.toInt hv20601
            have x20602 := rX.e hI0 (b := 2) (hv20601)
            have x20603 := rX.e hI0 (b := 4) (hv19943)
            have x20604 := rX.e hI19922 (b := 2) (hv20417)
            have x20605 := rX.e hI19922 (b := 4) (hv19946)
            exact ⟨_, rfl, hI20561, hF20565, rfl, ⟨(TKX.c o20414 (((hF20562.2.1 175 ma_X5_joinHere_176_175).trans (hF20546.2.1 175 ma_X4_aimAtEnd_177_175))) (((hF20562.1 174 1 mf_X5_joinHere_176_174_1).trans (hF20546.1 174 1 mf_X4_aimAtEnd_177_174_1))) (((hF20562.1 176 3 mf_X5_joinHere_176_176_3).trans (hF20546.1 176 3 mf_X4_aimAtEnd_177_176_3))) (((hF20562.1 176 4 mf_X5_joinHere_176_176_4).trans (hF20546.1 176 4 mf_X4_aimAtEnd_177_176_4))) (((hF20562.1 176 5 mf_X5_joinHere_176_176_5).trans (hF20546.1 176 5 mf_X4_aimAtEnd_177_176_5)))), (PRG0.tr q19938 (PRG0.tr o20415 (PRG0.eq (rX.c (b := 4) (((hF20562.1 176 4 mf_X5_joinHere_176_176_4).trans (hF20546.1 176 4 mf_X4_aimAtEnd_177_176_4)))) (rX.c (b := 2) (((hF20562.1 176 2 mf_X5_joinHere_176_176_2).trans (hF20546.1 176 2 mf_X4_aimAtEnd_177_176_2))))))).le (by omega), LPI.end_ q19937 (OPD.plain o20416 (by omega)) (rX.c (b := 2) (((hF20562.1 176 2 mf_X5_joinHere_176_176_2).trans (hF20546.1 176 2 mf_X4_aimAtEnd_177_176_2)))) (rX.c (b := 4) (((hF20562.1 176 4 mf_X5_joinHere_176_176_4).trans (hF20546.1 176 4 mf_X4_aimAtEnd_177_176_4)))) (rX.c (b := 6) (((hF20562.1 176 6 mf_X5_joinHere_176_176_6).trans (hF20546.1 176 6 mf_X4_aimAtEnd_177_176_6)))), (fun hz => (by rw [CDX.c (((hF20562.2.1 175 ma_X5_joinHere_176_175).trans (hF20546.2.1 175 ma_X4_aimAtEnd_177_175))) (((hF20562.1 176 3 mf_X5_joinHere_176_176_3).trans (hF20546.1 176 3 mf_X4_aimAtEnd_177_176_3))) (((hF20562.1 176 4 mf_X5_joinHere_176_176_4).trans (hF20546.1 176 4 mf_X4_aimAtEnd_177_176_4))) (((hF20562.1 176 5 mf_X5_joinHere_176_176_5).trans (hF20546.1 176 5 mf_X4_aimAtEnd_177_176_5)))]; exact NJ.mk1 (by omega) i20596))⟩⟩
