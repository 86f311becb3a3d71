def F_X11_drop_231 : List (Nat × Nat) := [(231, 0), (231, 1)]
def A_X11_drop_231 : List Nat := [232, 233]
set_option maxRecDepth 100000 in
set_option maxHeartbeats 4000000 in
theorem T_X11_drop_231 (d : Nat) {N : Nat} {g0 : List en_E} (hI0 : HI g0) (a1 : Int32) : Ev (d + 3) 180 [.ref 231, .int a1] (g0, N) (fun w h' => ∃ g', h' = (g', N) ∧ HI g' ∧ Fr F_X11_drop_231 A_X11_drop_231 g0 g' ∧ ∃ r : Int32, w = some (.int r) ∧ ((-2) ≤ r.toInt ∧ r.toInt ≤ 7) ∧ ((eA g' 233 0).toInt = (eA g0 233 0).toInt ∧ (eA g' 233 4).toInt = (eA g0 233 4).toInt ∧ (eA g' 233 5).toInt = (eA g0 233 5).toInt ∧ (eA g' 233 6).toInt = (eA g0 233 6).toInt ∧ (eA g' 233 2).toInt = (eA g0 233 2).toInt ∧ (eA g' 233 3).toInt = (eA g0 233 3).toInt)) := by
  have hF0 : Fr F_X11_drop_231 A_X11_drop_231 g0 g0 := Fr.rf
  refine Ev.mk rfl rfl ⟨Nat.le_of_ble_eq_true rfl, Or.inr (q_rc hI0.1 kx_231 rfl)⟩ ?_
  show At _ none _ _ (0, [(0, .ref 231), (1, .int a1)], [], (_, _)) _
  refine At.enter rfl ?_
  refine r_aload_n rfl ?_
  refine r_iconst 0 rfl ?_
  refine q_putI (Sh.int hI0.1 kx_231 rfl) rfl ?_
  have hI189 := HI.wI0 hI0 kx_231 rfl (p := 231) (b := 0) (v := 0) rfl
  have hF190 := Fr.wI (p := 231) (b := 0) (v := 0) hF0 rfl
  refine r_aload_n rfl ?_
  refine r_iload_n rfl ?_
  refine q_inlV 10 rfl [.ref 231, .int a1] [] (Nat.le_of_ble_eq_true rfl) rfl ?_
  refine Ev.mk rfl rfl ⟨Nat.le_of_ble_eq_true rfl, Or.inr (q_rc hI189.1 kx_231 rfl)⟩ ?_
  show At _ none _ _ (0, [(0, .ref 231), (1, .int a1)], [], (_, _)) _
  refine At.enter rfl ?_
  refine r_iload_n rfl ?_
  refine q_i2l (fun v191 hv191 => ?_)
  refine r_lconst 0 rfl ?_
  refine r_aload_n rfl ?_
  refine q_getR (Sh.ref hI189.1 kx_231 rfl) ?_
  refine r_iconst 1 rfl ?_
  obtain ⟨v192, hv192⟩ : ∃ v, eA g0 233 1 = v := ⟨_, rfl⟩
  have tv192 := congrArg Int32.toInt hv192
  have wv192 := HI.t1 hI0
  rw [hv192] at wv192
  refine q_iald (Sh.arr hI189.1 ka_233) 1 rfl (by decide) v192 ((eA_c (gA_sI)).trans hv192) ?_
  refine q_i2l (fun v193 hv193 => ?_)
  refine r_lconst 1 rfl ?_
  refine q_lsub (v193.toInt - 1) rfl (by omega) (fun v194 hv194 => ?_)
  refine q_inlS 15 rfl [.long v191, .long 0, .long v194] [] (Nat.le_of_ble_eq_true rfl) rfl ?_
  refine Ev.mk rfl rfl ⟨Nat.le_of_ble_eq_true rfl, Or.inl rfl⟩ ?_
  show At _ none _ _ (0, [(0, .long v191), (2, .long 0), (4, .long v194)], [], (_, _)) _
  refine At.enter rfl ?_
  refine r_lload_n rfl ?_
  refine r_lload_n rfl ?_
  refine r_lcmp _ rfl ?_
  refine r_ifs 6 rfl (fun c195 => ?_) (fun c195 => ?_)
  · have c195_ : v191.toInt < 0 := en_j_lt_t c195
    refine At.enter rfl ?_
    refine r_iconst 0 rfl ?_
    refine Ar.fall 18 rfl ?_
    refine At.enter rfl ?_
    refine q_iretz (by decide) ?_
    refine At.enter rfl ?_
    refine q_iretz (by decide) ?_
    refine At.enter rfl ?_
    refine r_iff 13 rfl (by decide) ?_
    refine At.enter rfl ?_
    refine r_aload_n rfl ?_
    refine r_bipush (-2) rfl ?_
    refine r_callV 19 rfl [.ref 231, .int (-2)] [] (Nat.le_of_ble_eq_true rfl) rfl (T_X11_tell_231 _ hI189 (-2) (by decide)) ?_
    rintro _ _ ⟨g196, rfl, hI197, hF198, v199, rfl, hr200⟩
    refine At.sti ?_
    have hF201 := Fr.tr hF190 hF198 rfl rfl
    have zv202 : ((-2) : Int32).toInt = (-2) := rfl
    refine At.enter rfl ?_
    refine r_ireti ?_
    obtain ⟨v203, hv203⟩ : ∃ v, eA g0 233 0 = v := ⟨_, rfl⟩
    have tv203 := congrArg Int32.toInt hv203
    have wv203 := HI.t0 hI0
    rw [hv203] at wv203
    have tv203 := congrArg Int32.toInt hv203
    have x204 := HI.eqA hI197 (p := 233) (j := 0) ((((eA_c (hF198.2.1 233 ma_X11_tell_231_233)).trans (eA_c gA_sI)).trans hv203))
    obtain ⟨v205, hv205⟩ : ∃ v, eA g0 233 4 = v := ⟨_, rfl⟩
    have wv205 := HI.t4 hI0
    rw [hv205] at wv205
    have tv205 := congrArg Int32.toInt hv205
    have x206 := HI.eqA hI197 (p := 233) (j := 4) ((((eA_c (hF198.2.1 233 ma_X11_tell_231_233)).trans (eA_c gA_sI)).trans hv205))
    obtain ⟨v207, hv207⟩ : ∃ v, eA g0 233 5 = v := ⟨_, rfl⟩
    have wv207 := HI.t5 hI0
    rw [hv207] at wv207
    have tv207 := congrArg Int32.toInt hv207
    have x208 := HI.eqA hI197 (p := 233) (j := 5) ((((eA_c (hF198.2.1 233 ma_X11_tell_231_233)).trans (eA_c gA_sI)).trans hv207))
    obtain ⟨v209, hv209⟩ : ∃ v, eA g0 233 6 = v := ⟨_, rfl⟩
    have wv209 := HI.t6 hI0
    rw [hv209] at wv209
    have tv209 := congrArg Int32.toInt hv209
    have x210 := HI.eqA hI197 (p := 233) (j := 6) ((((eA_c (hF198.2.1 233 ma_X11_tell_231_233)).trans (eA_c gA_sI)).trans hv209))
    obtain ⟨v211, hv211⟩ : ∃ v, eA g0 233 2 = v := ⟨_, rfl⟩
    have tv211 := congrArg Int32.toInt hv211
    have wv211 := HI.t2 hI0
    rw [hv211] at wv211
    have tv211 := congrArg Int32.toInt hv211
    have x212 := HI.eqA hI197 (p := 233) (j := 2) ((((eA_c (hF198.2.1 233 ma_X11_tell_231_233)).trans (eA_c gA_sI)).trans hv211))
    obtain ⟨v213, hv213⟩ : ∃ v, eA g0 233 3 = v := ⟨_, rfl⟩
    have wv213 := HI.t3 hI0
    rw [hv213] at wv213
    have tv213 := congrArg Int32.toInt hv213
    have x214 := HI.eqA hI197 (p := 233) (j := 3) ((((eA_c (hF198.2.1 233 ma_X11_tell_231_233)).trans (eA_c gA_sI)).trans hv213))
    have x215 := HI.eqA hI0 (p := 233) (j := 0) (hv203)
    have x216 := HI.eqA hI0 (p := 233) (j := 4) (hv205)
    have x217 := HI.eqA hI0 (p := 233) (j := 5) (hv207)
    have x218 := HI.eqA hI0 (p := 233) (j := 6) (hv209)
    have x219 := HI.eqA hI0 (p := 233) (j := 2) (hv211)
    have x220 := HI.eqA hI0 (p := 233) (j := 3) (hv213)
    exact ⟨_, rfl, hI197, hF201, _, rfl, by omega, ⟨by omega, by omega, by omega, by omega, by omega, by omega⟩⟩
  · have c195_ : v191.toInt ≥ 0 := en_j_lt_f c195
    refine At.enter rfl ?_
    refine r_lload_n rfl ?_
    refine r_lload rfl ?_
    refine r_lcmp _ rfl ?_
    refine r_ifs 13 rfl (fun c221 => ?_) (fun c221 => ?_)
    · have c221_ : v191.toInt > v194.toInt := en_j_gt_t c221
      refine At.enter rfl ?_
      refine r_iconst 0 rfl ?_
      refine Ar.fall 18 rfl ?_
      refine At.enter rfl ?_
      refine q_iretz (by decide) ?_
      refine At.enter rfl ?_
      refine q_iretz (by decide) ?_
      refine At.enter rfl ?_
      refine r_iff 13 rfl (by decide) ?_
      refine At.enter rfl ?_
      refine r_aload_n rfl ?_
      refine r_bipush (-2) rfl ?_
      refine r_callV 19 rfl [.ref 231, .int (-2)] [] (Nat.le_of_ble_eq_true rfl) rfl (T_X11_tell_231 _ hI189 (-2) (by decide)) ?_
      rintro _ _ ⟨g222, rfl, hI223, hF224, v225, rfl, hr226⟩
      refine At.sti ?_
      have hF227 := Fr.tr hF190 hF224 rfl rfl
      have zv228 : ((-2) : Int32).toInt = (-2) := rfl
      refine At.enter rfl ?_
      refine r_ireti ?_
      obtain ⟨v229, hv229⟩ : ∃ v, eA g0 233 0 = v := ⟨_, rfl⟩
      have tv229 := congrArg Int32.toInt hv229
      have wv229 := HI.t0 hI0
      rw [hv229] at wv229
      have tv229 := congrArg Int32.toInt hv229
      have x230 := HI.eqA hI223 (p := 233) (j := 0) ((((eA_c (hF224.2.1 233 ma_X11_tell_231_233)).trans (eA_c gA_sI)).trans hv229))
      obtain ⟨v231, hv231⟩ : ∃ v, eA g0 233 4 = v := ⟨_, rfl⟩
      have wv231 := HI.t4 hI0
      rw [hv231] at wv231
      have tv231 := congrArg Int32.toInt hv231
      have x232 := HI.eqA hI223 (p := 233) (j := 4) ((((eA_c (hF224.2.1 233 ma_X11_tell_231_233)).trans (eA_c gA_sI)).trans hv231))
      obtain ⟨v233, hv233⟩ : ∃ v, eA g0 233 5 = v := ⟨_, rfl⟩
      have wv233 := HI.t5 hI0
      rw [hv233] at wv233
      have tv233 := congrArg Int32.toInt hv233
      have x234 := HI.eqA hI223 (p := 233) (j := 5) ((((eA_c (hF224.2.1 233 ma_X11_tell_231_233)).trans (eA_c gA_sI)).trans hv233))
      obtain ⟨v235, hv235⟩ : ∃ v, eA g0 233 6 = v := ⟨_, rfl⟩
      have wv235 := HI.t6 hI0
      rw [hv235] at wv235
      have tv235 := congrArg Int32.toInt hv235
      have x236 := HI.eqA hI223 (p := 233) (j := 6) ((((eA_c (hF224.2.1 233 ma_X11_tell_231_233)).trans (eA_c gA_sI)).trans hv235))
      obtain ⟨v237, hv237⟩ : ∃ v, eA g0 233 2 = v := ⟨_, rfl⟩
      have tv237 := congrArg Int32.toInt hv237
      have wv237 := HI.t2 hI0
      rw [hv237] at wv237
      have tv237 := congrArg Int32.toInt hv237
      have x238 := HI.eqA hI223 (p := 233) (j := 2) ((((eA_c (hF224.2.1 233 ma_X11_tell_231_233)).trans (eA_c gA_sI)).trans hv237))
      obtain ⟨v239, hv239⟩ : ∃ v, eA g0 233 3 = v := ⟨_, rfl⟩
      have wv239 := HI.t3 hI0
      rw [hv239] at wv239
      have tv239 := congrArg Int32.toInt hv239
      have x240 := HI.eqA hI223 (p := 233) (j := 3) ((((eA_c (hF224.2.1 233 ma_X11_tell_231_233)).trans (eA_c gA_sI)).trans hv239))
      have x241 := HI.eqA hI0 (p := 233) (j := 0) (hv229)
      have x242 := HI.eqA hI0 (p := 233) (j := 4) (hv231)
      have x243 := HI.eqA hI0 (p := 233) (j := 5) (hv233)
      have x244 := HI.eqA hI0 (p := 233) (j := 6) (hv235)
      have x245 := HI.eqA hI0 (p := 233) (j := 2) (hv237)
      have x246 := HI.eqA hI0 (p := 233) (j := 3) (hv239)
      exact ⟨_, rfl, hI223, hF227, _, rfl, by omega, ⟨by omega, by omega, by omega, by omega, by omega, by omega⟩⟩
    · have c221_ : v191.toInt ≤ v194.toInt := en_j_gt_f c221
      refine At.enter rfl ?_
      refine r_iconst 1 rfl ?_
      refine r_goto ?_
      refine At.enter rfl ?_
      refine q_iretz (by decide) ?_
      refine At.enter rfl ?_
      refine q_iretz (by decide) ?_
      refine At.enter rfl ?_
      refine r_ift (by decide) ?_
      refine At.enter rfl ?_
      refine r_bipush 46 rfl ?_
      refine r_bipush 6 rfl ?_
      refine r_iload_n rfl ?_
      refine q_imul (6 * a1.toInt) rfl (by omega) (fun v247 hv247 => ?_)
      refine q_iadd (46 + v247.toInt) rfl (by omega) (fun v248 hv248 => ?_)
      refine r_istore_n ([(2, .int v248), (0, .ref 231), (1, .int a1)]) rfl ?_
      refine Ar.fall 28 rfl ?_
      obtain ⟨v249, hv249⟩ : ∃ v, eA g0 233 0 = v := ⟨_, rfl⟩
      have tv249 := congrArg Int32.toInt hv249
      have wv249 := HI.t0 hI0
      rw [hv249] at wv249
      have tv249 := congrArg Int32.toInt hv249
      obtain ⟨v250, hv250⟩ : ∃ v, eA g0 233 4 = v := ⟨_, rfl⟩
      have wv250 := HI.t4 hI0
      rw [hv250] at wv250
      have tv250 := congrArg Int32.toInt hv250
      obtain ⟨v251, hv251⟩ : ∃ v, eA g0 233 5 = v := ⟨_, rfl⟩
      have wv251 := HI.t5 hI0
      rw [hv251] at wv251
      have tv251 := congrArg Int32.toInt hv251
      obtain ⟨v252, hv252⟩ : ∃ v, eA g0 233 6 = v := ⟨_, rfl⟩
      have wv252 := HI.t6 hI0
      rw [hv252] at wv252
      have tv252 := congrArg Int32.toInt hv252
      obtain ⟨v253, hv253⟩ : ∃ v, eA g0 233 2 = v := ⟨_, rfl⟩
      have tv253 := congrArg Int32.toInt hv253
      have wv253 := HI.t2 hI0
      rw [hv253] at wv253
      have tv253 := congrArg Int32.toInt hv253
      obtain ⟨v254, hv254⟩ : ∃ v, eA g0 233 3 = v := ⟨_, rfl⟩
      have wv254 := HI.t3 hI0
      rw [hv254] at wv254
      have tv254 := congrArg Int32.toInt hv254
      refine w_loopI (fun n_ l_ g_ => ∃ x275 : Int32, n_ = 88 - x275.toInt ∧ HI g_ ∧ Fr F_X11_drop_231 A_X11_drop_231 g0 g_ ∧ eA g_ 233 0 = v249 ∧ eA g_ 233 1 = v192 ∧ eA g_ 233 4 = v250 ∧ eA g_ 233 5 = v251 ∧ eA g_ 233 6 = v252 ∧ eA g_ 233 2 = v253 ∧ eA g_ 233 3 = v254 ∧ en_get 0 l_ = some (.ref 231) ∧ en_get 1 l_ = some (.int a1) ∧ en_get 2 l_ = some (.int x275) ∧ (46 ≤ x275.toInt ∧ x275.toInt ≤ 88)) ?_ (88 - v248.toInt) ⟨v248, by first | rfl | omega, hI189, hF190, ((eA_c gA_sI).trans hv249), ((eA_c gA_sI).trans hv192), ((eA_c gA_sI).trans hv250), ((eA_c gA_sI).trans hv251), ((eA_c gA_sI).trans hv252), ((eA_c gA_sI).trans hv253), ((eA_c gA_sI).trans hv254), rfl, rfl, rfl, by omega⟩
      rintro n280 l279 g276 ⟨x275, hm293, hI277, hF278, e282, e283, e284, e285, e286, e287, e288, e289, e290, e291, r292⟩ ih281
      have tv294 := congrArg Int32.toInt e282
      have tv295 := congrArg Int32.toInt e283
      have tv296 := congrArg Int32.toInt e284
      have tv297 := congrArg Int32.toInt e285
      have tv298 := congrArg Int32.toInt e286
      have tv299 := congrArg Int32.toInt e287
      have tv300 := congrArg Int32.toInt e288
      refine At.enter rfl ?_
      refine r_iload_n e291 ?_
      refine r_bipush 88 rfl ?_
      refine r_ics 34 rfl (fun c301 => ?_) (fun c301 => ?_)
      · have c301_ : x275.toInt ≥ 88 := en_i_ge_t c301
        refine At.enter rfl ?_
        refine r_aload_n e289 ?_
        refine q_getR (Sh.ref hI277.1 kx_231 rfl) ?_
        refine r_iconst 1 rfl ?_
        refine r_dup2 ⟨rfl, rfl⟩ ?_
        refine q_iald (Sh.arr hI277.1 ka_233) 1 rfl (by decide) v192 e283 ?_
        refine r_iconst 1 rfl ?_
        refine q_isub (v192.toInt - 1) rfl (by omega) (fun v302 hv302 => ?_)
        refine q_iast (Sh.arr hI277.1 ka_233) (1) rfl (by decide) ?_
        have x305 := HI.eqA hI277 (p := 233) (j := 0) (e282)
        have x306 := HI.eqA hI277 (p := 233) (j := 1) (e283)
        have yv307 := HI.lt hI277
        have hI303 := HI.wt hI277 (j := 1) (v := v302) (by omega) (by omega)
        have hF304 := Fr.wA (p := 233) (j := 1) (v := v302) hF278 rfl
        refine r_aload_n e289 ?_
        refine r_aload_n e289 ?_
        refine q_getR (Sh.ref hI303.1 kx_231 rfl) ?_
        refine r_iconst 1 rfl ?_
        refine q_iald (Sh.arr hI303.1 ka_233) 1 rfl (by decide) v302 (eA_sA_eq hI277.1 ka_233 (by first | rfl | omega) (by first | decide | omega) (by first | decide | omega)) ?_
        refine r_callV 75 rfl [.ref 231, .int v302] [] (Nat.le_of_ble_eq_true rfl) rfl (T_X11_tell_231 _ hI303 v302 (by omega)) ?_
        rintro _ _ ⟨g308, rfl, hI309, hF310, v311, rfl, hr312⟩
        refine At.sti ?_
        have hF313 := Fr.tr hF304 hF310 rfl rfl
        refine At.enter rfl ?_
        refine r_ireti ?_
        have x314 := HI.eqA hI309 (p := 233) (j := 0) ((((eA_c (hF310.2.1 233 ma_X11_tell_231_233)).trans (eA_sA_ne hI277.1 ka_233 (by first | decide | omega) (by first | decide | omega) (by first | decide | omega))).trans e282))
        have x315 := HI.eqA hI309 (p := 233) (j := 4) ((((eA_c (hF310.2.1 233 ma_X11_tell_231_233)).trans (eA_sA_ne hI277.1 ka_233 (by first | decide | omega) (by first | decide | omega) (by first | decide | omega))).trans e284))
        have x316 := HI.eqA hI309 (p := 233) (j := 5) ((((eA_c (hF310.2.1 233 ma_X11_tell_231_233)).trans (eA_sA_ne hI277.1 ka_233 (by first | decide | omega) (by first | decide | omega) (by first | decide | omega))).trans e285))
        have x317 := HI.eqA hI309 (p := 233) (j := 6) ((((eA_c (hF310.2.1 233 ma_X11_tell_231_233)).trans (eA_sA_ne hI277.1 ka_233 (by first | decide | omega) (by first | decide | omega) (by first | decide | omega))).trans e286))
        have x318 := HI.eqA hI309 (p := 233) (j := 2) ((((eA_c (hF310.2.1 233 ma_X11_tell_231_233)).trans (eA_sA_ne hI277.1 ka_233 (by first | decide | omega) (by first | decide | omega) (by first | decide | omega))).trans e287))
        have x319 := HI.eqA hI309 (p := 233) (j := 3) ((((eA_c (hF310.2.1 233 ma_X11_tell_231_233)).trans (eA_sA_ne hI277.1 ka_233 (by first | decide | omega) (by first | decide | omega) (by first | decide | omega))).trans e288))
        have x320 := HI.eqA hI0 (p := 233) (j := 0) (hv249)
        have x321 := HI.eqA hI0 (p := 233) (j := 4) (hv250)
        have x322 := HI.eqA hI0 (p := 233) (j := 5) (hv251)
        have x323 := HI.eqA hI0 (p := 233) (j := 6) (hv252)
        have x324 := HI.eqA hI0 (p := 233) (j := 2) (hv253)
        have x325 := HI.eqA hI0 (p := 233) (j := 3) (hv254)
        exact ⟨_, rfl, hI309, hF313, _, rfl, by omega, ⟨by omega, by omega, by omega, by omega, by omega, by omega⟩⟩
      · have c301_ : x275.toInt < 88 := en_i_ge_f c301
        refine At.enter rfl ?_
        refine r_aload_n e289 ?_
        refine q_getR (Sh.ref hI277.1 kx_231 rfl) ?_
        refine r_iload_n e291 ?_
        refine r_aload_n e289 ?_
        refine q_getR (Sh.ref hI277.1 kx_231 rfl) ?_
        refine r_iload_n e291 ?_
        refine r_bipush 6 rfl ?_
        refine q_iadd (x275.toInt + 6) rfl (by omega) (fun v326 hv326 => ?_)
        obtain ⟨v327, hv327⟩ : ∃ v, eA g276 233 (x275.toInt + 6) = v := ⟨_, rfl⟩
        refine q_iald (Sh.arr hI277.1 ka_233) (x275.toInt + 6) (by omega) (by omega) v327 hv327 ?_
        refine q_iast (Sh.arr hI277.1 ka_233) (x275.toInt) rfl (by omega) ?_
        have hI328 := HI.wcp hI277 (k := x275.toInt) (by omega) (by omega) hv327
        have hF329 := Fr.wA (p := 233) (j := x275.toInt) (v := v327) hF278 rfl
        refine q_iinc e291 (x275.toInt + 1) rfl (by omega) (fun v330 hv330 => ?_)
        refine r_goto ?_
        exact ih281 (88 - v330.toInt) _ _ ⟨v330, by first | rfl | omega, hI328, hF329, ((eA_sA_ne hI277.1 ka_233 (by first | decide | omega) (by first | decide | omega) (by first | decide | omega)).trans e282), ((eA_sA_ne hI277.1 ka_233 (by first | decide | omega) (by first | decide | omega) (by first | decide | omega)).trans e283), ((eA_sA_ne hI277.1 ka_233 (by first | decide | omega) (by first | decide | omega) (by first | decide | omega)).trans e284), ((eA_sA_ne hI277.1 ka_233 (by first | decide | omega) (by first | decide | omega) (by first | decide | omega)).trans e285), ((eA_sA_ne hI277.1 ka_233 (by first | decide | omega) (by first | decide | omega) (by first | decide | omega)).trans e286), ((eA_sA_ne hI277.1 ka_233 (by first | decide | omega) (by first | decide | omega) (by first | decide | omega)).trans e287), ((eA_sA_ne hI277.1 ka_233 (by first | decide | omega) (by first | decide | omega) (by first | decide | omega)).trans e288), (w_p1 (by decide) (Or.inr rfl) e289), (w_p1 (by decide) (Or.inr rfl) e290), (w_e1 _ _ _), by omega⟩ ⟨by omega, by omega⟩

def F_X11_terms_231 : List (Nat × Nat) := [(231, 0), (231, 1)]
def A_X11_terms_231 : List Nat := [232, 233]
set_option maxRecDepth 100000 in
set_option maxHeartbeats 4000000 in
theorem T_X11_terms_231 (d : Nat) {N : Nat} {g0 : List en_E} (hI0 : HI g0) (a1 : Int32) (a2 : Int32) : Ev (d + 3) 181 [.ref 231, .int a1, .int a2] (g0, N) (fun w h' => ∃ g', h' = (g', N) ∧ HI g' ∧ Fr F_X11_terms_231 A_X11_terms_231 g0 g' ∧ ∃ r : Int32, w = some (.int r) ∧ ((-1) ≤ r.toInt ∧ r.toInt ≤ 99) ∧ ((((a1.toInt = 0 ∧ 0 ≤ a2.toInt ∧ a2.toInt ≤ 99) → r.toInt = (eA g0 233 5).toInt ∧ (eA g' 233 5).toInt = a2.toInt ∧ (eA g' 233 6).toInt = (eA g0 233 6).toInt) ∧ ((a1.toInt = 1 ∧ 1 ≤ a2.toInt ∧ a2.toInt ≤ 4) → r.toInt = (eA g0 233 6).toInt ∧ (eA g' 233 6).toInt = a2.toInt ∧ (eA g' 233 5).toInt = (eA g0 233 5).toInt) ∧ (¬ (a1.toInt = 0 ∧ 0 ≤ a2.toInt ∧ a2.toInt ≤ 99) ∧ ¬ (a1.toInt = 1 ∧ 1 ≤ a2.toInt ∧ a2.toInt ≤ 4) → r.toInt = -1 ∧ (eA g' 233 5).toInt = (eA g0 233 5).toInt ∧ (eA g' 233 6).toInt = (eA g0 233 6).toInt)) ∧ (eA g' 233 0).toInt = (eA g0 233 0).toInt ∧ (eA g' 233 4).toInt = (eA g0 233 4).toInt ∧ (eA g' 233 2).toInt = (eA g0 233 2).toInt ∧ (eA g' 233 3).toInt = (eA g0 233 3).toInt)) := by
  have hF0 : Fr F_X11_terms_231 A_X11_terms_231 g0 g0 := Fr.rf
  refine Ev.mk rfl rfl ⟨Nat.le_of_ble_eq_true rfl, Or.inr (q_rc hI0.1 kx_231 rfl)⟩ ?_
  show At _ none _ _ (0, [(0, .ref 231), (1, .int a1), (2, .int a2)], [], (_, _)) _
  refine At.enter rfl ?_
  refine r_aload_n rfl ?_
  refine r_iconst 0 rfl ?_
  refine q_putI (Sh.int hI0.1 kx_231 rfl) rfl ?_
  have hI115 := HI.wI0 hI0 kx_231 rfl (p := 231) (b := 0) (v := 0) rfl
  have hF116 := Fr.wI (p := 231) (b := 0) (v := 0) hF0 rfl
  refine r_iload_n rfl ?_
  refine r_ifs 9 rfl (fun c117 => ?_) (fun c117 => ?_)
  · have c117_ : a1.toInt ≠ 0 := en_k_ne_t c117
    refine At.enter rfl ?_
    refine r_iload_n rfl ?_
    refine r_iconst 1 rfl ?_
    refine r_ics 26 rfl (fun c118 => ?_) (fun c118 => ?_)
    · have c118_ : a1.toInt ≠ 1 := en_i_ne_t c118
      refine At.enter rfl ?_
      refine r_iconst 0 rfl ?_
      refine Ar.fall 43 rfl ?_
      refine At.enter rfl ?_
      refine r_istore_n ([(3, .int 0), (0, .ref 231), (1, .int a1), (2, .int a2)]) rfl ?_
      refine r_iload_n rfl ?_
      refine r_ift (by decide) ?_
      refine At.enter rfl ?_
      refine r_aload_n rfl ?_
      refine r_iconst (-1) rfl ?_
      refine r_callV 64 rfl [.ref 231, .int (-1)] [] (Nat.le_of_ble_eq_true rfl) rfl (T_X11_tell_231 _ hI115 (-1) (by decide)) ?_
      rintro _ _ ⟨g119, rfl, hI120, hF121, v122, rfl, hr123⟩
      refine At.sti ?_
      have hF124 := Fr.tr hF116 hF121 rfl rfl
      have zv125 : ((-1) : Int32).toInt = (-1) := rfl
      refine At.enter rfl ?_
      refine r_ireti ?_
      obtain ⟨v126, hv126⟩ : ∃ v, eA g0 233 5 = v := ⟨_, rfl⟩
      have wv126 := HI.t5 hI0
      rw [hv126] at wv126
      have tv126 := congrArg Int32.toInt hv126
      have x127 := HI.eqA hI120 (p := 233) (j := 5) ((((eA_c (hF121.2.1 233 ma_X11_tell_231_233)).trans (eA_c gA_sI)).trans hv126))
      obtain ⟨v128, hv128⟩ : ∃ v, eA g0 233 6 = v := ⟨_, rfl⟩
      have wv128 := HI.t6 hI0
      rw [hv128] at wv128
      have tv128 := congrArg Int32.toInt hv128
      have x129 := HI.eqA hI120 (p := 233) (j := 6) ((((eA_c (hF121.2.1 233 ma_X11_tell_231_233)).trans (eA_c gA_sI)).trans hv128))
      obtain ⟨v130, hv130⟩ : ∃ v, eA g0 233 0 = v := ⟨_, rfl⟩
      have tv130 := congrArg Int32.toInt hv130
      have wv130 := HI.t0 hI0
      rw [hv130] at wv130
      have tv130 := congrArg Int32.toInt hv130
      have x131 := HI.eqA hI120 (p := 233) (j := 0) ((((eA_c (hF121.2.1 233 ma_X11_tell_231_233)).trans (eA_c gA_sI)).trans hv130))
      obtain ⟨v132, hv132⟩ : ∃ v, eA g0 233 4 = v := ⟨_, rfl⟩
      have wv132 := HI.t4 hI0
      rw [hv132] at wv132
      have tv132 := congrArg Int32.toInt hv132
      have x133 := HI.eqA hI120 (p := 233) (j := 4) ((((eA_c (hF121.2.1 233 ma_X11_tell_231_233)).trans (eA_c gA_sI)).trans hv132))
      obtain ⟨v134, hv134⟩ : ∃ v, eA g0 233 2 = v := ⟨_, rfl⟩
      have tv134 := congrArg Int32.toInt hv134
      have wv134 := HI.t2 hI0
      rw [hv134] at wv134
      have tv134 := congrArg Int32.toInt hv134
      have x135 := HI.eqA hI120 (p := 233) (j := 2) ((((eA_c (hF121.2.1 233 ma_X11_tell_231_233)).trans (eA_c gA_sI)).trans hv134))
      obtain ⟨v136, hv136⟩ : ∃ v, eA g0 233 3 = v := ⟨_, rfl⟩
      have wv136 := HI.t3 hI0
      rw [hv136] at wv136
      have tv136 := congrArg Int32.toInt hv136
      have x137 := HI.eqA hI120 (p := 233) (j := 3) ((((eA_c (hF121.2.1 233 ma_X11_tell_231_233)).trans (eA_c gA_sI)).trans hv136))
      have x138 := HI.eqA hI0 (p := 233) (j := 5) (hv126)
      have x139 := HI.eqA hI0 (p := 233) (j := 6) (hv128)
      have x140 := HI.eqA hI0 (p := 233) (j := 0) (hv130)
      have x141 := HI.eqA hI0 (p := 233) (j := 4) (hv132)
      have x142 := HI.eqA hI0 (p := 233) (j := 2) (hv134)
      have x143 := HI.eqA hI0 (p := 233) (j := 3) (hv136)
      exact ⟨_, rfl, hI120, hF124, _, rfl, by omega, ⟨by omega, by omega, by omega, by omega, by omega⟩⟩
    · have c118_ : a1.toInt = 1 := en_i_ne_f c118
      refine At.enter rfl ?_
      refine r_iload_n rfl ?_
      refine q_i2l (fun v144 hv144 => ?_)
      refine r_lconst 1 rfl ?_
      refine r_ldc2 4 rfl ?_
      refine q_inlS 35 rfl [.long v144, .long 1, .long 4] [] (Nat.le_of_ble_eq_true rfl) rfl ?_
      refine Ev.mk rfl rfl ⟨Nat.le_of_ble_eq_true rfl, Or.inl rfl⟩ ?_
      show At _ none _ _ (0, [(0, .long v144), (2, .long 1), (4, .long 4)], [], (_, _)) _
      refine At.enter rfl ?_
      refine r_lload_n rfl ?_
      refine r_lload_n rfl ?_
      refine r_lcmp _ rfl ?_
      refine r_ifs 6 rfl (fun c145 => ?_) (fun c145 => ?_)
      · have c145_ : v144.toInt < 1 := en_j_lt_t c145
        refine At.enter rfl ?_
        refine r_iconst 0 rfl ?_
        refine Ar.fall 18 rfl ?_
        refine At.enter rfl ?_
        refine q_iretz (by decide) ?_
        refine At.enter rfl ?_
        refine r_ift (by decide) ?_
        refine At.enter rfl ?_
        refine r_iconst 0 rfl ?_
        refine Ar.fall 43 rfl ?_
        refine At.enter rfl ?_
        refine r_istore_n ([(3, .int 0), (0, .ref 231), (1, .int a1), (2, .int a2)]) rfl ?_
        refine r_iload_n rfl ?_
        refine r_ift (by decide) ?_
        refine At.enter rfl ?_
        refine r_aload_n rfl ?_
        refine r_iconst (-1) rfl ?_
        refine r_callV 64 rfl [.ref 231, .int (-1)] [] (Nat.le_of_ble_eq_true rfl) rfl (T_X11_tell_231 _ hI115 (-1) (by decide)) ?_
        rintro _ _ ⟨g146, rfl, hI147, hF148, v149, rfl, hr150⟩
        refine At.sti ?_
        have hF151 := Fr.tr hF116 hF148 rfl rfl
        have zv152 : ((-1) : Int32).toInt = (-1) := rfl
        refine At.enter rfl ?_
        refine r_ireti ?_
        obtain ⟨v153, hv153⟩ : ∃ v, eA g0 233 5 = v := ⟨_, rfl⟩
        have wv153 := HI.t5 hI0
        rw [hv153] at wv153
        have tv153 := congrArg Int32.toInt hv153
        have x154 := HI.eqA hI147 (p := 233) (j := 5) ((((eA_c (hF148.2.1 233 ma_X11_tell_231_233)).trans (eA_c gA_sI)).trans hv153))
        obtain ⟨v155, hv155⟩ : ∃ v, eA g0 233 6 = v := ⟨_, rfl⟩
        have wv155 := HI.t6 hI0
        rw [hv155] at wv155
        have tv155 := congrArg Int32.toInt hv155
        have x156 := HI.eqA hI147 (p := 233) (j := 6) ((((eA_c (hF148.2.1 233 ma_X11_tell_231_233)).trans (eA_c gA_sI)).trans hv155))
        obtain ⟨v157, hv157⟩ : ∃ v, eA g0 233 0 = v := ⟨_, rfl⟩
        have tv157 := congrArg Int32.toInt hv157
        have wv157 := HI.t0 hI0
        rw [hv157] at wv157
        have tv157 := congrArg Int32.toInt hv157
        have x158 := HI.eqA hI147 (p := 233) (j := 0) ((((eA_c (hF148.2.1 233 ma_X11_tell_231_233)).trans (eA_c gA_sI)).trans hv157))
        obtain ⟨v159, hv159⟩ : ∃ v, eA g0 233 4 = v := ⟨_, rfl⟩
        have wv159 := HI.t4 hI0
        rw [hv159] at wv159
        have tv159 := congrArg Int32.toInt hv159
        have x160 := HI.eqA hI147 (p := 233) (j := 4) ((((eA_c (hF148.2.1 233 ma_X11_tell_231_233)).trans (eA_c gA_sI)).trans hv159))
        obtain ⟨v161, hv161⟩ : ∃ v, eA g0 233 2 = v := ⟨_, rfl⟩
        have tv161 := congrArg Int32.toInt hv161
        have wv161 := HI.t2 hI0
        rw [hv161] at wv161
        have tv161 := congrArg Int32.toInt hv161
        have x162 := HI.eqA hI147 (p := 233) (j := 2) ((((eA_c (hF148.2.1 233 ma_X11_tell_231_233)).trans (eA_c gA_sI)).trans hv161))
        obtain ⟨v163, hv163⟩ : ∃ v, eA g0 233 3 = v := ⟨_, rfl⟩
        have wv163 := HI.t3 hI0
        rw [hv163] at wv163
        have tv163 := congrArg Int32.toInt hv163
        have x164 := HI.eqA hI147 (p := 233) (j := 3) ((((eA_c (hF148.2.1 233 ma_X11_tell_231_233)).trans (eA_c gA_sI)).trans hv163))
        have x165 := HI.eqA hI0 (p := 233) (j := 5) (hv153)
        have x166 := HI.eqA hI0 (p := 233) (j := 6) (hv155)
        have x167 := HI.eqA hI0 (p := 233) (j := 0) (hv157)
        have x168 := HI.eqA hI0 (p := 233) (j := 4) (hv159)
        have x169 := HI.eqA hI0 (p := 233) (j := 2) (hv161)
        have x170 := HI.eqA hI0 (p := 233) (j := 3) (hv163)
        exact ⟨_, rfl, hI147, hF151, _, rfl, by omega, ⟨by omega, by omega, by omega, by omega, by omega⟩⟩
      · have c145_ : v144.toInt ≥ 1 := en_j_lt_f c145
        refine At.enter rfl ?_
        refine r_lload_n rfl ?_
        refine r_lload rfl ?_
        refine r_lcmp _ rfl ?_
        refine r_ifs 13 rfl (fun c171 => ?_) (fun c171 => ?_)
        · have c171_ : v144.toInt > 4 := en_j_gt_t c171
          refine At.enter rfl ?_
          refine r_iconst 0 rfl ?_
          refine Ar.fall 18 rfl ?_
          refine At.enter rfl ?_
          refine q_iretz (by decide) ?_
          refine At.enter rfl ?_
          refine r_ift (by decide) ?_
          refine At.enter rfl ?_
          refine r_iconst 0 rfl ?_
          refine Ar.fall 43 rfl ?_
          refine At.enter rfl ?_
          refine r_istore_n ([(3, .int 0), (0, .ref 231), (1, .int a1), (2, .int a2)]) rfl ?_
          refine r_iload_n rfl ?_
          refine r_ift (by decide) ?_
          refine At.enter rfl ?_
          refine r_aload_n rfl ?_
          refine r_iconst (-1) rfl ?_
          refine r_callV 64 rfl [.ref 231, .int (-1)] [] (Nat.le_of_ble_eq_true rfl) rfl (T_X11_tell_231 _ hI115 (-1) (by decide)) ?_
          rintro _ _ ⟨g172, rfl, hI173, hF174, v175, rfl, hr176⟩
          refine At.sti ?_
          have hF177 := Fr.tr hF116 hF174 rfl rfl
          have zv178 : ((-1) : Int32).toInt = (-1) := rfl
          refine At.enter rfl ?_
          refine r_ireti ?_
          obtain ⟨v179, hv179⟩ : ∃ v, eA g0 233 5 = v := ⟨_, rfl⟩
          have wv179 := HI.t5 hI0
          rw [hv179] at wv179
          have tv179 := congrArg Int32.toInt hv179
          have x180 := HI.eqA hI173 (p := 233) (j := 5) ((((eA_c (hF174.2.1 233 ma_X11_tell_231_233)).trans (eA_c gA_sI)).trans hv179))
          obtain ⟨v181, hv181⟩ : ∃ v, eA g0 233 6 = v := ⟨_, rfl⟩
          have wv181 := HI.t6 hI0
          rw [hv181] at wv181
          have tv181 := congrArg Int32.toInt hv181
          have x182 := HI.eqA hI173 (p := 233) (j := 6) ((((eA_c (hF174.2.1 233 ma_X11_tell_231_233)).trans (eA_c gA_sI)).trans hv181))
          obtain ⟨v183, hv183⟩ : ∃ v, eA g0 233 0 = v := ⟨_, rfl⟩
          have tv183 := congrArg Int32.toInt hv183
          have wv183 := HI.t0 hI0
          rw [hv183] at wv183
          have tv183 := congrArg Int32.toInt hv183
          have x184 := HI.eqA hI173 (p := 233) (j := 0) ((((eA_c (hF174.2.1 233 ma_X11_tell_231_233)).trans (eA_c gA_sI)).trans hv183))
          obtain ⟨v185, hv185⟩ : ∃ v, eA g0 233 4 = v := ⟨_, rfl⟩
          have wv185 := HI.t4 hI0
          rw [hv185] at wv185
          have tv185 := congrArg Int32.toInt hv185
          have x186 := HI.eqA hI173 (p := 233) (j := 4) ((((eA_c (hF174.2.1 233 ma_X11_tell_231_233)).trans (eA_c gA_sI)).trans hv185))
          obtain ⟨v187, hv187⟩ : ∃ v, eA g0 233 2 = v := ⟨_, rfl⟩
          have tv187 := congrArg Int32.toInt hv187
          have wv187 := HI.t2 hI0
          rw [hv187] at wv187
          have tv187 := congrArg Int32.toInt hv187
          have x188 := HI.eqA hI173 (p := 233) (j := 2) ((((eA_c (hF174.2.1 233 ma_X11_tell_231_233)).trans (eA_c gA_sI)).trans hv187))
          obtain ⟨v189, hv189⟩ : ∃ v, eA g0 233 3 = v := ⟨_, rfl⟩
          have wv189 := HI.t3 hI0
          rw [hv189] at wv189
          have tv189 := congrArg Int32.toInt hv189
          have x190 := HI.eqA hI173 (p := 233) (j := 3) ((((eA_c (hF174.2.1 233 ma_X11_tell_231_233)).trans (eA_c gA_sI)).trans hv189))
          have x191 := HI.eqA hI0 (p := 233) (j := 5) (hv179)
          have x192 := HI.eqA hI0 (p := 233) (j := 6) (hv181)
          have x193 := HI.eqA hI0 (p := 233) (j := 0) (hv183)
          have x194 := HI.eqA hI0 (p := 233) (j := 4) (hv185)
          have x195 := HI.eqA hI0 (p := 233) (j := 2) (hv187)
          have x196 := HI.eqA hI0 (p := 233) (j := 3) (hv189)
          exact ⟨_, rfl, hI173, hF177, _, rfl, by omega, ⟨by omega, by omega, by omega, by omega, by omega⟩⟩
        · have c171_ : v144.toInt ≤ 4 := en_j_gt_f c171
          refine At.enter rfl ?_
          refine r_iconst 1 rfl ?_
          refine r_goto ?_
          refine At.enter rfl ?_
          refine q_iretz (by decide) ?_
          refine At.enter rfl ?_
          refine r_iff 38 rfl (by decide) ?_
          refine At.enter rfl ?_
          refine r_iconst 1 rfl ?_
          refine r_goto ?_
          refine At.enter rfl ?_
          refine r_istore_n ([(3, .int 1), (0, .ref 231), (1, .int a1), (2, .int a2)]) rfl ?_
          refine r_iload_n rfl ?_
          refine r_iff 48 rfl (by decide) ?_
          refine At.enter rfl ?_
          refine r_aload_n rfl ?_
          refine r_iconst 5 rfl ?_
          refine r_iload_n rfl ?_
          refine q_iadd (5 + a1.toInt) rfl (by omega) (fun v197 hv197 => ?_)
          refine r_iload_n rfl ?_
          refine q_inlV 56 rfl [.ref 231, .int v197, .int a2] [] (Nat.le_of_ble_eq_true rfl) rfl ?_
          refine Ev.mk rfl rfl ⟨Nat.le_of_ble_eq_true rfl, Or.inr (q_rc hI115.1 kx_231 rfl)⟩ ?_
          show At _ none _ _ (0, [(0, .ref 231), (1, .int v197), (2, .int a2)], [], (_, _)) _
          refine At.enter rfl ?_
          refine r_aload_n rfl ?_
          refine q_getR (Sh.ref hI115.1 kx_231 rfl) ?_
          refine r_iload_n rfl ?_
          obtain ⟨v198, hv198⟩ : ∃ v, eA g0 233 (a1.toInt + 5) = v := ⟨_, rfl⟩
          have wv198 : 1 ≤ v198.toInt ∧ v198.toInt ≤ 4 := by have z := HI.t6 hI0; rw [← hv198, show (a1.toInt + 5) = 6 by omega]; exact z
          refine q_iald (Sh.arr hI115.1 ka_233) (a1.toInt + 5) (by omega) (by omega) v198 ((eA_c (gA_sI)).trans hv198) ?_
          refine r_istore_n ([(3, .int v198), (0, .ref 231), (1, .int v197), (2, .int a2)]) rfl ?_
          refine r_aload_n rfl ?_
          refine q_getR (Sh.ref hI115.1 kx_231 rfl) ?_
          refine r_iload_n rfl ?_
          refine r_iload_n rfl ?_
          refine q_iast (Sh.arr hI115.1 ka_233) ((a1.toInt + 5)) (by omega) (by omega) ?_
          have hI199 := HI.wt hI115 (j := (a1.toInt + 5)) (v := a2) (by omega) (by omega)
          have hF200 := Fr.wA (p := 233) (j := (a1.toInt + 5)) (v := a2) hF116 rfl
          refine r_aload_n rfl ?_
          refine r_iload_n rfl ?_
          refine q_inlV 19 rfl [.ref 231, .int v198] [] (Nat.le_of_ble_eq_true rfl) rfl ?_
          refine Ev.mk rfl rfl ⟨Nat.le_of_ble_eq_true rfl, Or.inr (q_rc hI199.1 kx_231 rfl)⟩ ?_
          show At _ none _ _ (0, [(0, .ref 231), (1, .int v198)], [], (_, _)) _
          refine At.enter rfl ?_
          refine r_aload_n rfl ?_
          refine r_iconst 0 rfl ?_
          refine q_putI (Sh.int hI199.1 kx_231 rfl) rfl ?_
          have hI201 := HI.wI0 hI199 kx_231 rfl (p := 231) (b := 1) (v := 0) rfl
          have hF202 := Fr.wI (p := 231) (b := 1) (v := 0) hF200 rfl
          refine r_iload_n rfl ?_
          refine q_ireti ?_
          refine At.enter rfl ?_
          refine q_ireti ?_
          refine At.enter rfl ?_
          refine r_goto ?_
          refine At.enter rfl ?_
          refine r_ireti ?_
          obtain ⟨v203, hv203⟩ : ∃ v, eA g0 233 5 = v := ⟨_, rfl⟩
          have wv203 := HI.t5 hI0
          rw [hv203] at wv203
          have tv203 := congrArg Int32.toInt hv203
          have x204 := HI.eqA hI201 (p := 233) (j := 5) ((((eA_c gA_sI).trans ((eA_sA_ne hI115.1 ka_233 (by first | decide | omega) (by first | decide | omega) (by first | decide | omega)).trans (eA_c gA_sI))).trans hv203))
          have x205 := HI.eqA hI201 (p := 233) (j := 6) (((eA_c gA_sI).trans (eA_sA_eq hI115.1 ka_233 (by omega) (by first | decide | omega) (by first | decide | omega))))
          obtain ⟨v206, hv206⟩ : ∃ v, eA g0 233 0 = v := ⟨_, rfl⟩
          have tv206 := congrArg Int32.toInt hv206
          have wv206 := HI.t0 hI0
          rw [hv206] at wv206
          have tv206 := congrArg Int32.toInt hv206
          have x207 := HI.eqA hI201 (p := 233) (j := 0) ((((eA_c gA_sI).trans ((eA_sA_ne hI115.1 ka_233 (by first | decide | omega) (by first | decide | omega) (by first | decide | omega)).trans (eA_c gA_sI))).trans hv206))
          obtain ⟨v208, hv208⟩ : ∃ v, eA g0 233 4 = v := ⟨_, rfl⟩
          have wv208 := HI.t4 hI0
          rw [hv208] at wv208
          have tv208 := congrArg Int32.toInt hv208
          have x209 := HI.eqA hI201 (p := 233) (j := 4) ((((eA_c gA_sI).trans ((eA_sA_ne hI115.1 ka_233 (by first | decide | omega) (by first | decide | omega) (by first | decide | omega)).trans (eA_c gA_sI))).trans hv208))
          obtain ⟨v210, hv210⟩ : ∃ v, eA g0 233 2 = v := ⟨_, rfl⟩
          have tv210 := congrArg Int32.toInt hv210
          have wv210 := HI.t2 hI0
          rw [hv210] at wv210
          have tv210 := congrArg Int32.toInt hv210
          have x211 := HI.eqA hI201 (p := 233) (j := 2) ((((eA_c gA_sI).trans ((eA_sA_ne hI115.1 ka_233 (by first | decide | omega) (by first | decide | omega) (by first | decide | omega)).trans (eA_c gA_sI))).trans hv210))
          obtain ⟨v212, hv212⟩ : ∃ v, eA g0 233 3 = v := ⟨_, rfl⟩
          have wv212 := HI.t3 hI0
          rw [hv212] at wv212
          have tv212 := congrArg Int32.toInt hv212
          have x213 := HI.eqA hI201 (p := 233) (j := 3) ((((eA_c gA_sI).trans ((eA_sA_ne hI115.1 ka_233 (by first | decide | omega) (by first | decide | omega) (by first | decide | omega)).trans (eA_c gA_sI))).trans hv212))
          have x214 := HI.eqA hI0 (p := 233) (j := 5) (hv203)
          obtain ⟨v215, hv215⟩ : ∃ v, eA g0 233 6 = v := ⟨_, rfl⟩
          have wv215 := HI.t6 hI0
          rw [hv215] at wv215
          have tv215 := congrArg Int32.toInt hv215
          have x216 := HI.eqA hI0 (p := 233) (j := 6) (hv215)
          have y217 : (eA g0 233 6).toInt = v198.toInt := by rw [← hv198, show (a1.toInt + 5) = 6 by omega]
          have x218 := HI.eqA hI0 (p := 233) (j := 0) (hv206)
          have x219 := HI.eqA hI0 (p := 233) (j := 4) (hv208)
          have x220 := HI.eqA hI0 (p := 233) (j := 2) (hv210)
          have x221 := HI.eqA hI0 (p := 233) (j := 3) (hv212)
          exact ⟨_, rfl, hI201, hF202, _, rfl, by omega, ⟨by omega, by omega, by omega, by omega, by omega⟩⟩
  · have c117_ : a1.toInt = 0 := en_k_ne_f c117
    refine At.enter rfl ?_
    refine r_iload_n rfl ?_
    refine q_i2l (fun v222 hv222 => ?_)
    refine r_lconst 0 rfl ?_
    refine r_ldc2 99 rfl ?_
    refine q_inlS 18 rfl [.long v222, .long 0, .long 99] [] (Nat.le_of_ble_eq_true rfl) rfl ?_
    refine Ev.mk rfl rfl ⟨Nat.le_of_ble_eq_true rfl, Or.inl rfl⟩ ?_
    show At _ none _ _ (0, [(0, .long v222), (2, .long 0), (4, .long 99)], [], (_, _)) _
    refine At.enter rfl ?_
    refine r_lload_n rfl ?_
    refine r_lload_n rfl ?_
    refine r_lcmp _ rfl ?_
    refine r_ifs 6 rfl (fun c223 => ?_) (fun c223 => ?_)
    · have c223_ : v222.toInt < 0 := en_j_lt_t c223
      refine At.enter rfl ?_
      refine r_iconst 0 rfl ?_
      refine Ar.fall 18 rfl ?_
      refine At.enter rfl ?_
      refine q_iretz (by decide) ?_
      refine At.enter rfl ?_
      refine r_goto ?_
      refine At.enter rfl ?_
      refine r_istore_n ([(3, .int 0), (0, .ref 231), (1, .int a1), (2, .int a2)]) rfl ?_
      refine r_iload_n rfl ?_
      refine r_ift (by decide) ?_
      refine At.enter rfl ?_
      refine r_aload_n rfl ?_
      refine r_iconst (-1) rfl ?_
      refine r_callV 64 rfl [.ref 231, .int (-1)] [] (Nat.le_of_ble_eq_true rfl) rfl (T_X11_tell_231 _ hI115 (-1) (by decide)) ?_
      rintro _ _ ⟨g224, rfl, hI225, hF226, v227, rfl, hr228⟩
      refine At.sti ?_
      have hF229 := Fr.tr hF116 hF226 rfl rfl
      have zv230 : ((-1) : Int32).toInt = (-1) := rfl
      refine At.enter rfl ?_
      refine r_ireti ?_
      obtain ⟨v231, hv231⟩ : ∃ v, eA g0 233 5 = v := ⟨_, rfl⟩
      have wv231 := HI.t5 hI0
      rw [hv231] at wv231
      have tv231 := congrArg Int32.toInt hv231
      have x232 := HI.eqA hI225 (p := 233) (j := 5) ((((eA_c (hF226.2.1 233 ma_X11_tell_231_233)).trans (eA_c gA_sI)).trans hv231))
      obtain ⟨v233, hv233⟩ : ∃ v, eA g0 233 6 = v := ⟨_, rfl⟩
      have wv233 := HI.t6 hI0
      rw [hv233] at wv233
      have tv233 := congrArg Int32.toInt hv233
      have x234 := HI.eqA hI225 (p := 233) (j := 6) ((((eA_c (hF226.2.1 233 ma_X11_tell_231_233)).trans (eA_c gA_sI)).trans hv233))
      obtain ⟨v235, hv235⟩ : ∃ v, eA g0 233 0 = v := ⟨_, rfl⟩
      have tv235 := congrArg Int32.toInt hv235
      have wv235 := HI.t0 hI0
      rw [hv235] at wv235
      have tv235 := congrArg Int32.toInt hv235
      have x236 := HI.eqA hI225 (p := 233) (j := 0) ((((eA_c (hF226.2.1 233 ma_X11_tell_231_233)).trans (eA_c gA_sI)).trans hv235))
      obtain ⟨v237, hv237⟩ : ∃ v, eA g0 233 4 = v := ⟨_, rfl⟩
      have wv237 := HI.t4 hI0
      rw [hv237] at wv237
      have tv237 := congrArg Int32.toInt hv237
      have x238 := HI.eqA hI225 (p := 233) (j := 4) ((((eA_c (hF226.2.1 233 ma_X11_tell_231_233)).trans (eA_c gA_sI)).trans hv237))
      obtain ⟨v239, hv239⟩ : ∃ v, eA g0 233 2 = v := ⟨_, rfl⟩
      have tv239 := congrArg Int32.toInt hv239
      have wv239 := HI.t2 hI0
      rw [hv239] at wv239
      have tv239 := congrArg Int32.toInt hv239
      have x240 := HI.eqA hI225 (p := 233) (j := 2) ((((eA_c (hF226.2.1 233 ma_X11_tell_231_233)).trans (eA_c gA_sI)).trans hv239))
      obtain ⟨v241, hv241⟩ : ∃ v, eA g0 233 3 = v := ⟨_, rfl⟩
      have wv241 := HI.t3 hI0
      rw [hv241] at wv241
      have tv241 := congrArg Int32.toInt hv241
      have x242 := HI.eqA hI225 (p := 233) (j := 3) ((((eA_c (hF226.2.1 233 ma_X11_tell_231_233)).trans (eA_c gA_sI)).trans hv241))
      have x243 := HI.eqA hI0 (p := 233) (j := 5) (hv231)
      have x244 := HI.eqA hI0 (p := 233) (j := 6) (hv233)
      have x245 := HI.eqA hI0 (p := 233) (j := 0) (hv235)
      have x246 := HI.eqA hI0 (p := 233) (j := 4) (hv237)
      have x247 := HI.eqA hI0 (p := 233) (j := 2) (hv239)
      have x248 := HI.eqA hI0 (p := 233) (j := 3) (hv241)
      exact ⟨_, rfl, hI225, hF229, _, rfl, by omega, ⟨by omega, by omega, by omega, by omega, by omega⟩⟩
    · have c223_ : v222.toInt ≥ 0 := en_j_lt_f c223
      refine At.enter rfl ?_
      refine r_lload_n rfl ?_
      refine r_lload rfl ?_
      refine r_lcmp _ rfl ?_
      refine r_ifs 13 rfl (fun c249 => ?_) (fun c249 => ?_)
      · have c249_ : v222.toInt > 99 := en_j_gt_t c249
        refine At.enter rfl ?_
        refine r_iconst 0 rfl ?_
        refine Ar.fall 18 rfl ?_
        refine At.enter rfl ?_
        refine q_iretz (by decide) ?_
        refine At.enter rfl ?_
        refine r_goto ?_
        refine At.enter rfl ?_
        refine r_istore_n ([(3, .int 0), (0, .ref 231), (1, .int a1), (2, .int a2)]) rfl ?_
        refine r_iload_n rfl ?_
        refine r_ift (by decide) ?_
        refine At.enter rfl ?_
        refine r_aload_n rfl ?_
        refine r_iconst (-1) rfl ?_
        refine r_callV 64 rfl [.ref 231, .int (-1)] [] (Nat.le_of_ble_eq_true rfl) rfl (T_X11_tell_231 _ hI115 (-1) (by decide)) ?_
        rintro _ _ ⟨g250, rfl, hI251, hF252, v253, rfl, hr254⟩
        refine At.sti ?_
        have hF255 := Fr.tr hF116 hF252 rfl rfl
        have zv256 : ((-1) : Int32).toInt = (-1) := rfl
        refine At.enter rfl ?_
        refine r_ireti ?_
        obtain ⟨v257, hv257⟩ : ∃ v, eA g0 233 5 = v := ⟨_, rfl⟩
        have wv257 := HI.t5 hI0
        rw [hv257] at wv257
        have tv257 := congrArg Int32.toInt hv257
        have x258 := HI.eqA hI251 (p := 233) (j := 5) ((((eA_c (hF252.2.1 233 ma_X11_tell_231_233)).trans (eA_c gA_sI)).trans hv257))
        obtain ⟨v259, hv259⟩ : ∃ v, eA g0 233 6 = v := ⟨_, rfl⟩
        have wv259 := HI.t6 hI0
        rw [hv259] at wv259
        have tv259 := congrArg Int32.toInt hv259
        have x260 := HI.eqA hI251 (p := 233) (j := 6) ((((eA_c (hF252.2.1 233 ma_X11_tell_231_233)).trans (eA_c gA_sI)).trans hv259))
        obtain ⟨v261, hv261⟩ : ∃ v, eA g0 233 0 = v := ⟨_, rfl⟩
        have tv261 := congrArg Int32.toInt hv261
        have wv261 := HI.t0 hI0
        rw [hv261] at wv261
        have tv261 := congrArg Int32.toInt hv261
        have x262 := HI.eqA hI251 (p := 233) (j := 0) ((((eA_c (hF252.2.1 233 ma_X11_tell_231_233)).trans (eA_c gA_sI)).trans hv261))
        obtain ⟨v263, hv263⟩ : ∃ v, eA g0 233 4 = v := ⟨_, rfl⟩
        have wv263 := HI.t4 hI0
        rw [hv263] at wv263
        have tv263 := congrArg Int32.toInt hv263
        have x264 := HI.eqA hI251 (p := 233) (j := 4) ((((eA_c (hF252.2.1 233 ma_X11_tell_231_233)).trans (eA_c gA_sI)).trans hv263))
        obtain ⟨v265, hv265⟩ : ∃ v, eA g0 233 2 = v := ⟨_, rfl⟩
        have tv265 := congrArg Int32.toInt hv265
        have wv265 := HI.t2 hI0
        rw [hv265] at wv265
        have tv265 := congrArg Int32.toInt hv265
        have x266 := HI.eqA hI251 (p := 233) (j := 2) ((((eA_c (hF252.2.1 233 ma_X11_tell_231_233)).trans (eA_c gA_sI)).trans hv265))
        obtain ⟨v267, hv267⟩ : ∃ v, eA g0 233 3 = v := ⟨_, rfl⟩
        have wv267 := HI.t3 hI0
        rw [hv267] at wv267
        have tv267 := congrArg Int32.toInt hv267
        have x268 := HI.eqA hI251 (p := 233) (j := 3) ((((eA_c (hF252.2.1 233 ma_X11_tell_231_233)).trans (eA_c gA_sI)).trans hv267))
        have x269 := HI.eqA hI0 (p := 233) (j := 5) (hv257)
        have x270 := HI.eqA hI0 (p := 233) (j := 6) (hv259)
        have x271 := HI.eqA hI0 (p := 233) (j := 0) (hv261)
        have x272 := HI.eqA hI0 (p := 233) (j := 4) (hv263)
        have x273 := HI.eqA hI0 (p := 233) (j := 2) (hv265)
        have x274 := HI.eqA hI0 (p := 233) (j := 3) (hv267)
        exact ⟨_, rfl, hI251, hF255, _, rfl, by omega, ⟨by omega, by omega, by omega, by omega, by omega⟩⟩
      · have c249_ : v222.toInt ≤ 99 := en_j_gt_f c249
        refine At.enter rfl ?_
        refine r_iconst 1 rfl ?_
        refine r_goto ?_
        refine At.enter rfl ?_
        refine q_iretz (by decide) ?_
        refine At.enter rfl ?_
        refine r_goto ?_
        refine At.enter rfl ?_
        refine r_istore_n ([(3, .int 1), (0, .ref 231), (1, .int a1), (2, .int a2)]) rfl ?_
        refine r_iload_n rfl ?_
        refine r_iff 48 rfl (by decide) ?_
        refine At.enter rfl ?_
        refine r_aload_n rfl ?_
        refine r_iconst 5 rfl ?_
        refine r_iload_n rfl ?_
        refine q_iadd (5 + a1.toInt) rfl (by omega) (fun v275 hv275 => ?_)
        refine r_iload_n rfl ?_
        refine q_inlV 56 rfl [.ref 231, .int v275, .int a2] [] (Nat.le_of_ble_eq_true rfl) rfl ?_
        refine Ev.mk rfl rfl ⟨Nat.le_of_ble_eq_true rfl, Or.inr (q_rc hI115.1 kx_231 rfl)⟩ ?_
        show At _ none _ _ (0, [(0, .ref 231), (1, .int v275), (2, .int a2)], [], (_, _)) _
        refine At.enter rfl ?_
        refine r_aload_n rfl ?_
        refine q_getR (Sh.ref hI115.1 kx_231 rfl) ?_
        refine r_iload_n rfl ?_
        obtain ⟨v276, hv276⟩ : ∃ v, eA g0 233 (a1.toInt + 5) = v := ⟨_, rfl⟩
        have wv276 : 0 ≤ v276.toInt ∧ v276.toInt ≤ 99 := by have z := HI.t5 hI0; rw [← hv276, show (a1.toInt + 5) = 5 by omega]; exact z
        refine q_iald (Sh.arr hI115.1 ka_233) (a1.toInt + 5) (by omega) (by omega) v276 ((eA_c (gA_sI)).trans hv276) ?_
        refine r_istore_n ([(3, .int v276), (0, .ref 231), (1, .int v275), (2, .int a2)]) rfl ?_
        refine r_aload_n rfl ?_
        refine q_getR (Sh.ref hI115.1 kx_231 rfl) ?_
        refine r_iload_n rfl ?_
        refine r_iload_n rfl ?_
        refine q_iast (Sh.arr hI115.1 ka_233) ((a1.toInt + 5)) (by omega) (by omega) ?_
        have hI277 := HI.wt hI115 (j := (a1.toInt + 5)) (v := a2) (by omega) (by omega)
        have hF278 := Fr.wA (p := 233) (j := (a1.toInt + 5)) (v := a2) hF116 rfl
        refine r_aload_n rfl ?_
        refine r_iload_n rfl ?_
        refine q_inlV 19 rfl [.ref 231, .int v276] [] (Nat.le_of_ble_eq_true rfl) rfl ?_
        refine Ev.mk rfl rfl ⟨Nat.le_of_ble_eq_true rfl, Or.inr (q_rc hI277.1 kx_231 rfl)⟩ ?_
        show At _ none _ _ (0, [(0, .ref 231), (1, .int v276)], [], (_, _)) _
        refine At.enter rfl ?_
        refine r_aload_n rfl ?_
        refine r_iconst 0 rfl ?_
        refine q_putI (Sh.int hI277.1 kx_231 rfl) rfl ?_
        have hI279 := HI.wI0 hI277 kx_231 rfl (p := 231) (b := 1) (v := 0) rfl
        have hF280 := Fr.wI (p := 231) (b := 1) (v := 0) hF278 rfl
        refine r_iload_n rfl ?_
        refine q_ireti ?_
        refine At.enter rfl ?_
        refine q_ireti ?_
        refine At.enter rfl ?_
        refine r_goto ?_
        refine At.enter rfl ?_
        refine r_ireti ?_
        have x281 := HI.eqA hI279 (p := 233) (j := 5) (((eA_c gA_sI).trans (eA_sA_eq hI115.1 ka_233 (by omega) (by first | decide | omega) (by first | decide | omega))))
        obtain ⟨v282, hv282⟩ : ∃ v, eA g0 233 6 = v := ⟨_, rfl⟩
        have wv282 := HI.t6 hI0
        rw [hv282] at wv282
        have tv282 := congrArg Int32.toInt hv282
        have x283 := HI.eqA hI279 (p := 233) (j := 6) ((((eA_c gA_sI).trans ((eA_sA_ne hI115.1 ka_233 (by first | decide | omega) (by first | decide | omega) (by first | decide | omega)).trans (eA_c gA_sI))).trans hv282))
        obtain ⟨v284, hv284⟩ : ∃ v, eA g0 233 0 = v := ⟨_, rfl⟩
        have tv284 := congrArg Int32.toInt hv284
        have wv284 := HI.t0 hI0
        rw [hv284] at wv284
        have tv284 := congrArg Int32.toInt hv284
        have x285 := HI.eqA hI279 (p := 233) (j := 0) ((((eA_c gA_sI).trans ((eA_sA_ne hI115.1 ka_233 (by first | decide | omega) (by first | decide | omega) (by first | decide | omega)).trans (eA_c gA_sI))).trans hv284))
        obtain ⟨v286, hv286⟩ : ∃ v, eA g0 233 4 = v := ⟨_, rfl⟩
        have wv286 := HI.t4 hI0
        rw [hv286] at wv286
        have tv286 := congrArg Int32.toInt hv286
        have x287 := HI.eqA hI279 (p := 233) (j := 4) ((((eA_c gA_sI).trans ((eA_sA_ne hI115.1 ka_233 (by first | decide | omega) (by first | decide | omega) (by first | decide | omega)).trans (eA_c gA_sI))).trans hv286))
        obtain ⟨v288, hv288⟩ : ∃ v, eA g0 233 2 = v := ⟨_, rfl⟩
        have tv288 := congrArg Int32.toInt hv288
        have wv288 := HI.t2 hI0
        rw [hv288] at wv288
        have tv288 := congrArg Int32.toInt hv288
        have x289 := HI.eqA hI279 (p := 233) (j := 2) ((((eA_c gA_sI).trans ((eA_sA_ne hI115.1 ka_233 (by first | decide | omega) (by first | decide | omega) (by first | decide | omega)).trans (eA_c gA_sI))).trans hv288))
        obtain ⟨v290, hv290⟩ : ∃ v, eA g0 233 3 = v := ⟨_, rfl⟩
        have wv290 := HI.t3 hI0
        rw [hv290] at wv290
        have tv290 := congrArg Int32.toInt hv290
        have x291 := HI.eqA hI279 (p := 233) (j := 3) ((((eA_c gA_sI).trans ((eA_sA_ne hI115.1 ka_233 (by first | decide | omega) (by first | decide | omega) (by first | decide | omega)).trans (eA_c gA_sI))).trans hv290))
        obtain ⟨v292, hv292⟩ : ∃ v, eA g0 233 5 = v := ⟨_, rfl⟩
        have wv292 := HI.t5 hI0
        rw [hv292] at wv292
        have tv292 := congrArg Int32.toInt hv292
        have x293 := HI.eqA hI0 (p := 233) (j := 5) (hv292)
        have y294 : (eA g0 233 5).toInt = v276.toInt := by rw [← hv276, show (a1.toInt + 5) = 5 by omega]
        have x295 := HI.eqA hI0 (p := 233) (j := 6) (hv282)
        have x296 := HI.eqA hI0 (p := 233) (j := 0) (hv284)
        have x297 := HI.eqA hI0 (p := 233) (j := 4) (hv286)
        have x298 := HI.eqA hI0 (p := 233) (j := 2) (hv288)
        have x299 := HI.eqA hI0 (p := 233) (j := 3) (hv290)
        exact ⟨_, rfl, hI279, hF280, _, rfl, by omega, ⟨by omega, by omega, by omega, by omega, by omega⟩⟩
