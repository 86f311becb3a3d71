def F_X11_drop_231 : List (Nat × Nat) := [(231, 0), (231, 1)]
def A_X11_drop_231 : List Nat := [232, 233]
set_option maxRecDepth 100000 in
set_option maxHeartbeats 4000000 in
theorem T_X11_drop_231 (d : Nat) {N : Nat} {g0 : List en_E} (hI0 : HI g0) (a1 : Int32) : Ev (d + 3) 180 [.ref 231, .int a1] (g0, N) (fun w h' => ∃ g', h' = (g', N) ∧ HI g' ∧ Fr F_X11_drop_231 A_X11_drop_231 g0 g' ∧ ∃ r : Int32, w = some (.int r) ∧ ((-2) ≤ r.toInt ∧ r.toInt ≤ 7) ∧ (((0 ≤ a1.toInt ∧ a1.toInt < (eA g0 233 1).toInt → r.toInt = (eA g0 233 1).toInt - 1 ∧ (eA g' 233 1).toInt = (eA g0 233 1).toInt - 1) ∧ (¬ (0 ≤ a1.toInt ∧ a1.toInt < (eA g0 233 1).toInt) → r.toInt = -2 ∧ (eA g' 233 1).toInt = (eA g0 233 1).toInt) ∧ (eA g' 233 0).toInt = (eA g0 233 0).toInt ∧ (eA g' 233 4).toInt = (eA g0 233 4).toInt ∧ (eA g' 233 5).toInt = (eA g0 233 5).toInt ∧ (eA g' 233 6).toInt = (eA g0 233 6).toInt) ∧ (∀ i : Int, 10 ≤ i → i < 46 → (eA g' 233 (i)).toInt = (eA g0 233 (i)).toInt) ∧ (∀ i : Int, 94 ≤ i → i < 110 → (eA g' 233 (i)).toInt = (eA g0 233 (i)).toInt) ∧ (∀ i : Int, 46 ≤ i → i < 94 → (eA g' 233 (i)).toInt = if (0 ≤ a1.toInt ∧ a1.toInt < (eA g0 233 1).toInt) ∧ 46 + 6 * a1.toInt ≤ i ∧ i < 88 then (eA g0 233 (i + 6)).toInt else (eA g0 233 (i)).toInt))) := by
  have hF0 : Fr F_X11_drop_231 A_X11_drop_231 g0 g0 := Fr.rf
  refine Ev.mk rfl rfl ⟨Nat.le_of_ble_eq_true rfl, Or.inr (q_rc hI0.1 kx_231 rfl)⟩ ?_
  show At _ none _ _ (0, [(0, .ref 231), (1, .int a1)], [], (_, _)) _
  refine At.enter rfl ?_
  refine r_aload_n rfl ?_
  refine r_iconst 0 rfl ?_
  refine q_putI (Sh.int hI0.1 kx_231 rfl) rfl ?_
  have hI185 := HI.wI0 hI0 kx_231 rfl (p := 231) (b := 0) (v := 0) rfl
  have hF186 := Fr.wI (p := 231) (b := 0) (v := 0) hF0 rfl
  refine r_aload_n rfl ?_
  refine r_iload_n rfl ?_
  refine q_inlV 10 rfl [.ref 231, .int a1] [] (Nat.le_of_ble_eq_true rfl) rfl ?_
  refine Ev.mk rfl rfl ⟨Nat.le_of_ble_eq_true rfl, Or.inr (q_rc hI185.1 kx_231 rfl)⟩ ?_
  show At _ none _ _ (0, [(0, .ref 231), (1, .int a1)], [], (_, _)) _
  refine At.enter rfl ?_
  refine r_iload_n rfl ?_
  refine q_i2l (fun v187 hv187 => ?_)
  refine r_lconst 0 rfl ?_
  refine r_aload_n rfl ?_
  refine q_getR (Sh.ref hI185.1 kx_231 rfl) ?_
  refine r_iconst 1 rfl ?_
  obtain ⟨v188, hv188⟩ : ∃ v, eA g0 233 1 = v := ⟨_, rfl⟩
  have tv188 := congrArg Int32.toInt hv188
  have wv188 := HI.t1 hI0
  rw [hv188] at wv188
  refine q_iald (Sh.arr hI185.1 ka_233) 1 rfl (by decide) v188 ((eA_c (gA_sI)).trans hv188) ?_
  refine q_i2l (fun v189 hv189 => ?_)
  refine r_lconst 1 rfl ?_
  refine q_lsub (v189.toInt - 1) rfl (by omega) (fun v190 hv190 => ?_)
  refine q_inlS 15 rfl [.long v187, .long 0, .long v190] [] (Nat.le_of_ble_eq_true rfl) rfl ?_
  refine Ev.mk rfl rfl ⟨Nat.le_of_ble_eq_true rfl, Or.inl rfl⟩ ?_
  show At _ none _ _ (0, [(0, .long v187), (2, .long 0), (4, .long v190)], [], (_, _)) _
  refine At.enter rfl ?_
  refine r_lload_n rfl ?_
  refine r_lload_n rfl ?_
  refine r_lcmp _ rfl ?_
  refine r_ifs 6 rfl (fun c191 => ?_) (fun c191 => ?_)
  · have c191_ : v187.toInt < 0 := en_j_lt_t c191
    refine At.enter rfl ?_
    refine r_iconst 0 rfl ?_
    refine Ar.fall 18 rfl ?_
    refine At.enter rfl ?_
    refine q_iretz (by decide) ?_
    refine At.enter rfl ?_
    refine q_iretz (by decide) ?_
    refine At.enter rfl ?_
    refine r_iff 13 rfl (by decide) ?_
    refine At.enter rfl ?_
    refine r_aload_n rfl ?_
    refine r_bipush (-2) rfl ?_
    refine r_callV 19 rfl [.ref 231, .int (-2)] [] (Nat.le_of_ble_eq_true rfl) rfl (T_X11_tell_231 _ hI185 (-2) (by decide)) ?_
    rintro _ _ ⟨g192, rfl, hI193, hF194, v195, rfl, hr196⟩
    refine At.sti ?_
    have hF197 := Fr.tr hF186 hF194 rfl rfl
    have zv198 : ((-2) : Int32).toInt = (-2) := rfl
    refine At.enter rfl ?_
    refine r_ireti ?_
    have x199 := HI.eqA hI193 (p := 233) (j := 1) ((((eA_c (hF194.2.1 233 (by decide))).trans (eA_c gA_sI)).trans hv188))
    obtain ⟨v200, hv200⟩ : ∃ v, eA g0 233 0 = v := ⟨_, rfl⟩
    have tv200 := congrArg Int32.toInt hv200
    have wv200 := HI.t0 hI0
    rw [hv200] at wv200
    have tv200 := congrArg Int32.toInt hv200
    have x201 := HI.eqA hI193 (p := 233) (j := 0) ((((eA_c (hF194.2.1 233 (by decide))).trans (eA_c gA_sI)).trans hv200))
    obtain ⟨v202, hv202⟩ : ∃ v, eA g0 233 4 = v := ⟨_, rfl⟩
    have wv202 := HI.t4 hI0
    rw [hv202] at wv202
    have tv202 := congrArg Int32.toInt hv202
    have x203 := HI.eqA hI193 (p := 233) (j := 4) ((((eA_c (hF194.2.1 233 (by decide))).trans (eA_c gA_sI)).trans hv202))
    obtain ⟨v204, hv204⟩ : ∃ v, eA g0 233 5 = v := ⟨_, rfl⟩
    have wv204 := HI.t5 hI0
    rw [hv204] at wv204
    have tv204 := congrArg Int32.toInt hv204
    have x205 := HI.eqA hI193 (p := 233) (j := 5) ((((eA_c (hF194.2.1 233 (by decide))).trans (eA_c gA_sI)).trans hv204))
    obtain ⟨v206, hv206⟩ : ∃ v, eA g0 233 6 = v := ⟨_, rfl⟩
    have wv206 := HI.t6 hI0
    rw [hv206] at wv206
    have tv206 := congrArg Int32.toInt hv206
    have x207 := HI.eqA hI193 (p := 233) (j := 6) ((((eA_c (hF194.2.1 233 (by decide))).trans (eA_c gA_sI)).trans hv206))
    have x208 := HI.eqA hI0 (p := 233) (j := 1) (hv188)
    have x209 := HI.eqA hI0 (p := 233) (j := 0) (hv200)
    have x210 := HI.eqA hI0 (p := 233) (j := 4) (hv202)
    have x211 := HI.eqA hI0 (p := 233) (j := 5) (hv204)
    have x212 := HI.eqA hI0 (p := 233) (j := 6) (hv206)
    exact ⟨_, rfl, hI193, hF197, _, rfl, by omega, ⟨⟨by omega, by omega, by omega, by omega, by omega, by omega⟩, (by intro i i0 i1; refine (eA_ti (((hF194.2.1 233 (by decide)).trans (gA_sI)))).trans ?_; (first | rfl | exact eA_ix (by omega) | omega)), (by intro i i0 i1; refine (eA_ti (((hF194.2.1 233 (by decide)).trans (gA_sI)))).trans ?_; (first | rfl | exact eA_ix (by omega) | omega)), (by intro i i0 i1; refine Eq.trans ?_ (if_neg (show ¬ ((0 ≤ a1.toInt ∧ a1.toInt < (eA g0 233 1).toInt) ∧ 46 + 6 * a1.toInt ≤ i ∧ i < 88) from by omega)).symm; refine (eA_ti (((hF194.2.1 233 (by decide)).trans (gA_sI)))).trans ?_; (first | rfl | exact eA_ix (by omega) | omega))⟩⟩
  · have c191_ : v187.toInt ≥ 0 := en_j_lt_f c191
    refine At.enter rfl ?_
    refine r_lload_n rfl ?_
    refine r_lload rfl ?_
    refine r_lcmp _ rfl ?_
    refine r_ifs 13 rfl (fun c213 => ?_) (fun c213 => ?_)
    · have c213_ : v187.toInt > v190.toInt := en_j_gt_t c213
      refine At.enter rfl ?_
      refine r_iconst 0 rfl ?_
      refine Ar.fall 18 rfl ?_
      refine At.enter rfl ?_
      refine q_iretz (by decide) ?_
      refine At.enter rfl ?_
      refine q_iretz (by decide) ?_
      refine At.enter rfl ?_
      refine r_iff 13 rfl (by decide) ?_
      refine At.enter rfl ?_
      refine r_aload_n rfl ?_
      refine r_bipush (-2) rfl ?_
      refine r_callV 19 rfl [.ref 231, .int (-2)] [] (Nat.le_of_ble_eq_true rfl) rfl (T_X11_tell_231 _ hI185 (-2) (by decide)) ?_
      rintro _ _ ⟨g214, rfl, hI215, hF216, v217, rfl, hr218⟩
      refine At.sti ?_
      have hF219 := Fr.tr hF186 hF216 rfl rfl
      have zv220 : ((-2) : Int32).toInt = (-2) := rfl
      refine At.enter rfl ?_
      refine r_ireti ?_
      have x221 := HI.eqA hI215 (p := 233) (j := 1) ((((eA_c (hF216.2.1 233 (by decide))).trans (eA_c gA_sI)).trans hv188))
      obtain ⟨v222, hv222⟩ : ∃ v, eA g0 233 0 = v := ⟨_, rfl⟩
      have tv222 := congrArg Int32.toInt hv222
      have wv222 := HI.t0 hI0
      rw [hv222] at wv222
      have tv222 := congrArg Int32.toInt hv222
      have x223 := HI.eqA hI215 (p := 233) (j := 0) ((((eA_c (hF216.2.1 233 (by decide))).trans (eA_c gA_sI)).trans hv222))
      obtain ⟨v224, hv224⟩ : ∃ v, eA g0 233 4 = v := ⟨_, rfl⟩
      have wv224 := HI.t4 hI0
      rw [hv224] at wv224
      have tv224 := congrArg Int32.toInt hv224
      have x225 := HI.eqA hI215 (p := 233) (j := 4) ((((eA_c (hF216.2.1 233 (by decide))).trans (eA_c gA_sI)).trans hv224))
      obtain ⟨v226, hv226⟩ : ∃ v, eA g0 233 5 = v := ⟨_, rfl⟩
      have wv226 := HI.t5 hI0
      rw [hv226] at wv226
      have tv226 := congrArg Int32.toInt hv226
      have x227 := HI.eqA hI215 (p := 233) (j := 5) ((((eA_c (hF216.2.1 233 (by decide))).trans (eA_c gA_sI)).trans hv226))
      obtain ⟨v228, hv228⟩ : ∃ v, eA g0 233 6 = v := ⟨_, rfl⟩
      have wv228 := HI.t6 hI0
      rw [hv228] at wv228
      have tv228 := congrArg Int32.toInt hv228
      have x229 := HI.eqA hI215 (p := 233) (j := 6) ((((eA_c (hF216.2.1 233 (by decide))).trans (eA_c gA_sI)).trans hv228))
      have x230 := HI.eqA hI0 (p := 233) (j := 1) (hv188)
      have x231 := HI.eqA hI0 (p := 233) (j := 0) (hv222)
      have x232 := HI.eqA hI0 (p := 233) (j := 4) (hv224)
      have x233 := HI.eqA hI0 (p := 233) (j := 5) (hv226)
      have x234 := HI.eqA hI0 (p := 233) (j := 6) (hv228)
      exact ⟨_, rfl, hI215, hF219, _, rfl, by omega, ⟨⟨by omega, by omega, by omega, by omega, by omega, by omega⟩, (by intro i i0 i1; refine (eA_ti (((hF216.2.1 233 (by decide)).trans (gA_sI)))).trans ?_; (first | rfl | exact eA_ix (by omega) | omega)), (by intro i i0 i1; refine (eA_ti (((hF216.2.1 233 (by decide)).trans (gA_sI)))).trans ?_; (first | rfl | exact eA_ix (by omega) | omega)), (by intro i i0 i1; refine Eq.trans ?_ (if_neg (show ¬ ((0 ≤ a1.toInt ∧ a1.toInt < (eA g0 233 1).toInt) ∧ 46 + 6 * a1.toInt ≤ i ∧ i < 88) from by omega)).symm; refine (eA_ti (((hF216.2.1 233 (by decide)).trans (gA_sI)))).trans ?_; (first | rfl | exact eA_ix (by omega) | omega))⟩⟩
    · have c213_ : v187.toInt ≤ v190.toInt := en_j_gt_f c213
      refine At.enter rfl ?_
      refine r_iconst 1 rfl ?_
      refine r_goto ?_
      refine At.enter rfl ?_
      refine q_iretz (by decide) ?_
      refine At.enter rfl ?_
      refine q_iretz (by decide) ?_
      refine At.enter rfl ?_
      refine r_ift (by decide) ?_
      refine At.enter rfl ?_
      refine r_bipush 46 rfl ?_
      refine r_bipush 6 rfl ?_
      refine r_iload_n rfl ?_
      refine q_imul (6 * a1.toInt) rfl (by omega) (fun v235 hv235 => ?_)
      refine q_iadd (46 + v235.toInt) rfl (by omega) (fun v236 hv236 => ?_)
      refine r_istore_n ([(2, .int v236), (0, .ref 231), (1, .int a1)]) rfl ?_
      refine Ar.fall 28 rfl ?_
      obtain ⟨v237, hv237⟩ : ∃ v, eA g0 233 0 = v := ⟨_, rfl⟩
      have tv237 := congrArg Int32.toInt hv237
      have wv237 := HI.t0 hI0
      rw [hv237] at wv237
      have tv237 := congrArg Int32.toInt hv237
      obtain ⟨v238, hv238⟩ : ∃ v, eA g0 233 4 = v := ⟨_, rfl⟩
      have wv238 := HI.t4 hI0
      rw [hv238] at wv238
      have tv238 := congrArg Int32.toInt hv238
      obtain ⟨v239, hv239⟩ : ∃ v, eA g0 233 5 = v := ⟨_, rfl⟩
      have wv239 := HI.t5 hI0
      rw [hv239] at wv239
      have tv239 := congrArg Int32.toInt hv239
      obtain ⟨v240, hv240⟩ : ∃ v, eA g0 233 6 = v := ⟨_, rfl⟩
      have wv240 := HI.t6 hI0
      rw [hv240] at wv240
      have tv240 := congrArg Int32.toInt hv240
      refine w_loopI (fun n_ l_ g_ => ∃ x261 : Int32, n_ = 88 - x261.toInt ∧ HI g_ ∧ Fr F_X11_drop_231 A_X11_drop_231 g0 g_ ∧ eA g_ 233 0 = v237 ∧ eA g_ 233 1 = v188 ∧ eA g_ 233 4 = v238 ∧ eA g_ 233 5 = v239 ∧ eA g_ 233 6 = v240 ∧ en_get 0 l_ = some (.ref 231) ∧ en_get 1 l_ = some (.int a1) ∧ en_get 2 l_ = some (.int x261) ∧ (46 ≤ x261.toInt ∧ x261.toInt ≤ 88) ∧ (∀ i : Int, 46 ≤ i → i < 94 → (eA g_ 233 (i)).toInt = if 46 + 6 * a1.toInt ≤ i ∧ i < x261.toInt then (eA g0 233 (i + 6)).toInt else (eA g0 233 (i)).toInt) ∧ (46 + 6 * a1.toInt ≤ x261.toInt) ∧ (∀ i : Int, 10 ≤ i → i < 46 → (eA g_ 233 (i)).toInt = (eA g0 233 (i)).toInt) ∧ (∀ i : Int, 94 ≤ i → i < 110 → (eA g_ 233 (i)).toInt = (eA g0 233 (i)).toInt)) ?_ (88 - v236.toInt) ⟨v236, by first | rfl | omega, hI185, hF186, ((eA_c gA_sI).trans hv237), ((eA_c gA_sI).trans hv188), ((eA_c gA_sI).trans hv238), ((eA_c gA_sI).trans hv239), ((eA_c gA_sI).trans hv240), rfl, rfl, rfl, by omega, (by intro i i0 i1; refine Eq.trans ?_ (if_neg (show ¬ (46 + 6 * a1.toInt ≤ i ∧ i < v236.toInt) from by omega)).symm; refine (eA_ti ((gA_sI))).trans ?_; (first | rfl | exact eA_ix (by omega) | omega)), by omega, (by intro i i0 i1; refine (eA_ti ((gA_sI))).trans ?_; (first | rfl | exact eA_ix (by omega) | omega)), (by intro i i0 i1; refine (eA_ti ((gA_sI))).trans ?_; (first | rfl | exact eA_ix (by omega) | omega))⟩
      rintro n266 l265 g262 ⟨x261, hm281, hI263, hF264, e268, e269, e270, e271, e272, e273, e274, e275, r276, q277, q278, q279, q280⟩ ih267
      have tv282 := congrArg Int32.toInt e268
      have tv283 := congrArg Int32.toInt e269
      have tv284 := congrArg Int32.toInt e270
      have tv285 := congrArg Int32.toInt e271
      have tv286 := congrArg Int32.toInt e272
      refine At.enter rfl ?_
      refine r_iload_n e275 ?_
      refine r_bipush 88 rfl ?_
      refine r_ics 34 rfl (fun c287 => ?_) (fun c287 => ?_)
      · have c287_ : x261.toInt ≥ 88 := en_i_ge_t c287
        refine At.enter rfl ?_
        refine r_aload_n e273 ?_
        refine q_getR (Sh.ref hI263.1 kx_231 rfl) ?_
        refine r_iconst 1 rfl ?_
        refine r_dup2 ⟨rfl, rfl⟩ ?_
        refine q_iald (Sh.arr hI263.1 ka_233) 1 rfl (by decide) v188 e269 ?_
        refine r_iconst 1 rfl ?_
        refine q_isub (v188.toInt - 1) rfl (by omega) (fun v288 hv288 => ?_)
        refine q_iast (Sh.arr hI263.1 ka_233) (1) rfl (by decide) ?_
        have x291 := HI.eqA hI263 (p := 233) (j := 0) (e268)
        have x292 := HI.eqA hI263 (p := 233) (j := 1) (e269)
        have yv293 := HI.lt hI263
        have hI289 := HI.wt hI263 (j := 1) (v := v288) (by omega) (by omega)
        have hF290 := Fr.wA (p := 233) (j := 1) (v := v288) hF264 rfl
        refine r_aload_n e273 ?_
        refine r_aload_n e273 ?_
        refine q_getR (Sh.ref hI289.1 kx_231 rfl) ?_
        refine r_iconst 1 rfl ?_
        refine q_iald (Sh.arr hI289.1 ka_233) 1 rfl (by decide) v288 (eA_sA_eq hI263.1 ka_233 (by first | rfl | omega) (by first | decide | omega) (by first | decide | omega)) ?_
        refine r_callV 75 rfl [.ref 231, .int v288] [] (Nat.le_of_ble_eq_true rfl) rfl (T_X11_tell_231 _ hI289 v288 (by omega)) ?_
        rintro _ _ ⟨g294, rfl, hI295, hF296, v297, rfl, hr298⟩
        refine At.sti ?_
        have hF299 := Fr.tr hF290 hF296 rfl rfl
        refine At.enter rfl ?_
        refine r_ireti ?_
        have x300 := HI.eqA hI295 (p := 233) (j := 1) (((eA_c (hF296.2.1 233 (by decide))).trans (eA_sA_eq hI263.1 ka_233 (by first | rfl | omega) (by first | decide | omega) (by first | decide | omega))))
        have x301 := HI.eqA hI295 (p := 233) (j := 0) ((((eA_c (hF296.2.1 233 (by decide))).trans (eA_sA_ne hI263.1 ka_233 (by first | decide | omega) (by first | decide | omega) (by first | decide | omega))).trans e268))
        have x302 := HI.eqA hI295 (p := 233) (j := 4) ((((eA_c (hF296.2.1 233 (by decide))).trans (eA_sA_ne hI263.1 ka_233 (by first | decide | omega) (by first | decide | omega) (by first | decide | omega))).trans e270))
        have x303 := HI.eqA hI295 (p := 233) (j := 5) ((((eA_c (hF296.2.1 233 (by decide))).trans (eA_sA_ne hI263.1 ka_233 (by first | decide | omega) (by first | decide | omega) (by first | decide | omega))).trans e271))
        have x304 := HI.eqA hI295 (p := 233) (j := 6) ((((eA_c (hF296.2.1 233 (by decide))).trans (eA_sA_ne hI263.1 ka_233 (by first | decide | omega) (by first | decide | omega) (by first | decide | omega))).trans e272))
        have x305 := HI.eqA hI0 (p := 233) (j := 1) (hv188)
        have x306 := HI.eqA hI0 (p := 233) (j := 0) (hv237)
        have x307 := HI.eqA hI0 (p := 233) (j := 4) (hv238)
        have x308 := HI.eqA hI0 (p := 233) (j := 5) (hv239)
        have x309 := HI.eqA hI0 (p := 233) (j := 6) (hv240)
        exact ⟨_, rfl, hI295, hF299, _, rfl, by omega, ⟨⟨by omega, by omega, by omega, by omega, by omega, by omega⟩, (by intro i i0 i1; refine (eA_ti ((hF296.2.1 233 (by decide)))).trans ?_; exact (Decidable.em (i = 1)).elim (fun k319_ => by refine (eA_eqT hI263.1 ka_233 k319_ (by first | decide | omega) (by first | decide | omega)).trans ?_; (first | (rfl) | (omega))) (fun k319_ => by refine (eA_neT hI263.1 ka_233 k319_ (by first | decide | omega) (by omega)).trans ?_; (first | (refine ((q277 (i) (by omega) (by omega))).trans ?_; exact (Decidable.em (46 + 6 * a1.toInt ≤ (i) ∧ (i) < x261.toInt)).elim (fun k320_ => by refine (if_pos k320_).trans ?_; (first | rfl | exact eA_ix (by omega) | omega)) (fun k320_ => by refine (if_neg k320_).trans ?_; (first | rfl | exact eA_ix (by omega) | omega))) | (refine ((q279 (i) (by omega) (by omega))).trans ?_; (first | rfl | exact eA_ix (by omega) | omega)) | (refine ((q280 (i) (by omega) (by omega))).trans ?_; (first | rfl | exact eA_ix (by omega) | omega))))), (by intro i i0 i1; refine (eA_ti ((hF296.2.1 233 (by decide)))).trans ?_; exact (Decidable.em (i = 1)).elim (fun k321_ => by refine (eA_eqT hI263.1 ka_233 k321_ (by first | decide | omega) (by first | decide | omega)).trans ?_; (first | (rfl) | (omega))) (fun k321_ => by refine (eA_neT hI263.1 ka_233 k321_ (by first | decide | omega) (by omega)).trans ?_; (first | (refine ((q277 (i) (by omega) (by omega))).trans ?_; exact (Decidable.em (46 + 6 * a1.toInt ≤ (i) ∧ (i) < x261.toInt)).elim (fun k322_ => by refine (if_pos k322_).trans ?_; (first | rfl | exact eA_ix (by omega) | omega)) (fun k322_ => by refine (if_neg k322_).trans ?_; (first | rfl | exact eA_ix (by omega) | omega))) | (refine ((q279 (i) (by omega) (by omega))).trans ?_; (first | rfl | exact eA_ix (by omega) | omega)) | (refine ((q280 (i) (by omega) (by omega))).trans ?_; (first | rfl | exact eA_ix (by omega) | omega))))), (by intro i i0 i1; exact (Decidable.em ((0 ≤ a1.toInt ∧ a1.toInt < (eA g0 233 1).toInt) ∧ 46 + 6 * a1.toInt ≤ i ∧ i < 88)).elim (fun k323_ => by refine Eq.trans ?_ (if_pos k323_).symm; refine (eA_ti ((hF296.2.1 233 (by decide)))).trans ?_; exact (Decidable.em (i = 1)).elim (fun k324_ => by refine (eA_eqT hI263.1 ka_233 k324_ (by first | decide | omega) (by first | decide | omega)).trans ?_; (first | (rfl) | (omega))) (fun k324_ => by refine (eA_neT hI263.1 ka_233 k324_ (by first | decide | omega) (by omega)).trans ?_; (first | (refine ((q277 (i) (by omega) (by omega))).trans ?_; exact (Decidable.em (46 + 6 * a1.toInt ≤ (i) ∧ (i) < x261.toInt)).elim (fun k325_ => by refine (if_pos k325_).trans ?_; (first | rfl | exact eA_ix (by omega) | omega)) (fun k325_ => by refine (if_neg k325_).trans ?_; (first | rfl | exact eA_ix (by omega) | omega))) | (refine ((q279 (i) (by omega) (by omega))).trans ?_; (first | rfl | exact eA_ix (by omega) | omega)) | (refine ((q280 (i) (by omega) (by omega))).trans ?_; (first | rfl | exact eA_ix (by omega) | omega))))) (fun k323_ => by refine Eq.trans ?_ (if_neg k323_).symm; refine (eA_ti ((hF296.2.1 233 (by decide)))).trans ?_; exact (Decidable.em (i = 1)).elim (fun k326_ => by refine (eA_eqT hI263.1 ka_233 k326_ (by first | decide | omega) (by first | decide | omega)).trans ?_; (first | (rfl) | (omega))) (fun k326_ => by refine (eA_neT hI263.1 ka_233 k326_ (by first | decide | omega) (by omega)).trans ?_; (first | (refine ((q277 (i) (by omega) (by omega))).trans ?_; exact (Decidable.em (46 + 6 * a1.toInt ≤ (i) ∧ (i) < x261.toInt)).elim (fun k327_ => by refine (if_pos k327_).trans ?_; (first | rfl | exact eA_ix (by omega) | omega)) (fun k327_ => by refine (if_neg k327_).trans ?_; (first | rfl | exact eA_ix (by omega) | omega))) | (refine ((q279 (i) (by omega) (by omega))).trans ?_; (first | rfl | exact eA_ix (by omega) | omega)) | (refine ((q280 (i) (by omega) (by omega))).trans ?_; (first | rfl | exact eA_ix (by omega) | omega))))))⟩⟩
      · have c287_ : x261.toInt < 88 := en_i_ge_f c287
        refine At.enter rfl ?_
        refine r_aload_n e273 ?_
        refine q_getR (Sh.ref hI263.1 kx_231 rfl) ?_
        refine r_iload_n e275 ?_
        refine r_aload_n e273 ?_
        refine q_getR (Sh.ref hI263.1 kx_231 rfl) ?_
        refine r_iload_n e275 ?_
        refine r_bipush 6 rfl ?_
        refine q_iadd (x261.toInt + 6) rfl (by omega) (fun v310 hv310 => ?_)
        obtain ⟨v311, hv311⟩ : ∃ v, eA g262 233 (x261.toInt + 6) = v := ⟨_, rfl⟩
        refine q_iald (Sh.arr hI263.1 ka_233) (x261.toInt + 6) (by omega) (by omega) v311 hv311 ?_
        refine q_iast (Sh.arr hI263.1 ka_233) (x261.toInt) rfl (by omega) ?_
        have hI312 := HI.wcp hI263 (k := x261.toInt) (by omega) (by omega) hv311
        have hF313 := Fr.wA (p := 233) (j := x261.toInt) (v := v311) hF264 rfl
        refine q_iinc e275 (x261.toInt + 1) rfl (by omega) (fun v314 hv314 => ?_)
        refine r_goto ?_
        exact ih267 (88 - v314.toInt) _ _ ⟨v314, by first | rfl | omega, hI312, hF313, ((eA_sA_ne hI263.1 ka_233 (by first | decide | omega) (by first | decide | omega) (by first | decide | omega)).trans e268), ((eA_sA_ne hI263.1 ka_233 (by first | decide | omega) (by first | decide | omega) (by first | decide | omega)).trans e269), ((eA_sA_ne hI263.1 ka_233 (by first | decide | omega) (by first | decide | omega) (by first | decide | omega)).trans e270), ((eA_sA_ne hI263.1 ka_233 (by first | decide | omega) (by first | decide | omega) (by first | decide | omega)).trans e271), ((eA_sA_ne hI263.1 ka_233 (by first | decide | omega) (by first | decide | omega) (by first | decide | omega)).trans e272), (w_p1 (by decide) (Or.inr rfl) e273), (w_p1 (by decide) (Or.inr rfl) e274), (w_e1 _ _ _), by omega, (by intro i i0 i1; exact (Decidable.em (46 + 6 * a1.toInt ≤ i ∧ i < v314.toInt)).elim (fun k328_ => by refine Eq.trans ?_ (if_pos k328_).symm; exact (Decidable.em (i = x261.toInt)).elim (fun k329_ => by refine (eA_eqT hI263.1 ka_233 k329_ (by first | decide | omega) (by first | decide | omega)).trans ?_; (first | (rfl) | (omega) | (refine (congrArg Int32.toInt hv311).symm.trans ?_; (first | (refine ((q277 ((x261.toInt + 6)) (by omega) (by omega))).trans ?_; exact (Decidable.em (46 + 6 * a1.toInt ≤ ((x261.toInt + 6)) ∧ ((x261.toInt + 6)) < x261.toInt)).elim (fun k330_ => by refine (if_pos k330_).trans ?_; (first | rfl | exact eA_ix (by omega) | omega)) (fun k330_ => by refine (if_neg k330_).trans ?_; (first | rfl | exact eA_ix (by omega) | omega))) | (refine ((q279 ((x261.toInt + 6)) (by omega) (by omega))).trans ?_; (first | rfl | exact eA_ix (by omega) | omega)) | (refine ((q280 ((x261.toInt + 6)) (by omega) (by omega))).trans ?_; (first | rfl | exact eA_ix (by omega) | omega)))))) (fun k329_ => by refine (eA_neT hI263.1 ka_233 k329_ (by first | decide | omega) (by omega)).trans ?_; (first | (refine ((q277 (i) (by omega) (by omega))).trans ?_; exact (Decidable.em (46 + 6 * a1.toInt ≤ (i) ∧ (i) < x261.toInt)).elim (fun k331_ => by refine (if_pos k331_).trans ?_; (first | rfl | exact eA_ix (by omega) | omega)) (fun k331_ => by refine (if_neg k331_).trans ?_; (first | rfl | exact eA_ix (by omega) | omega))) | (refine ((q279 (i) (by omega) (by omega))).trans ?_; (first | rfl | exact eA_ix (by omega) | omega)) | (refine ((q280 (i) (by omega) (by omega))).trans ?_; (first | rfl | exact eA_ix (by omega) | omega))))) (fun k328_ => by refine Eq.trans ?_ (if_neg k328_).symm; exact (Decidable.em (i = x261.toInt)).elim (fun k332_ => by refine (eA_eqT hI263.1 ka_233 k332_ (by first | decide | omega) (by first | decide | omega)).trans ?_; (first | (rfl) | (omega) | (refine (congrArg Int32.toInt hv311).symm.trans ?_; (first | (refine ((q277 ((x261.toInt + 6)) (by omega) (by omega))).trans ?_; exact (Decidable.em (46 + 6 * a1.toInt ≤ ((x261.toInt + 6)) ∧ ((x261.toInt + 6)) < x261.toInt)).elim (fun k333_ => by refine (if_pos k333_).trans ?_; (first | rfl | exact eA_ix (by omega) | omega)) (fun k333_ => by refine (if_neg k333_).trans ?_; (first | rfl | exact eA_ix (by omega) | omega))) | (refine ((q279 ((x261.toInt + 6)) (by omega) (by omega))).trans ?_; (first | rfl | exact eA_ix (by omega) | omega)) | (refine ((q280 ((x261.toInt + 6)) (by omega) (by omega))).trans ?_; (first | rfl | exact eA_ix (by omega) | omega)))))) (fun k332_ => by refine (eA_neT hI263.1 ka_233 k332_ (by first | decide | omega) (by omega)).trans ?_; (first | (refine ((q277 (i) (by omega) (by omega))).trans ?_; exact (Decidable.em (46 + 6 * a1.toInt ≤ (i) ∧ (i) < x261.toInt)).elim (fun k334_ => by refine (if_pos k334_).trans ?_; (first | rfl | exact eA_ix (by omega) | omega)) (fun k334_ => by refine (if_neg k334_).trans ?_; (first | rfl | exact eA_ix (by omega) | omega))) | (refine ((q279 (i) (by omega) (by omega))).trans ?_; (first | rfl | exact eA_ix (by omega) | omega)) | (refine ((q280 (i) (by omega) (by omega))).trans ?_; (first | rfl | exact eA_ix (by omega) | omega)))))), by omega, (by intro i i0 i1; exact (Decidable.em (i = x261.toInt)).elim (fun k335_ => by refine (eA_eqT hI263.1 ka_233 k335_ (by first | decide | omega) (by first | decide | omega)).trans ?_; (first | (rfl) | (omega) | (refine (congrArg Int32.toInt hv311).symm.trans ?_; (first | (refine ((q277 ((x261.toInt + 6)) (by omega) (by omega))).trans ?_; exact (Decidable.em (46 + 6 * a1.toInt ≤ ((x261.toInt + 6)) ∧ ((x261.toInt + 6)) < x261.toInt)).elim (fun k336_ => by refine (if_pos k336_).trans ?_; (first | rfl | exact eA_ix (by omega) | omega)) (fun k336_ => by refine (if_neg k336_).trans ?_; (first | rfl | exact eA_ix (by omega) | omega))) | (refine ((q279 ((x261.toInt + 6)) (by omega) (by omega))).trans ?_; (first | rfl | exact eA_ix (by omega) | omega)) | (refine ((q280 ((x261.toInt + 6)) (by omega) (by omega))).trans ?_; (first | rfl | exact eA_ix (by omega) | omega)))))) (fun k335_ => by refine (eA_neT hI263.1 ka_233 k335_ (by first | decide | omega) (by omega)).trans ?_; (first | (refine ((q277 (i) (by omega) (by omega))).trans ?_; exact (Decidable.em (46 + 6 * a1.toInt ≤ (i) ∧ (i) < x261.toInt)).elim (fun k337_ => by refine (if_pos k337_).trans ?_; (first | rfl | exact eA_ix (by omega) | omega)) (fun k337_ => by refine (if_neg k337_).trans ?_; (first | rfl | exact eA_ix (by omega) | omega))) | (refine ((q279 (i) (by omega) (by omega))).trans ?_; (first | rfl | exact eA_ix (by omega) | omega)) | (refine ((q280 (i) (by omega) (by omega))).trans ?_; (first | rfl | exact eA_ix (by omega) | omega))))), (by intro i i0 i1; exact (Decidable.em (i = x261.toInt)).elim (fun k338_ => by refine (eA_eqT hI263.1 ka_233 k338_ (by first | decide | omega) (by first | decide | omega)).trans ?_; (first | (rfl) | (omega) | (refine (congrArg Int32.toInt hv311).symm.trans ?_; (first | (refine ((q277 ((x261.toInt + 6)) (by omega) (by omega))).trans ?_; exact (Decidable.em (46 + 6 * a1.toInt ≤ ((x261.toInt + 6)) ∧ ((x261.toInt + 6)) < x261.toInt)).elim (fun k339_ => by refine (if_pos k339_).trans ?_; (first | rfl | exact eA_ix (by omega) | omega)) (fun k339_ => by refine (if_neg k339_).trans ?_; (first | rfl | exact eA_ix (by omega) | omega))) | (refine ((q279 ((x261.toInt + 6)) (by omega) (by omega))).trans ?_; (first | rfl | exact eA_ix (by omega) | omega)) | (refine ((q280 ((x261.toInt + 6)) (by omega) (by omega))).trans ?_; (first | rfl | exact eA_ix (by omega) | omega)))))) (fun k338_ => by refine (eA_neT hI263.1 ka_233 k338_ (by first | decide | omega) (by omega)).trans ?_; (first | (refine ((q277 (i) (by omega) (by omega))).trans ?_; exact (Decidable.em (46 + 6 * a1.toInt ≤ (i) ∧ (i) < x261.toInt)).elim (fun k340_ => by refine (if_pos k340_).trans ?_; (first | rfl | exact eA_ix (by omega) | omega)) (fun k340_ => by refine (if_neg k340_).trans ?_; (first | rfl | exact eA_ix (by omega) | omega))) | (refine ((q279 (i) (by omega) (by omega))).trans ?_; (first | rfl | exact eA_ix (by omega) | omega)) | (refine ((q280 (i) (by omega) (by omega))).trans ?_; (first | rfl | exact eA_ix (by omega) | omega)))))⟩ ⟨by omega, by omega⟩

def F_X11_terms_231 : List (Nat × Nat) := [(231, 0), (231, 1)]
def A_X11_terms_231 : List Nat := [232, 233]
set_option maxRecDepth 100000 in
set_option maxHeartbeats 4000000 in
theorem T_X11_terms_231 (d : Nat) {N : Nat} {g0 : List en_E} (hI0 : HI g0) (a1 : Int32) (a2 : Int32) : Ev (d + 3) 181 [.ref 231, .int a1, .int a2] (g0, N) (fun w h' => ∃ g', h' = (g', N) ∧ HI g' ∧ Fr F_X11_terms_231 A_X11_terms_231 g0 g' ∧ ∃ r : Int32, w = some (.int r) ∧ ((-1) ≤ r.toInt ∧ r.toInt ≤ 99) ∧ (((((a1.toInt = 0 ∧ 0 ≤ a2.toInt ∧ a2.toInt ≤ 99) → r.toInt = (eA g0 233 5).toInt ∧ (eA g' 233 5).toInt = a2.toInt ∧ (eA g' 233 6).toInt = (eA g0 233 6).toInt) ∧ ((a1.toInt = 1 ∧ 1 ≤ a2.toInt ∧ a2.toInt ≤ 4) → r.toInt = (eA g0 233 6).toInt ∧ (eA g' 233 6).toInt = a2.toInt ∧ (eA g' 233 5).toInt = (eA g0 233 5).toInt) ∧ (¬ (a1.toInt = 0 ∧ 0 ≤ a2.toInt ∧ a2.toInt ≤ 99) ∧ ¬ (a1.toInt = 1 ∧ 1 ≤ a2.toInt ∧ a2.toInt ≤ 4) → r.toInt = -1 ∧ (eA g' 233 5).toInt = (eA g0 233 5).toInt ∧ (eA g' 233 6).toInt = (eA g0 233 6).toInt)) ∧ (eA g' 233 0).toInt = (eA g0 233 0).toInt ∧ (eA g' 233 4).toInt = (eA g0 233 4).toInt ∧ (eA g' 233 1).toInt = (eA g0 233 1).toInt) ∧ (∀ i : Int, 10 ≤ i → i < 110 → (eA g' 233 (i)).toInt = (eA g0 233 (i)).toInt))) := by
  have hF0 : Fr F_X11_terms_231 A_X11_terms_231 g0 g0 := Fr.rf
  refine Ev.mk rfl rfl ⟨Nat.le_of_ble_eq_true rfl, Or.inr (q_rc hI0.1 kx_231 rfl)⟩ ?_
  show At _ none _ _ (0, [(0, .ref 231), (1, .int a1), (2, .int a2)], [], (_, _)) _
  refine At.enter rfl ?_
  refine r_aload_n rfl ?_
  refine r_iconst 0 rfl ?_
  refine q_putI (Sh.int hI0.1 kx_231 rfl) rfl ?_
  have hI115 := HI.wI0 hI0 kx_231 rfl (p := 231) (b := 0) (v := 0) rfl
  have hF116 := Fr.wI (p := 231) (b := 0) (v := 0) hF0 rfl
  refine r_iload_n rfl ?_
  refine r_ifs 9 rfl (fun c117 => ?_) (fun c117 => ?_)
  · have c117_ : a1.toInt ≠ 0 := en_k_ne_t c117
    refine At.enter rfl ?_
    refine r_iload_n rfl ?_
    refine r_iconst 1 rfl ?_
    refine r_ics 26 rfl (fun c118 => ?_) (fun c118 => ?_)
    · have c118_ : a1.toInt ≠ 1 := en_i_ne_t c118
      refine At.enter rfl ?_
      refine r_iconst 0 rfl ?_
      refine Ar.fall 43 rfl ?_
      refine At.enter rfl ?_
      refine r_istore_n ([(3, .int 0), (0, .ref 231), (1, .int a1), (2, .int a2)]) rfl ?_
      refine r_iload_n rfl ?_
      refine r_ift (by decide) ?_
      refine At.enter rfl ?_
      refine r_aload_n rfl ?_
      refine r_iconst (-1) rfl ?_
      refine r_callV 64 rfl [.ref 231, .int (-1)] [] (Nat.le_of_ble_eq_true rfl) rfl (T_X11_tell_231 _ hI115 (-1) (by decide)) ?_
      rintro _ _ ⟨g119, rfl, hI120, hF121, v122, rfl, hr123⟩
      refine At.sti ?_
      have hF124 := Fr.tr hF116 hF121 rfl rfl
      have zv125 : ((-1) : Int32).toInt = (-1) := rfl
      refine At.enter rfl ?_
      refine r_ireti ?_
      obtain ⟨v126, hv126⟩ : ∃ v, eA g0 233 5 = v := ⟨_, rfl⟩
      have wv126 := HI.t5 hI0
      rw [hv126] at wv126
      have tv126 := congrArg Int32.toInt hv126
      have x127 := HI.eqA hI120 (p := 233) (j := 5) ((((eA_c (hF121.2.1 233 (by decide))).trans (eA_c gA_sI)).trans hv126))
      obtain ⟨v128, hv128⟩ : ∃ v, eA g0 233 6 = v := ⟨_, rfl⟩
      have wv128 := HI.t6 hI0
      rw [hv128] at wv128
      have tv128 := congrArg Int32.toInt hv128
      have x129 := HI.eqA hI120 (p := 233) (j := 6) ((((eA_c (hF121.2.1 233 (by decide))).trans (eA_c gA_sI)).trans hv128))
      obtain ⟨v130, hv130⟩ : ∃ v, eA g0 233 0 = v := ⟨_, rfl⟩
      have tv130 := congrArg Int32.toInt hv130
      have wv130 := HI.t0 hI0
      rw [hv130] at wv130
      have tv130 := congrArg Int32.toInt hv130
      have x131 := HI.eqA hI120 (p := 233) (j := 0) ((((eA_c (hF121.2.1 233 (by decide))).trans (eA_c gA_sI)).trans hv130))
      obtain ⟨v132, hv132⟩ : ∃ v, eA g0 233 4 = v := ⟨_, rfl⟩
      have wv132 := HI.t4 hI0
      rw [hv132] at wv132
      have tv132 := congrArg Int32.toInt hv132
      have x133 := HI.eqA hI120 (p := 233) (j := 4) ((((eA_c (hF121.2.1 233 (by decide))).trans (eA_c gA_sI)).trans hv132))
      obtain ⟨v134, hv134⟩ : ∃ v, eA g0 233 1 = v := ⟨_, rfl⟩
      have tv134 := congrArg Int32.toInt hv134
      have wv134 := HI.t1 hI0
      rw [hv134] at wv134
      have tv134 := congrArg Int32.toInt hv134
      have x135 := HI.eqA hI120 (p := 233) (j := 1) ((((eA_c (hF121.2.1 233 (by decide))).trans (eA_c gA_sI)).trans hv134))
      have x136 := HI.eqA hI0 (p := 233) (j := 5) (hv126)
      have x137 := HI.eqA hI0 (p := 233) (j := 6) (hv128)
      have x138 := HI.eqA hI0 (p := 233) (j := 0) (hv130)
      have x139 := HI.eqA hI0 (p := 233) (j := 4) (hv132)
      have x140 := HI.eqA hI0 (p := 233) (j := 1) (hv134)
      exact ⟨_, rfl, hI120, hF124, _, rfl, by omega, ⟨⟨by omega, by omega, by omega, by omega⟩, (by intro i i0 i1; refine (eA_ti (((hF121.2.1 233 (by decide)).trans (gA_sI)))).trans ?_; (first | rfl | exact eA_ix (by omega) | omega))⟩⟩
    · have c118_ : a1.toInt = 1 := en_i_ne_f c118
      refine At.enter rfl ?_
      refine r_iload_n rfl ?_
      refine q_i2l (fun v141 hv141 => ?_)
      refine r_lconst 1 rfl ?_
      refine r_ldc2 4 rfl ?_
      refine q_inlS 35 rfl [.long v141, .long 1, .long 4] [] (Nat.le_of_ble_eq_true rfl) rfl ?_
      refine Ev.mk rfl rfl ⟨Nat.le_of_ble_eq_true rfl, Or.inl rfl⟩ ?_
      show At _ none _ _ (0, [(0, .long v141), (2, .long 1), (4, .long 4)], [], (_, _)) _
      refine At.enter rfl ?_
      refine r_lload_n rfl ?_
      refine r_lload_n rfl ?_
      refine r_lcmp _ rfl ?_
      refine r_ifs 6 rfl (fun c142 => ?_) (fun c142 => ?_)
      · have c142_ : v141.toInt < 1 := en_j_lt_t c142
        refine At.enter rfl ?_
        refine r_iconst 0 rfl ?_
        refine Ar.fall 18 rfl ?_
        refine At.enter rfl ?_
        refine q_iretz (by decide) ?_
        refine At.enter rfl ?_
        refine r_ift (by decide) ?_
        refine At.enter rfl ?_
        refine r_iconst 0 rfl ?_
        refine Ar.fall 43 rfl ?_
        refine At.enter rfl ?_
        refine r_istore_n ([(3, .int 0), (0, .ref 231), (1, .int a1), (2, .int a2)]) rfl ?_
        refine r_iload_n rfl ?_
        refine r_ift (by decide) ?_
        refine At.enter rfl ?_
        refine r_aload_n rfl ?_
        refine r_iconst (-1) rfl ?_
        refine r_callV 64 rfl [.ref 231, .int (-1)] [] (Nat.le_of_ble_eq_true rfl) rfl (T_X11_tell_231 _ hI115 (-1) (by decide)) ?_
        rintro _ _ ⟨g143, rfl, hI144, hF145, v146, rfl, hr147⟩
        refine At.sti ?_
        have hF148 := Fr.tr hF116 hF145 rfl rfl
        have zv149 : ((-1) : Int32).toInt = (-1) := rfl
        refine At.enter rfl ?_
        refine r_ireti ?_
        obtain ⟨v150, hv150⟩ : ∃ v, eA g0 233 5 = v := ⟨_, rfl⟩
        have wv150 := HI.t5 hI0
        rw [hv150] at wv150
        have tv150 := congrArg Int32.toInt hv150
        have x151 := HI.eqA hI144 (p := 233) (j := 5) ((((eA_c (hF145.2.1 233 (by decide))).trans (eA_c gA_sI)).trans hv150))
        obtain ⟨v152, hv152⟩ : ∃ v, eA g0 233 6 = v := ⟨_, rfl⟩
        have wv152 := HI.t6 hI0
        rw [hv152] at wv152
        have tv152 := congrArg Int32.toInt hv152
        have x153 := HI.eqA hI144 (p := 233) (j := 6) ((((eA_c (hF145.2.1 233 (by decide))).trans (eA_c gA_sI)).trans hv152))
        obtain ⟨v154, hv154⟩ : ∃ v, eA g0 233 0 = v := ⟨_, rfl⟩
        have tv154 := congrArg Int32.toInt hv154
        have wv154 := HI.t0 hI0
        rw [hv154] at wv154
        have tv154 := congrArg Int32.toInt hv154
        have x155 := HI.eqA hI144 (p := 233) (j := 0) ((((eA_c (hF145.2.1 233 (by decide))).trans (eA_c gA_sI)).trans hv154))
        obtain ⟨v156, hv156⟩ : ∃ v, eA g0 233 4 = v := ⟨_, rfl⟩
        have wv156 := HI.t4 hI0
        rw [hv156] at wv156
        have tv156 := congrArg Int32.toInt hv156
        have x157 := HI.eqA hI144 (p := 233) (j := 4) ((((eA_c (hF145.2.1 233 (by decide))).trans (eA_c gA_sI)).trans hv156))
        obtain ⟨v158, hv158⟩ : ∃ v, eA g0 233 1 = v := ⟨_, rfl⟩
        have tv158 := congrArg Int32.toInt hv158
        have wv158 := HI.t1 hI0
        rw [hv158] at wv158
        have tv158 := congrArg Int32.toInt hv158
        have x159 := HI.eqA hI144 (p := 233) (j := 1) ((((eA_c (hF145.2.1 233 (by decide))).trans (eA_c gA_sI)).trans hv158))
        have x160 := HI.eqA hI0 (p := 233) (j := 5) (hv150)
        have x161 := HI.eqA hI0 (p := 233) (j := 6) (hv152)
        have x162 := HI.eqA hI0 (p := 233) (j := 0) (hv154)
        have x163 := HI.eqA hI0 (p := 233) (j := 4) (hv156)
        have x164 := HI.eqA hI0 (p := 233) (j := 1) (hv158)
        exact ⟨_, rfl, hI144, hF148, _, rfl, by omega, ⟨⟨by omega, by omega, by omega, by omega⟩, (by intro i i0 i1; refine (eA_ti (((hF145.2.1 233 (by decide)).trans (gA_sI)))).trans ?_; (first | rfl | exact eA_ix (by omega) | omega))⟩⟩
      · have c142_ : v141.toInt ≥ 1 := en_j_lt_f c142
        refine At.enter rfl ?_
        refine r_lload_n rfl ?_
        refine r_lload rfl ?_
        refine r_lcmp _ rfl ?_
        refine r_ifs 13 rfl (fun c165 => ?_) (fun c165 => ?_)
        · have c165_ : v141.toInt > 4 := en_j_gt_t c165
          refine At.enter rfl ?_
          refine r_iconst 0 rfl ?_
          refine Ar.fall 18 rfl ?_
          refine At.enter rfl ?_
          refine q_iretz (by decide) ?_
          refine At.enter rfl ?_
          refine r_ift (by decide) ?_
          refine At.enter rfl ?_
          refine r_iconst 0 rfl ?_
          refine Ar.fall 43 rfl ?_
          refine At.enter rfl ?_
          refine r_istore_n ([(3, .int 0), (0, .ref 231), (1, .int a1), (2, .int a2)]) rfl ?_
          refine r_iload_n rfl ?_
          refine r_ift (by decide) ?_
          refine At.enter rfl ?_
          refine r_aload_n rfl ?_
          refine r_iconst (-1) rfl ?_
          refine r_callV 64 rfl [.ref 231, .int (-1)] [] (Nat.le_of_ble_eq_true rfl) rfl (T_X11_tell_231 _ hI115 (-1) (by decide)) ?_
          rintro _ _ ⟨g166, rfl, hI167, hF168, v169, rfl, hr170⟩
          refine At.sti ?_
          have hF171 := Fr.tr hF116 hF168 rfl rfl
          have zv172 : ((-1) : Int32).toInt = (-1) := rfl
          refine At.enter rfl ?_
          refine r_ireti ?_
          obtain ⟨v173, hv173⟩ : ∃ v, eA g0 233 5 = v := ⟨_, rfl⟩
          have wv173 := HI.t5 hI0
          rw [hv173] at wv173
          have tv173 := congrArg Int32.toInt hv173
          have x174 := HI.eqA hI167 (p := 233) (j := 5) ((((eA_c (hF168.2.1 233 (by decide))).trans (eA_c gA_sI)).trans hv173))
          obtain ⟨v175, hv175⟩ : ∃ v, eA g0 233 6 = v := ⟨_, rfl⟩
          have wv175 := HI.t6 hI0
          rw [hv175] at wv175
          have tv175 := congrArg Int32.toInt hv175
          have x176 := HI.eqA hI167 (p := 233) (j := 6) ((((eA_c (hF168.2.1 233 (by decide))).trans (eA_c gA_sI)).trans hv175))
          obtain ⟨v177, hv177⟩ : ∃ v, eA g0 233 0 = v := ⟨_, rfl⟩
          have tv177 := congrArg Int32.toInt hv177
          have wv177 := HI.t0 hI0
          rw [hv177] at wv177
          have tv177 := congrArg Int32.toInt hv177
          have x178 := HI.eqA hI167 (p := 233) (j := 0) ((((eA_c (hF168.2.1 233 (by decide))).trans (eA_c gA_sI)).trans hv177))
          obtain ⟨v179, hv179⟩ : ∃ v, eA g0 233 4 = v := ⟨_, rfl⟩
          have wv179 := HI.t4 hI0
          rw [hv179] at wv179
          have tv179 := congrArg Int32.toInt hv179
          have x180 := HI.eqA hI167 (p := 233) (j := 4) ((((eA_c (hF168.2.1 233 (by decide))).trans (eA_c gA_sI)).trans hv179))
          obtain ⟨v181, hv181⟩ : ∃ v, eA g0 233 1 = v := ⟨_, rfl⟩
          have tv181 := congrArg Int32.toInt hv181
          have wv181 := HI.t1 hI0
          rw [hv181] at wv181
          have tv181 := congrArg Int32.toInt hv181
          have x182 := HI.eqA hI167 (p := 233) (j := 1) ((((eA_c (hF168.2.1 233 (by decide))).trans (eA_c gA_sI)).trans hv181))
          have x183 := HI.eqA hI0 (p := 233) (j := 5) (hv173)
          have x184 := HI.eqA hI0 (p := 233) (j := 6) (hv175)
          have x185 := HI.eqA hI0 (p := 233) (j := 0) (hv177)
          have x186 := HI.eqA hI0 (p := 233) (j := 4) (hv179)
          have x187 := HI.eqA hI0 (p := 233) (j := 1) (hv181)
          exact ⟨_, rfl, hI167, hF171, _, rfl, by omega, ⟨⟨by omega, by omega, by omega, by omega⟩, (by intro i i0 i1; refine (eA_ti (((hF168.2.1 233 (by decide)).trans (gA_sI)))).trans ?_; (first | rfl | exact eA_ix (by omega) | omega))⟩⟩
        · have c165_ : v141.toInt ≤ 4 := en_j_gt_f c165
          refine At.enter rfl ?_
          refine r_iconst 1 rfl ?_
          refine r_goto ?_
          refine At.enter rfl ?_
          refine q_iretz (by decide) ?_
          refine At.enter rfl ?_
          refine r_iff 38 rfl (by decide) ?_
          refine At.enter rfl ?_
          refine r_iconst 1 rfl ?_
          refine r_goto ?_
          refine At.enter rfl ?_
          refine r_istore_n ([(3, .int 1), (0, .ref 231), (1, .int a1), (2, .int a2)]) rfl ?_
          refine r_iload_n rfl ?_
          refine r_iff 48 rfl (by decide) ?_
          refine At.enter rfl ?_
          refine r_aload_n rfl ?_
          refine r_iconst 5 rfl ?_
          refine r_iload_n rfl ?_
          refine q_iadd (5 + a1.toInt) rfl (by omega) (fun v188 hv188 => ?_)
          refine r_iload_n rfl ?_
          refine q_inlV 56 rfl [.ref 231, .int v188, .int a2] [] (Nat.le_of_ble_eq_true rfl) rfl ?_
          refine Ev.mk rfl rfl ⟨Nat.le_of_ble_eq_true rfl, Or.inr (q_rc hI115.1 kx_231 rfl)⟩ ?_
          show At _ none _ _ (0, [(0, .ref 231), (1, .int v188), (2, .int a2)], [], (_, _)) _
          refine At.enter rfl ?_
          refine r_aload_n rfl ?_
          refine q_getR (Sh.ref hI115.1 kx_231 rfl) ?_
          refine r_iload_n rfl ?_
          obtain ⟨v189, hv189⟩ : ∃ v, eA g0 233 (a1.toInt + 5) = v := ⟨_, rfl⟩
          have wv189 : 1 ≤ v189.toInt ∧ v189.toInt ≤ 4 := by have z := HI.t6 hI0; rw [← hv189, show (a1.toInt + 5) = 6 by omega]; exact z
          refine q_iald (Sh.arr hI115.1 ka_233) (a1.toInt + 5) (by omega) (by omega) v189 ((eA_c (gA_sI)).trans hv189) ?_
          refine r_istore_n ([(3, .int v189), (0, .ref 231), (1, .int v188), (2, .int a2)]) rfl ?_
          refine r_aload_n rfl ?_
          refine q_getR (Sh.ref hI115.1 kx_231 rfl) ?_
          refine r_iload_n rfl ?_
          refine r_iload_n rfl ?_
          refine q_iast (Sh.arr hI115.1 ka_233) ((a1.toInt + 5)) (by omega) (by omega) ?_
          have hI190 := HI.wt hI115 (j := (a1.toInt + 5)) (v := a2) (by omega) (by omega)
          have hF191 := Fr.wA (p := 233) (j := (a1.toInt + 5)) (v := a2) hF116 rfl
          refine r_aload_n rfl ?_
          refine r_iload_n rfl ?_
          refine q_inlV 19 rfl [.ref 231, .int v189] [] (Nat.le_of_ble_eq_true rfl) rfl ?_
          refine Ev.mk rfl rfl ⟨Nat.le_of_ble_eq_true rfl, Or.inr (q_rc hI190.1 kx_231 rfl)⟩ ?_
          show At _ none _ _ (0, [(0, .ref 231), (1, .int v189)], [], (_, _)) _
          refine At.enter rfl ?_
          refine r_aload_n rfl ?_
          refine r_iconst 0 rfl ?_
          refine q_putI (Sh.int hI190.1 kx_231 rfl) rfl ?_
          have hI192 := HI.wI0 hI190 kx_231 rfl (p := 231) (b := 1) (v := 0) rfl
          have hF193 := Fr.wI (p := 231) (b := 1) (v := 0) hF191 rfl
          refine r_iload_n rfl ?_
          refine q_ireti ?_
          refine At.enter rfl ?_
          refine q_ireti ?_
          refine At.enter rfl ?_
          refine r_goto ?_
          refine At.enter rfl ?_
          refine r_ireti ?_
          obtain ⟨v194, hv194⟩ : ∃ v, eA g0 233 5 = v := ⟨_, rfl⟩
          have wv194 := HI.t5 hI0
          rw [hv194] at wv194
          have tv194 := congrArg Int32.toInt hv194
          have x195 := HI.eqA hI192 (p := 233) (j := 5) ((((eA_c gA_sI).trans ((eA_sA_ne hI115.1 ka_233 (by first | decide | omega) (by first | decide | omega) (by first | decide | omega)).trans (eA_c gA_sI))).trans hv194))
          have x196 := HI.eqA hI192 (p := 233) (j := 6) (((eA_c gA_sI).trans (eA_sA_eq hI115.1 ka_233 (by omega) (by first | decide | omega) (by first | decide | omega))))
          obtain ⟨v197, hv197⟩ : ∃ v, eA g0 233 0 = v := ⟨_, rfl⟩
          have tv197 := congrArg Int32.toInt hv197
          have wv197 := HI.t0 hI0
          rw [hv197] at wv197
          have tv197 := congrArg Int32.toInt hv197
          have x198 := HI.eqA hI192 (p := 233) (j := 0) ((((eA_c gA_sI).trans ((eA_sA_ne hI115.1 ka_233 (by first | decide | omega) (by first | decide | omega) (by first | decide | omega)).trans (eA_c gA_sI))).trans hv197))
          obtain ⟨v199, hv199⟩ : ∃ v, eA g0 233 4 = v := ⟨_, rfl⟩
          have wv199 := HI.t4 hI0
          rw [hv199] at wv199
          have tv199 := congrArg Int32.toInt hv199
          have x200 := HI.eqA hI192 (p := 233) (j := 4) ((((eA_c gA_sI).trans ((eA_sA_ne hI115.1 ka_233 (by first | decide | omega) (by first | decide | omega) (by first | decide | omega)).trans (eA_c gA_sI))).trans hv199))
          obtain ⟨v201, hv201⟩ : ∃ v, eA g0 233 1 = v := ⟨_, rfl⟩
          have tv201 := congrArg Int32.toInt hv201
          have wv201 := HI.t1 hI0
          rw [hv201] at wv201
          have tv201 := congrArg Int32.toInt hv201
          have x202 := HI.eqA hI192 (p := 233) (j := 1) ((((eA_c gA_sI).trans ((eA_sA_ne hI115.1 ka_233 (by first | decide | omega) (by first | decide | omega) (by first | decide | omega)).trans (eA_c gA_sI))).trans hv201))
          have x203 := HI.eqA hI0 (p := 233) (j := 5) (hv194)
          obtain ⟨v204, hv204⟩ : ∃ v, eA g0 233 6 = v := ⟨_, rfl⟩
          have wv204 := HI.t6 hI0
          rw [hv204] at wv204
          have tv204 := congrArg Int32.toInt hv204
          have x205 := HI.eqA hI0 (p := 233) (j := 6) (hv204)
          have y206 : (eA g0 233 6).toInt = v189.toInt := by rw [← hv189, show (a1.toInt + 5) = 6 by omega]
          have x207 := HI.eqA hI0 (p := 233) (j := 0) (hv197)
          have x208 := HI.eqA hI0 (p := 233) (j := 4) (hv199)
          have x209 := HI.eqA hI0 (p := 233) (j := 1) (hv201)
          exact ⟨_, rfl, hI192, hF193, _, rfl, by omega, ⟨⟨by omega, by omega, by omega, by omega⟩, (by intro i i0 i1; refine (eA_ti ((gA_sI))).trans ?_; exact (Decidable.em (i = (a1.toInt + 5))).elim (fun k341_ => by refine (eA_eqT hI115.1 ka_233 k341_ (by first | decide | omega) (by first | decide | omega)).trans ?_; (first | (rfl) | (omega))) (fun k341_ => by refine (eA_neT hI115.1 ka_233 k341_ (by first | decide | omega) (by omega)).trans ?_; refine (eA_ti ((gA_sI))).trans ?_; (first | rfl | exact eA_ix (by omega) | omega)))⟩⟩
  · have c117_ : a1.toInt = 0 := en_k_ne_f c117
    refine At.enter rfl ?_
    refine r_iload_n rfl ?_
    refine q_i2l (fun v210 hv210 => ?_)
    refine r_lconst 0 rfl ?_
    refine r_ldc2 99 rfl ?_
    refine q_inlS 18 rfl [.long v210, .long 0, .long 99] [] (Nat.le_of_ble_eq_true rfl) rfl ?_
    refine Ev.mk rfl rfl ⟨Nat.le_of_ble_eq_true rfl, Or.inl rfl⟩ ?_
    show At _ none _ _ (0, [(0, .long v210), (2, .long 0), (4, .long 99)], [], (_, _)) _
    refine At.enter rfl ?_
    refine r_lload_n rfl ?_
    refine r_lload_n rfl ?_
    refine r_lcmp _ rfl ?_
    refine r_ifs 6 rfl (fun c211 => ?_) (fun c211 => ?_)
    · have c211_ : v210.toInt < 0 := en_j_lt_t c211
      refine At.enter rfl ?_
      refine r_iconst 0 rfl ?_
      refine Ar.fall 18 rfl ?_
      refine At.enter rfl ?_
      refine q_iretz (by decide) ?_
      refine At.enter rfl ?_
      refine r_goto ?_
      refine At.enter rfl ?_
      refine r_istore_n ([(3, .int 0), (0, .ref 231), (1, .int a1), (2, .int a2)]) rfl ?_
      refine r_iload_n rfl ?_
      refine r_ift (by decide) ?_
      refine At.enter rfl ?_
      refine r_aload_n rfl ?_
      refine r_iconst (-1) rfl ?_
      refine r_callV 64 rfl [.ref 231, .int (-1)] [] (Nat.le_of_ble_eq_true rfl) rfl (T_X11_tell_231 _ hI115 (-1) (by decide)) ?_
      rintro _ _ ⟨g212, rfl, hI213, hF214, v215, rfl, hr216⟩
      refine At.sti ?_
      have hF217 := Fr.tr hF116 hF214 rfl rfl
      have zv218 : ((-1) : Int32).toInt = (-1) := rfl
      refine At.enter rfl ?_
      refine r_ireti ?_
      obtain ⟨v219, hv219⟩ : ∃ v, eA g0 233 5 = v := ⟨_, rfl⟩
      have wv219 := HI.t5 hI0
      rw [hv219] at wv219
      have tv219 := congrArg Int32.toInt hv219
      have x220 := HI.eqA hI213 (p := 233) (j := 5) ((((eA_c (hF214.2.1 233 (by decide))).trans (eA_c gA_sI)).trans hv219))
      obtain ⟨v221, hv221⟩ : ∃ v, eA g0 233 6 = v := ⟨_, rfl⟩
      have wv221 := HI.t6 hI0
      rw [hv221] at wv221
      have tv221 := congrArg Int32.toInt hv221
      have x222 := HI.eqA hI213 (p := 233) (j := 6) ((((eA_c (hF214.2.1 233 (by decide))).trans (eA_c gA_sI)).trans hv221))
      obtain ⟨v223, hv223⟩ : ∃ v, eA g0 233 0 = v := ⟨_, rfl⟩
      have tv223 := congrArg Int32.toInt hv223
      have wv223 := HI.t0 hI0
      rw [hv223] at wv223
      have tv223 := congrArg Int32.toInt hv223
      have x224 := HI.eqA hI213 (p := 233) (j := 0) ((((eA_c (hF214.2.1 233 (by decide))).trans (eA_c gA_sI)).trans hv223))
      obtain ⟨v225, hv225⟩ : ∃ v, eA g0 233 4 = v := ⟨_, rfl⟩
      have wv225 := HI.t4 hI0
      rw [hv225] at wv225
      have tv225 := congrArg Int32.toInt hv225
      have x226 := HI.eqA hI213 (p := 233) (j := 4) ((((eA_c (hF214.2.1 233 (by decide))).trans (eA_c gA_sI)).trans hv225))
      obtain ⟨v227, hv227⟩ : ∃ v, eA g0 233 1 = v := ⟨_, rfl⟩
      have tv227 := congrArg Int32.toInt hv227
      have wv227 := HI.t1 hI0
      rw [hv227] at wv227
      have tv227 := congrArg Int32.toInt hv227
      have x228 := HI.eqA hI213 (p := 233) (j := 1) ((((eA_c (hF214.2.1 233 (by decide))).trans (eA_c gA_sI)).trans hv227))
      have x229 := HI.eqA hI0 (p := 233) (j := 5) (hv219)
      have x230 := HI.eqA hI0 (p := 233) (j := 6) (hv221)
      have x231 := HI.eqA hI0 (p := 233) (j := 0) (hv223)
      have x232 := HI.eqA hI0 (p := 233) (j := 4) (hv225)
      have x233 := HI.eqA hI0 (p := 233) (j := 1) (hv227)
      exact ⟨_, rfl, hI213, hF217, _, rfl, by omega, ⟨⟨by omega, by omega, by omega, by omega⟩, (by intro i i0 i1; refine (eA_ti (((hF214.2.1 233 (by decide)).trans (gA_sI)))).trans ?_; (first | rfl | exact eA_ix (by omega) | omega))⟩⟩
    · have c211_ : v210.toInt ≥ 0 := en_j_lt_f c211
      refine At.enter rfl ?_
      refine r_lload_n rfl ?_
      refine r_lload rfl ?_
      refine r_lcmp _ rfl ?_
      refine r_ifs 13 rfl (fun c234 => ?_) (fun c234 => ?_)
      · have c234_ : v210.toInt > 99 := en_j_gt_t c234
        refine At.enter rfl ?_
        refine r_iconst 0 rfl ?_
        refine Ar.fall 18 rfl ?_
        refine At.enter rfl ?_
        refine q_iretz (by decide) ?_
        refine At.enter rfl ?_
        refine r_goto ?_
        refine At.enter rfl ?_
        refine r_istore_n ([(3, .int 0), (0, .ref 231), (1, .int a1), (2, .int a2)]) rfl ?_
        refine r_iload_n rfl ?_
        refine r_ift (by decide) ?_
        refine At.enter rfl ?_
        refine r_aload_n rfl ?_
        refine r_iconst (-1) rfl ?_
        refine r_callV 64 rfl [.ref 231, .int (-1)] [] (Nat.le_of_ble_eq_true rfl) rfl (T_X11_tell_231 _ hI115 (-1) (by decide)) ?_
        rintro _ _ ⟨g235, rfl, hI236, hF237, v238, rfl, hr239⟩
        refine At.sti ?_
        have hF240 := Fr.tr hF116 hF237 rfl rfl
        have zv241 : ((-1) : Int32).toInt = (-1) := rfl
        refine At.enter rfl ?_
        refine r_ireti ?_
        obtain ⟨v242, hv242⟩ : ∃ v, eA g0 233 5 = v := ⟨_, rfl⟩
        have wv242 := HI.t5 hI0
        rw [hv242] at wv242
        have tv242 := congrArg Int32.toInt hv242
        have x243 := HI.eqA hI236 (p := 233) (j := 5) ((((eA_c (hF237.2.1 233 (by decide))).trans (eA_c gA_sI)).trans hv242))
        obtain ⟨v244, hv244⟩ : ∃ v, eA g0 233 6 = v := ⟨_, rfl⟩
        have wv244 := HI.t6 hI0
        rw [hv244] at wv244
        have tv244 := congrArg Int32.toInt hv244
        have x245 := HI.eqA hI236 (p := 233) (j := 6) ((((eA_c (hF237.2.1 233 (by decide))).trans (eA_c gA_sI)).trans hv244))
        obtain ⟨v246, hv246⟩ : ∃ v, eA g0 233 0 = v := ⟨_, rfl⟩
        have tv246 := congrArg Int32.toInt hv246
        have wv246 := HI.t0 hI0
        rw [hv246] at wv246
        have tv246 := congrArg Int32.toInt hv246
        have x247 := HI.eqA hI236 (p := 233) (j := 0) ((((eA_c (hF237.2.1 233 (by decide))).trans (eA_c gA_sI)).trans hv246))
        obtain ⟨v248, hv248⟩ : ∃ v, eA g0 233 4 = v := ⟨_, rfl⟩
        have wv248 := HI.t4 hI0
        rw [hv248] at wv248
        have tv248 := congrArg Int32.toInt hv248
        have x249 := HI.eqA hI236 (p := 233) (j := 4) ((((eA_c (hF237.2.1 233 (by decide))).trans (eA_c gA_sI)).trans hv248))
        obtain ⟨v250, hv250⟩ : ∃ v, eA g0 233 1 = v := ⟨_, rfl⟩
        have tv250 := congrArg Int32.toInt hv250
        have wv250 := HI.t1 hI0
        rw [hv250] at wv250
        have tv250 := congrArg Int32.toInt hv250
        have x251 := HI.eqA hI236 (p := 233) (j := 1) ((((eA_c (hF237.2.1 233 (by decide))).trans (eA_c gA_sI)).trans hv250))
        have x252 := HI.eqA hI0 (p := 233) (j := 5) (hv242)
        have x253 := HI.eqA hI0 (p := 233) (j := 6) (hv244)
        have x254 := HI.eqA hI0 (p := 233) (j := 0) (hv246)
        have x255 := HI.eqA hI0 (p := 233) (j := 4) (hv248)
        have x256 := HI.eqA hI0 (p := 233) (j := 1) (hv250)
        exact ⟨_, rfl, hI236, hF240, _, rfl, by omega, ⟨⟨by omega, by omega, by omega, by omega⟩, (by intro i i0 i1; refine (eA_ti (((hF237.2.1 233 (by decide)).trans (gA_sI)))).trans ?_; (first | rfl | exact eA_ix (by omega) | omega))⟩⟩
      · have c234_ : v210.toInt ≤ 99 := en_j_gt_f c234
        refine At.enter rfl ?_
        refine r_iconst 1 rfl ?_
        refine r_goto ?_
        refine At.enter rfl ?_
        refine q_iretz (by decide) ?_
        refine At.enter rfl ?_
        refine r_goto ?_
        refine At.enter rfl ?_
        refine r_istore_n ([(3, .int 1), (0, .ref 231), (1, .int a1), (2, .int a2)]) rfl ?_
        refine r_iload_n rfl ?_
        refine r_iff 48 rfl (by decide) ?_
        refine At.enter rfl ?_
        refine r_aload_n rfl ?_
        refine r_iconst 5 rfl ?_
        refine r_iload_n rfl ?_
        refine q_iadd (5 + a1.toInt) rfl (by omega) (fun v257 hv257 => ?_)
        refine r_iload_n rfl ?_
        refine q_inlV 56 rfl [.ref 231, .int v257, .int a2] [] (Nat.le_of_ble_eq_true rfl) rfl ?_
        refine Ev.mk rfl rfl ⟨Nat.le_of_ble_eq_true rfl, Or.inr (q_rc hI115.1 kx_231 rfl)⟩ ?_
        show At _ none _ _ (0, [(0, .ref 231), (1, .int v257), (2, .int a2)], [], (_, _)) _
        refine At.enter rfl ?_
        refine r_aload_n rfl ?_
        refine q_getR (Sh.ref hI115.1 kx_231 rfl) ?_
        refine r_iload_n rfl ?_
        obtain ⟨v258, hv258⟩ : ∃ v, eA g0 233 (a1.toInt + 5) = v := ⟨_, rfl⟩
        have wv258 : 0 ≤ v258.toInt ∧ v258.toInt ≤ 99 := by have z := HI.t5 hI0; rw [← hv258, show (a1.toInt + 5) = 5 by omega]; exact z
        refine q_iald (Sh.arr hI115.1 ka_233) (a1.toInt + 5) (by omega) (by omega) v258 ((eA_c (gA_sI)).trans hv258) ?_
        refine r_istore_n ([(3, .int v258), (0, .ref 231), (1, .int v257), (2, .int a2)]) rfl ?_
        refine r_aload_n rfl ?_
        refine q_getR (Sh.ref hI115.1 kx_231 rfl) ?_
        refine r_iload_n rfl ?_
        refine r_iload_n rfl ?_
        refine q_iast (Sh.arr hI115.1 ka_233) ((a1.toInt + 5)) (by omega) (by omega) ?_
        have hI259 := HI.wt hI115 (j := (a1.toInt + 5)) (v := a2) (by omega) (by omega)
        have hF260 := Fr.wA (p := 233) (j := (a1.toInt + 5)) (v := a2) hF116 rfl
        refine r_aload_n rfl ?_
        refine r_iload_n rfl ?_
        refine q_inlV 19 rfl [.ref 231, .int v258] [] (Nat.le_of_ble_eq_true rfl) rfl ?_
        refine Ev.mk rfl rfl ⟨Nat.le_of_ble_eq_true rfl, Or.inr (q_rc hI259.1 kx_231 rfl)⟩ ?_
        show At _ none _ _ (0, [(0, .ref 231), (1, .int v258)], [], (_, _)) _
        refine At.enter rfl ?_
        refine r_aload_n rfl ?_
        refine r_iconst 0 rfl ?_
        refine q_putI (Sh.int hI259.1 kx_231 rfl) rfl ?_
        have hI261 := HI.wI0 hI259 kx_231 rfl (p := 231) (b := 1) (v := 0) rfl
        have hF262 := Fr.wI (p := 231) (b := 1) (v := 0) hF260 rfl
        refine r_iload_n rfl ?_
        refine q_ireti ?_
        refine At.enter rfl ?_
        refine q_ireti ?_
        refine At.enter rfl ?_
        refine r_goto ?_
        refine At.enter rfl ?_
        refine r_ireti ?_
        have x263 := HI.eqA hI261 (p := 233) (j := 5) (((eA_c gA_sI).trans (eA_sA_eq hI115.1 ka_233 (by omega) (by first | decide | omega) (by first | decide | omega))))
        obtain ⟨v264, hv264⟩ : ∃ v, eA g0 233 6 = v := ⟨_, rfl⟩
        have wv264 := HI.t6 hI0
        rw [hv264] at wv264
        have tv264 := congrArg Int32.toInt hv264
        have x265 := HI.eqA hI261 (p := 233) (j := 6) ((((eA_c gA_sI).trans ((eA_sA_ne hI115.1 ka_233 (by first | decide | omega) (by first | decide | omega) (by first | decide | omega)).trans (eA_c gA_sI))).trans hv264))
        obtain ⟨v266, hv266⟩ : ∃ v, eA g0 233 0 = v := ⟨_, rfl⟩
        have tv266 := congrArg Int32.toInt hv266
        have wv266 := HI.t0 hI0
        rw [hv266] at wv266
        have tv266 := congrArg Int32.toInt hv266
        have x267 := HI.eqA hI261 (p := 233) (j := 0) ((((eA_c gA_sI).trans ((eA_sA_ne hI115.1 ka_233 (by first | decide | omega) (by first | decide | omega) (by first | decide | omega)).trans (eA_c gA_sI))).trans hv266))
        obtain ⟨v268, hv268⟩ : ∃ v, eA g0 233 4 = v := ⟨_, rfl⟩
        have wv268 := HI.t4 hI0
        rw [hv268] at wv268
        have tv268 := congrArg Int32.toInt hv268
        have x269 := HI.eqA hI261 (p := 233) (j := 4) ((((eA_c gA_sI).trans ((eA_sA_ne hI115.1 ka_233 (by first | decide | omega) (by first | decide | omega) (by first | decide | omega)).trans (eA_c gA_sI))).trans hv268))
        obtain ⟨v270, hv270⟩ : ∃ v, eA g0 233 1 = v := ⟨_, rfl⟩
        have tv270 := congrArg Int32.toInt hv270
        have wv270 := HI.t1 hI0
        rw [hv270] at wv270
        have tv270 := congrArg Int32.toInt hv270
        have x271 := HI.eqA hI261 (p := 233) (j := 1) ((((eA_c gA_sI).trans ((eA_sA_ne hI115.1 ka_233 (by first | decide | omega) (by first | decide | omega) (by first | decide | omega)).trans (eA_c gA_sI))).trans hv270))
        obtain ⟨v272, hv272⟩ : ∃ v, eA g0 233 5 = v := ⟨_, rfl⟩
        have wv272 := HI.t5 hI0
        rw [hv272] at wv272
        have tv272 := congrArg Int32.toInt hv272
        have x273 := HI.eqA hI0 (p := 233) (j := 5) (hv272)
        have y274 : (eA g0 233 5).toInt = v258.toInt := by rw [← hv258, show (a1.toInt + 5) = 5 by omega]
        have x275 := HI.eqA hI0 (p := 233) (j := 6) (hv264)
        have x276 := HI.eqA hI0 (p := 233) (j := 0) (hv266)
        have x277 := HI.eqA hI0 (p := 233) (j := 4) (hv268)
        have x278 := HI.eqA hI0 (p := 233) (j := 1) (hv270)
        exact ⟨_, rfl, hI261, hF262, _, rfl, by omega, ⟨⟨by omega, by omega, by omega, by omega⟩, (by intro i i0 i1; refine (eA_ti ((gA_sI))).trans ?_; exact (Decidable.em (i = (a1.toInt + 5))).elim (fun k342_ => by refine (eA_eqT hI115.1 ka_233 k342_ (by first | decide | omega) (by first | decide | omega)).trans ?_; (first | (rfl) | (omega))) (fun k342_ => by refine (eA_neT hI115.1 ka_233 k342_ (by first | decide | omega) (by omega)).trans ?_; refine (eA_ti ((gA_sI))).trans ?_; (first | rfl | exact eA_ix (by omega) | omega)))⟩⟩

def F_X11_four_231 : List (Nat × Nat) := [(231, 8)]
def A_X11_four_231 : List Nat := [236]
set_option maxRecDepth 100000 in
set_option maxHeartbeats 4000000 in
theorem T_X11_four_231 (d : Nat) {N : Nat} {g0 : List en_E} (hI0 : HI g0) (a1 : Int32) (h4 : (gI g0 231 8).toInt ≤ 396) : Ev (d + 1) 184 [.ref 231, .int a1] (g0, N) (fun w h' => ∃ g', h' = (g', N) ∧ HI g' ∧ Fr F_X11_four_231 A_X11_four_231 g0 g' ∧ w = none ∧ (((gI g' 231 8).toInt = (gI g0 231 8).toInt + 4) ∧ (∀ i : Int, 0 ≤ i → i < 400 → (eA g' 236 (i)).toInt = if (gI g0 231 8).toInt ≤ i ∧ i < (gI g0 231 8).toInt + 4 then BYT a1 (i - (gI g0 231 8).toInt) else (eA g0 236 (i)).toInt))) := by
  have hF0 : Fr F_X11_four_231 A_X11_four_231 g0 g0 := Fr.rf
  refine Ev.mk rfl rfl ⟨Nat.le_of_ble_eq_true rfl, Or.inr (q_rc hI0.1 kx_231 rfl)⟩ ?_
  show At _ none _ _ (0, [(0, .ref 231), (1, .int a1)], [], (_, _)) _
  refine At.enter rfl ?_
  refine r_bipush 24 rfl ?_
  refine r_istore_n ([(2, .int 24), (0, .ref 231), (1, .int a1)]) rfl ?_
  refine Ar.fall 3 rfl ?_
  obtain ⟨v273, hv273⟩ : ∃ v, gI g0 231 8 = v := ⟨_, rfl⟩
  have rv273 := RgF.at hI0.2.1 (p := 231) (b := 8) rfl
  rw [hv273] at rv273
  dsimp only at rv273
  have tv273 := congrArg Int32.toInt hv273
  have z_398 : (24 : Int32).toInt = 24 := rfl
  refine w_loopI (fun n_ l_ g_ => ∃ x382 : Int32, ∃ x383 : Int32, n_ = x382.toInt + 8 ∧ HI g_ ∧ Fr F_X11_four_231 A_X11_four_231 g0 g_ ∧ gI g_ 231 8 = x383 ∧ en_get 0 l_ = some (.ref 231) ∧ en_get 1 l_ = some (.int a1) ∧ en_get 2 l_ = some (.int x382) ∧ ((-8) ≤ x382.toInt ∧ x382.toInt ≤ 24) ∧ (0 ≤ x383.toInt ∧ x383.toInt ≤ 400) ∧ (8 * x383.toInt + x382.toInt = 8 * (gI g0 231 8).toInt + 24) ∧ (∀ i : Int, 0 ≤ i → i < 400 → (eA g_ 236 (i)).toInt = if (gI g0 231 8).toInt ≤ i ∧ i < x383.toInt then BYT a1 (i - (gI g0 231 8).toInt) else (eA g0 236 (i)).toInt)) ?_ (24 + 8) ⟨24, v273, by first | rfl | omega, hI0, hF0, hv273, rfl, rfl, rfl, by decide, by omega, by omega, (by intro i i0 i1; refine Eq.trans ?_ (if_neg (show ¬ ((gI g0 231 8).toInt ≤ i ∧ i < v273.toInt) from by omega)).symm; (first | rfl | exact eA_ix (by omega) | omega))⟩
  rintro n388 l387 g384 ⟨x382, x383, hm399, hI385, hF386, e390, e391, e392, e393, r394, r395, q396, q397⟩ ih389
  refine At.enter rfl ?_
  refine r_iload_n e393 ?_
  refine r_ifs 7 rfl (fun c400 => ?_) (fun c400 => ?_)
  · have c400_ : x382.toInt < 0 := en_k_lt_t c400
    refine At.enter rfl ?_
    refine r_vret ?_
    have x401 := HI.eqI hI385 (p := 231) (b := 8) (e390)
    have x402 := HI.eqI hI0 (p := 231) (b := 8) (hv273)
    exact ⟨_, rfl, hI385, hF386, rfl, ⟨(by rw [e390]; omega), (by intro i i0 i1; exact (Decidable.em ((gI g0 231 8).toInt ≤ i ∧ i < (gI g0 231 8).toInt + 4)).elim (fun k343_ => by refine Eq.trans ?_ (if_pos k343_).symm; refine ((q397 (i) (by omega) (by omega))).trans ?_; exact (Decidable.em ((gI g0 231 8).toInt ≤ (i) ∧ (i) < x383.toInt)).elim (fun k344_ => by refine (if_pos k344_).trans ?_; (first | rfl | exact eA_ix (by omega) | omega)) (fun k344_ => by refine (if_neg k344_).trans ?_; (first | rfl | exact eA_ix (by omega) | omega))) (fun k343_ => by refine Eq.trans ?_ (if_neg k343_).symm; refine ((q397 (i) (by omega) (by omega))).trans ?_; exact (Decidable.em ((gI g0 231 8).toInt ≤ (i) ∧ (i) < x383.toInt)).elim (fun k345_ => by refine (if_pos k345_).trans ?_; (first | rfl | exact eA_ix (by omega) | omega)) (fun k345_ => by refine (if_neg k345_).trans ?_; (first | rfl | exact eA_ix (by omega) | omega))))⟩⟩
  · have c400_ : x382.toInt ≥ 0 := en_k_lt_f c400
    refine At.enter rfl ?_
    refine r_aload_n e391 ?_
    refine q_getR (Sh.ref hI385.1 kx_231 rfl) ?_
    refine r_aload_n e391 ?_
    refine q_getI (Sh.int hI385.1 kx_231 rfl) x383 e390 ?_
    refine r_iload_n e392 ?_
    refine r_iload_n e393 ?_
    refine q_ishrO (fun v403 hv403 => ?_)
    refine r_sipush 255 rfl ?_
    refine q_iandO (fun v404 hv404 => ?_)
    refine q_iast (Sh.arr hI385.1 ka_236) (x383.toInt) rfl (by omega) ?_
    have hI405 := HI.wA0 hI385 ka_236 (p := 236) rfl rfl (x383.toInt) (v404)
    have hF406 := Fr.wA (p := 236) (j := x383.toInt) (v := v404) hF386 rfl
    refine r_aload_n e391 ?_
    refine r_dup rfl ?_
    refine q_getI (Sh.int hI405.1 kx_231 rfl) x383 ((gI_sW).trans e390) ?_
    refine r_iconst 1 rfl ?_
    refine q_iadd (x383.toInt + 1) rfl (by omega) (fun v407 hv407 => ?_)
    refine q_putI (Sh.int hI405.1 kx_231 rfl) rfl ?_
    have hI408 := HI.wI1 hI405 kx_231 rfl (p := 231) (b := 8) (v := v407) rfl (by dsimp only; omega)
    have hF409 := Fr.wI (p := 231) (b := 8) (v := v407) hF406 rfl
    refine q_iinc e393 (x382.toInt + (-8)) rfl (by omega) (fun v410 hv410 => ?_)
    refine r_goto ?_
    exact ih389 (v410.toInt + 8) _ _ ⟨v410, v407, by first | rfl | omega, hI408, hF409, (gI_sI_eq hI405.1 kx_231 rfl _), (w_p1 (by decide) (Or.inr rfl) e391), (w_p1 (by decide) (Or.inr rfl) e392), (w_e1 _ _ _), by omega, by omega, by omega, (by intro i i0 i1; exact (Decidable.em ((gI g0 231 8).toInt ≤ i ∧ i < v407.toInt)).elim (fun k346_ => by refine Eq.trans ?_ (if_pos k346_).symm; refine (eA_ti ((gA_sI))).trans ?_; exact (Decidable.em (i = x383.toInt)).elim (fun k347_ => by refine (eA_eqT hI385.1 ka_236 k347_ (by first | decide | omega) (by first | decide | omega)).trans ?_; (first | (rfl) | (omega) | (exact BYT.m (by assumption) hv404 (by omega)))) (fun k347_ => by refine (eA_neT hI385.1 ka_236 k347_ (by first | decide | omega) (by omega)).trans ?_; refine ((q397 (i) (by omega) (by omega))).trans ?_; exact (Decidable.em ((gI g0 231 8).toInt ≤ (i) ∧ (i) < x383.toInt)).elim (fun k348_ => by refine (if_pos k348_).trans ?_; (first | rfl | exact eA_ix (by omega) | omega)) (fun k348_ => by refine (if_neg k348_).trans ?_; (first | rfl | exact eA_ix (by omega) | omega)))) (fun k346_ => by refine Eq.trans ?_ (if_neg k346_).symm; refine (eA_ti ((gA_sI))).trans ?_; exact (Decidable.em (i = x383.toInt)).elim (fun k349_ => by refine (eA_eqT hI385.1 ka_236 k349_ (by first | decide | omega) (by first | decide | omega)).trans ?_; (first | (rfl) | (omega) | (exact BYT.m (by assumption) hv404 (by omega)))) (fun k349_ => by refine (eA_neT hI385.1 ka_236 k349_ (by first | decide | omega) (by omega)).trans ?_; refine ((q397 (i) (by omega) (by omega))).trans ?_; exact (Decidable.em ((gI g0 231 8).toInt ≤ (i) ∧ (i) < x383.toInt)).elim (fun k350_ => by refine (if_pos k350_).trans ?_; (first | rfl | exact eA_ix (by omega) | omega)) (fun k350_ => by refine (if_neg k350_).trans ?_; (first | rfl | exact eA_ix (by omega) | omega)))))⟩ ⟨by omega, by omega⟩

def F_X11_feed_231 : List (Nat × Nat) := [(231, 0), (231, 8)]
def A_X11_feed_231 : List Nat := [236]
set_option maxRecDepth 100000 in
set_option maxHeartbeats 4000000 in
theorem T_X11_feed_231 (d : Nat) {N : Nat} {g0 : List en_E} (hI0 : HI g0) (a1 : Int32) (a2 : Int32) (a3 : Int32) (a4 : Int32) (a5 : Int32) : Ev (d + 2) 185 [.ref 231, .int a1, .int a2, .int a3, .int a4, .int a5] (g0, N) (fun w h' => ∃ g', h' = (g', N) ∧ HI g' ∧ Fr F_X11_feed_231 A_X11_feed_231 g0 g' ∧ ∃ r : Int32, w = some (.int r) ∧ ((-1) ≤ r.toInt ∧ r.toInt ≤ 400) ∧ (((380 < (gI g0 231 8).toInt → r.toInt = -1 ∧ (gI g' 231 8).toInt = (gI g0 231 8).toInt) ∧ ((gI g0 231 8).toInt ≤ 380 → r.toInt = (gI g0 231 8).toInt + 20 ∧ (gI g' 231 8).toInt = (gI g0 231 8).toInt + 20)) ∧ (∀ i : Int, 0 ≤ i → i < 400 → (eA g' 236 (i)).toInt = if (gI g0 231 8).toInt ≤ 380 ∧ (gI g0 231 8).toInt + 0 ≤ i ∧ i < (gI g0 231 8).toInt + 4 then BYT a1 (i - (gI g0 231 8).toInt - 0) else if (gI g0 231 8).toInt ≤ 380 ∧ (gI g0 231 8).toInt + 4 ≤ i ∧ i < (gI g0 231 8).toInt + 8 then BYT a2 (i - (gI g0 231 8).toInt - 4) else if (gI g0 231 8).toInt ≤ 380 ∧ (gI g0 231 8).toInt + 8 ≤ i ∧ i < (gI g0 231 8).toInt + 12 then BYT a3 (i - (gI g0 231 8).toInt - 8) else if (gI g0 231 8).toInt ≤ 380 ∧ (gI g0 231 8).toInt + 12 ≤ i ∧ i < (gI g0 231 8).toInt + 16 then BYT a4 (i - (gI g0 231 8).toInt - 12) else if (gI g0 231 8).toInt ≤ 380 ∧ (gI g0 231 8).toInt + 16 ≤ i ∧ i < (gI g0 231 8).toInt + 20 then BYT a5 (i - (gI g0 231 8).toInt - 16) else (eA g0 236 (i)).toInt))) := by
  have hF0 : Fr F_X11_feed_231 A_X11_feed_231 g0 g0 := Fr.rf
  refine Ev.mk rfl rfl ⟨Nat.le_of_ble_eq_true rfl, Or.inr (q_rc hI0.1 kx_231 rfl)⟩ ?_
  show At _ none _ _ (0, [(0, .ref 231), (1, .int a1), (2, .int a2), (3, .int a3), (4, .int a4), (5, .int a5)], [], (_, _)) _
  refine At.enter rfl ?_
  refine r_aload_n rfl ?_
  refine r_iconst 0 rfl ?_
  refine q_putI (Sh.int hI0.1 kx_231 rfl) rfl ?_
  have hI111 := HI.wI0 hI0 kx_231 rfl (p := 231) (b := 0) (v := 0) rfl
  have hF112 := Fr.wI (p := 231) (b := 0) (v := 0) hF0 rfl
  refine r_aload_n rfl ?_
  obtain ⟨v113, hv113⟩ : ∃ v, gI g0 231 8 = v := ⟨_, rfl⟩
  have rv113 := RgF.at hI0.2.1 (p := 231) (b := 8) rfl
  rw [hv113] at rv113
  dsimp only at rv113
  refine q_getI (Sh.int hI111.1 kx_231 rfl) v113 ((gI_sI_ne (by decide)).trans hv113) ?_
  refine r_bipush 20 rfl ?_
  refine q_iadd (v113.toInt + 20) rfl (by omega) (fun v114 hv114 => ?_)
  refine r_sipush 400 rfl ?_
  refine r_ics 18 rfl (fun c115 => ?_) (fun c115 => ?_)
  · have c115_ : v114.toInt ≤ 400 := en_i_le_t c115
    refine At.enter rfl ?_
    refine r_aload_n rfl ?_
    refine r_iload_n rfl ?_
    refine r_callV 25 rfl [.ref 231, .int a1] [] (Nat.le_of_ble_eq_true rfl) rfl (T_X11_four_231 _ hI111 a1 (by rw [((gI_sI_ne (by decide)).trans hv113)]; omega)) ?_
    rintro _ _ ⟨g116, rfl, hI117, hF118, rfl, hr120⟩
    refine At.stn ?_
    have hF121 := Fr.tr hF112 hF118 rfl rfl
    obtain ⟨w122, w123⟩ := hr120
    have x124 := HI.eqI hI111 (p := 231) (b := 8) (((gI_sI_ne (by decide)).trans hv113))
    have fq125 := w123
    rw [show (gI _ 231 8).toInt = (gI g0 231 8).toInt from congrArg Int32.toInt ((gI_sI_ne (by decide)))] at fq125
    rw [((gI_sI_ne (by decide)).trans hv113)] at w122
    obtain ⟨v126, hv126⟩ : ∃ v, gI g116 231 8 = v := ⟨_, rfl⟩
    rw [hv126] at w122
    refine At.enter rfl ?_
    refine r_aload_n rfl ?_
    refine r_iload_n rfl ?_
    refine r_callV 30 rfl [.ref 231, .int a2] [] (Nat.le_of_ble_eq_true rfl) rfl (T_X11_four_231 _ hI117 a2 (by rw [hv126]; omega)) ?_
    rintro _ _ ⟨g127, rfl, hI128, hF129, rfl, hr131⟩
    refine At.stn ?_
    have hF132 := Fr.tr hF121 hF129 rfl rfl
    obtain ⟨w133, w134⟩ := hr131
    have x135 := HI.eqI hI117 (p := 231) (b := 8) (hv126)
    rw [hv126] at w133
    obtain ⟨v136, hv136⟩ : ∃ v, gI g127 231 8 = v := ⟨_, rfl⟩
    rw [hv136] at w133
    refine At.enter rfl ?_
    refine r_aload_n rfl ?_
    refine r_iload_n rfl ?_
    refine r_callV 35 rfl [.ref 231, .int a3] [] (Nat.le_of_ble_eq_true rfl) rfl (T_X11_four_231 _ hI128 a3 (by rw [hv136]; omega)) ?_
    rintro _ _ ⟨g137, rfl, hI138, hF139, rfl, hr141⟩
    refine At.stn ?_
    have hF142 := Fr.tr hF132 hF139 rfl rfl
    obtain ⟨w143, w144⟩ := hr141
    have x145 := HI.eqI hI128 (p := 231) (b := 8) (hv136)
    rw [hv136] at w143
    obtain ⟨v146, hv146⟩ : ∃ v, gI g137 231 8 = v := ⟨_, rfl⟩
    rw [hv146] at w143
    refine At.enter rfl ?_
    refine r_aload_n rfl ?_
    refine r_iload rfl ?_
    refine r_callV 41 rfl [.ref 231, .int a4] [] (Nat.le_of_ble_eq_true rfl) rfl (T_X11_four_231 _ hI138 a4 (by rw [hv146]; omega)) ?_
    rintro _ _ ⟨g147, rfl, hI148, hF149, rfl, hr151⟩
    refine At.stn ?_
    have hF152 := Fr.tr hF142 hF149 rfl rfl
    obtain ⟨w153, w154⟩ := hr151
    have x155 := HI.eqI hI138 (p := 231) (b := 8) (hv146)
    rw [hv146] at w153
    obtain ⟨v156, hv156⟩ : ∃ v, gI g147 231 8 = v := ⟨_, rfl⟩
    rw [hv156] at w153
    refine At.enter rfl ?_
    refine r_aload_n rfl ?_
    refine r_iload rfl ?_
    refine r_callV 47 rfl [.ref 231, .int a5] [] (Nat.le_of_ble_eq_true rfl) rfl (T_X11_four_231 _ hI148 a5 (by rw [hv156]; omega)) ?_
    rintro _ _ ⟨g157, rfl, hI158, hF159, rfl, hr161⟩
    refine At.stn ?_
    have hF162 := Fr.tr hF152 hF159 rfl rfl
    obtain ⟨w163, w164⟩ := hr161
    have x165 := HI.eqI hI148 (p := 231) (b := 8) (hv156)
    rw [hv156] at w163
    obtain ⟨v166, hv166⟩ : ∃ v, gI g157 231 8 = v := ⟨_, rfl⟩
    rw [hv166] at w163
    refine At.enter rfl ?_
    refine r_aload_n rfl ?_
    refine q_getI (Sh.int hI158.1 kx_231 rfl) v166 hv166 ?_
    refine r_ireti ?_
    have x167 := HI.eqI hI158 (p := 231) (b := 8) (hv166)
    have x168 := HI.eqI hI0 (p := 231) (b := 8) (hv113)
    exact ⟨_, rfl, hI158, hF162, _, rfl, by omega, ⟨(by omega), (by intro i i0 i1; rcases (show i < (gI g0 231 8).toInt ∨ ((gI g0 231 8).toInt + 0 ≤ i ∧ i < (gI g0 231 8).toInt + 4) ∨ ((gI g0 231 8).toInt + 4 ≤ i ∧ i < (gI g0 231 8).toInt + 8) ∨ ((gI g0 231 8).toInt + 8 ≤ i ∧ i < (gI g0 231 8).toInt + 12) ∨ ((gI g0 231 8).toInt + 12 ≤ i ∧ i < (gI g0 231 8).toInt + 16) ∨ ((gI g0 231 8).toInt + 16 ≤ i ∧ i < (gI g0 231 8).toInt + 20) ∨ (gI g0 231 8).toInt + 20 ≤ i from by omega) with k | k | k | k | k | k | k; (refine Eq.trans ?_ (if_neg (show ¬ ((gI g0 231 8).toInt ≤ 380 ∧ (gI g0 231 8).toInt + 0 ≤ i ∧ i < (gI g0 231 8).toInt + 4) from fun z => by omega)).symm; refine Eq.trans ?_ (if_neg (show ¬ ((gI g0 231 8).toInt ≤ 380 ∧ (gI g0 231 8).toInt + 4 ≤ i ∧ i < (gI g0 231 8).toInt + 8) from fun z => by omega)).symm; refine Eq.trans ?_ (if_neg (show ¬ ((gI g0 231 8).toInt ≤ 380 ∧ (gI g0 231 8).toInt + 8 ≤ i ∧ i < (gI g0 231 8).toInt + 12) from fun z => by omega)).symm; refine Eq.trans ?_ (if_neg (show ¬ ((gI g0 231 8).toInt ≤ 380 ∧ (gI g0 231 8).toInt + 12 ≤ i ∧ i < (gI g0 231 8).toInt + 16) from fun z => by omega)).symm; refine Eq.trans ?_ (if_neg (show ¬ ((gI g0 231 8).toInt ≤ 380 ∧ (gI g0 231 8).toInt + 16 ≤ i ∧ i < (gI g0 231 8).toInt + 20) from fun z => by omega)).symm; refine (w164 (i) (by omega) (by omega)).trans ?_; refine (if_neg (show ¬ ((gI g147 231 8).toInt ≤ (i) ∧ (i) < (gI g147 231 8).toInt + 4) from fun z => by omega)).trans ?_; refine (w154 (i) (by omega) (by omega)).trans ?_; refine (if_neg (show ¬ ((gI g137 231 8).toInt ≤ (i) ∧ (i) < (gI g137 231 8).toInt + 4) from fun z => by omega)).trans ?_; refine (w144 (i) (by omega) (by omega)).trans ?_; refine (if_neg (show ¬ ((gI g127 231 8).toInt ≤ (i) ∧ (i) < (gI g127 231 8).toInt + 4) from fun z => by omega)).trans ?_; refine (w134 (i) (by omega) (by omega)).trans ?_; refine (if_neg (show ¬ ((gI g116 231 8).toInt ≤ (i) ∧ (i) < (gI g116 231 8).toInt + 4) from fun z => by omega)).trans ?_; refine (fq125 (i) (by omega) (by omega)).trans ?_; refine (if_neg (show ¬ ((gI g0 231 8).toInt ≤ (i) ∧ (i) < (gI g0 231 8).toInt + 4) from fun z => by omega)).trans ?_; exact eA_ti ((gA_sI))); (refine Eq.trans ?_ (if_pos (show (gI g0 231 8).toInt ≤ 380 ∧ (gI g0 231 8).toInt + 0 ≤ i ∧ i < (gI g0 231 8).toInt + 4 from ⟨by omega, by omega, by omega⟩)).symm; refine (w164 (i) (by omega) (by omega)).trans ?_; refine (if_neg (show ¬ ((gI g147 231 8).toInt ≤ (i) ∧ (i) < (gI g147 231 8).toInt + 4) from fun z => by omega)).trans ?_; refine (w154 (i) (by omega) (by omega)).trans ?_; refine (if_neg (show ¬ ((gI g137 231 8).toInt ≤ (i) ∧ (i) < (gI g137 231 8).toInt + 4) from fun z => by omega)).trans ?_; refine (w144 (i) (by omega) (by omega)).trans ?_; refine (if_neg (show ¬ ((gI g127 231 8).toInt ≤ (i) ∧ (i) < (gI g127 231 8).toInt + 4) from fun z => by omega)).trans ?_; refine (w134 (i) (by omega) (by omega)).trans ?_; refine (if_neg (show ¬ ((gI g116 231 8).toInt ≤ (i) ∧ (i) < (gI g116 231 8).toInt + 4) from fun z => by omega)).trans ?_; refine (fq125 (i) (by omega) (by omega)).trans ?_; refine (if_pos (show (gI g0 231 8).toInt ≤ (i) ∧ (i) < (gI g0 231 8).toInt + 4 from ⟨by omega, by omega⟩)).trans ?_; exact congrArg (BYT _) (by omega)); (refine Eq.trans ?_ (if_neg (show ¬ ((gI g0 231 8).toInt ≤ 380 ∧ (gI g0 231 8).toInt + 0 ≤ i ∧ i < (gI g0 231 8).toInt + 4) from fun z => by omega)).symm; refine Eq.trans ?_ (if_pos (show (gI g0 231 8).toInt ≤ 380 ∧ (gI g0 231 8).toInt + 4 ≤ i ∧ i < (gI g0 231 8).toInt + 8 from ⟨by omega, by omega, by omega⟩)).symm; refine (w164 (i) (by omega) (by omega)).trans ?_; refine (if_neg (show ¬ ((gI g147 231 8).toInt ≤ (i) ∧ (i) < (gI g147 231 8).toInt + 4) from fun z => by omega)).trans ?_; refine (w154 (i) (by omega) (by omega)).trans ?_; refine (if_neg (show ¬ ((gI g137 231 8).toInt ≤ (i) ∧ (i) < (gI g137 231 8).toInt + 4) from fun z => by omega)).trans ?_; refine (w144 (i) (by omega) (by omega)).trans ?_; refine (if_neg (show ¬ ((gI g127 231 8).toInt ≤ (i) ∧ (i) < (gI g127 231 8).toInt + 4) from fun z => by omega)).trans ?_; refine (w134 (i) (by omega) (by omega)).trans ?_; refine (if_pos (show (gI g116 231 8).toInt ≤ (i) ∧ (i) < (gI g116 231 8).toInt + 4 from ⟨by omega, by omega⟩)).trans ?_; exact congrArg (BYT _) (by omega)); (refine Eq.trans ?_ (if_neg (show ¬ ((gI g0 231 8).toInt ≤ 380 ∧ (gI g0 231 8).toInt + 0 ≤ i ∧ i < (gI g0 231 8).toInt + 4) from fun z => by omega)).symm; refine Eq.trans ?_ (if_neg (show ¬ ((gI g0 231 8).toInt ≤ 380 ∧ (gI g0 231 8).toInt + 4 ≤ i ∧ i < (gI g0 231 8).toInt + 8) from fun z => by omega)).symm; refine Eq.trans ?_ (if_pos (show (gI g0 231 8).toInt ≤ 380 ∧ (gI g0 231 8).toInt + 8 ≤ i ∧ i < (gI g0 231 8).toInt + 12 from ⟨by omega, by omega, by omega⟩)).symm; refine (w164 (i) (by omega) (by omega)).trans ?_; refine (if_neg (show ¬ ((gI g147 231 8).toInt ≤ (i) ∧ (i) < (gI g147 231 8).toInt + 4) from fun z => by omega)).trans ?_; refine (w154 (i) (by omega) (by omega)).trans ?_; refine (if_neg (show ¬ ((gI g137 231 8).toInt ≤ (i) ∧ (i) < (gI g137 231 8).toInt + 4) from fun z => by omega)).trans ?_; refine (w144 (i) (by omega) (by omega)).trans ?_; refine (if_pos (show (gI g127 231 8).toInt ≤ (i) ∧ (i) < (gI g127 231 8).toInt + 4 from ⟨by omega, by omega⟩)).trans ?_; exact congrArg (BYT _) (by omega)); (refine Eq.trans ?_ (if_neg (show ¬ ((gI g0 231 8).toInt ≤ 380 ∧ (gI g0 231 8).toInt + 0 ≤ i ∧ i < (gI g0 231 8).toInt + 4) from fun z => by omega)).symm; refine Eq.trans ?_ (if_neg (show ¬ ((gI g0 231 8).toInt ≤ 380 ∧ (gI g0 231 8).toInt + 4 ≤ i ∧ i < (gI g0 231 8).toInt + 8) from fun z => by omega)).symm; refine Eq.trans ?_ (if_neg (show ¬ ((gI g0 231 8).toInt ≤ 380 ∧ (gI g0 231 8).toInt + 8 ≤ i ∧ i < (gI g0 231 8).toInt + 12) from fun z => by omega)).symm; refine Eq.trans ?_ (if_pos (show (gI g0 231 8).toInt ≤ 380 ∧ (gI g0 231 8).toInt + 12 ≤ i ∧ i < (gI g0 231 8).toInt + 16 from ⟨by omega, by omega, by omega⟩)).symm; refine (w164 (i) (by omega) (by omega)).trans ?_; refine (if_neg (show ¬ ((gI g147 231 8).toInt ≤ (i) ∧ (i) < (gI g147 231 8).toInt + 4) from fun z => by omega)).trans ?_; refine (w154 (i) (by omega) (by omega)).trans ?_; refine (if_pos (show (gI g137 231 8).toInt ≤ (i) ∧ (i) < (gI g137 231 8).toInt + 4 from ⟨by omega, by omega⟩)).trans ?_; exact congrArg (BYT _) (by omega)); (refine Eq.trans ?_ (if_neg (show ¬ ((gI g0 231 8).toInt ≤ 380 ∧ (gI g0 231 8).toInt + 0 ≤ i ∧ i < (gI g0 231 8).toInt + 4) from fun z => by omega)).symm; refine Eq.trans ?_ (if_neg (show ¬ ((gI g0 231 8).toInt ≤ 380 ∧ (gI g0 231 8).toInt + 4 ≤ i ∧ i < (gI g0 231 8).toInt + 8) from fun z => by omega)).symm; refine Eq.trans ?_ (if_neg (show ¬ ((gI g0 231 8).toInt ≤ 380 ∧ (gI g0 231 8).toInt + 8 ≤ i ∧ i < (gI g0 231 8).toInt + 12) from fun z => by omega)).symm; refine Eq.trans ?_ (if_neg (show ¬ ((gI g0 231 8).toInt ≤ 380 ∧ (gI g0 231 8).toInt + 12 ≤ i ∧ i < (gI g0 231 8).toInt + 16) from fun z => by omega)).symm; refine Eq.trans ?_ (if_pos (show (gI g0 231 8).toInt ≤ 380 ∧ (gI g0 231 8).toInt + 16 ≤ i ∧ i < (gI g0 231 8).toInt + 20 from ⟨by omega, by omega, by omega⟩)).symm; refine (w164 (i) (by omega) (by omega)).trans ?_; refine (if_pos (show (gI g147 231 8).toInt ≤ (i) ∧ (i) < (gI g147 231 8).toInt + 4 from ⟨by omega, by omega⟩)).trans ?_; exact congrArg (BYT _) (by omega)); (refine Eq.trans ?_ (if_neg (show ¬ ((gI g0 231 8).toInt ≤ 380 ∧ (gI g0 231 8).toInt + 0 ≤ i ∧ i < (gI g0 231 8).toInt + 4) from fun z => by omega)).symm; refine Eq.trans ?_ (if_neg (show ¬ ((gI g0 231 8).toInt ≤ 380 ∧ (gI g0 231 8).toInt + 4 ≤ i ∧ i < (gI g0 231 8).toInt + 8) from fun z => by omega)).symm; refine Eq.trans ?_ (if_neg (show ¬ ((gI g0 231 8).toInt ≤ 380 ∧ (gI g0 231 8).toInt + 8 ≤ i ∧ i < (gI g0 231 8).toInt + 12) from fun z => by omega)).symm; refine Eq.trans ?_ (if_neg (show ¬ ((gI g0 231 8).toInt ≤ 380 ∧ (gI g0 231 8).toInt + 12 ≤ i ∧ i < (gI g0 231 8).toInt + 16) from fun z => by omega)).symm; refine Eq.trans ?_ (if_neg (show ¬ ((gI g0 231 8).toInt ≤ 380 ∧ (gI g0 231 8).toInt + 16 ≤ i ∧ i < (gI g0 231 8).toInt + 20) from fun z => by omega)).symm; refine (w164 (i) (by omega) (by omega)).trans ?_; refine (if_neg (show ¬ ((gI g147 231 8).toInt ≤ (i) ∧ (i) < (gI g147 231 8).toInt + 4) from fun z => by omega)).trans ?_; refine (w154 (i) (by omega) (by omega)).trans ?_; refine (if_neg (show ¬ ((gI g137 231 8).toInt ≤ (i) ∧ (i) < (gI g137 231 8).toInt + 4) from fun z => by omega)).trans ?_; refine (w144 (i) (by omega) (by omega)).trans ?_; refine (if_neg (show ¬ ((gI g127 231 8).toInt ≤ (i) ∧ (i) < (gI g127 231 8).toInt + 4) from fun z => by omega)).trans ?_; refine (w134 (i) (by omega) (by omega)).trans ?_; refine (if_neg (show ¬ ((gI g116 231 8).toInt ≤ (i) ∧ (i) < (gI g116 231 8).toInt + 4) from fun z => by omega)).trans ?_; refine (fq125 (i) (by omega) (by omega)).trans ?_; refine (if_neg (show ¬ ((gI g0 231 8).toInt ≤ (i) ∧ (i) < (gI g0 231 8).toInt + 4) from fun z => by omega)).trans ?_; exact eA_ti ((gA_sI))))⟩⟩
  · have c115_ : v114.toInt > 400 := en_i_le_f c115
    refine At.enter rfl ?_
    refine r_iconst (-1) rfl ?_
    refine r_ireti ?_
    have zv169 : ((-1) : Int32).toInt = (-1) := rfl
    have x170 := HI.eqI hI111 (p := 231) (b := 8) (((gI_sI_ne (by decide)).trans hv113))
    have x171 := HI.eqI hI0 (p := 231) (b := 8) (hv113)
    exact ⟨_, rfl, hI111, hF112, _, rfl, by decide, ⟨(by omega), (by intro i i0 i1; refine Eq.trans ?_ (if_neg (show ¬ ((gI g0 231 8).toInt ≤ 380 ∧ (gI g0 231 8).toInt + 0 ≤ i ∧ i < (gI g0 231 8).toInt + 4) from by omega)).symm; refine Eq.trans ?_ (if_neg (show ¬ ((gI g0 231 8).toInt ≤ 380 ∧ (gI g0 231 8).toInt + 4 ≤ i ∧ i < (gI g0 231 8).toInt + 8) from by omega)).symm; refine Eq.trans ?_ (if_neg (show ¬ ((gI g0 231 8).toInt ≤ 380 ∧ (gI g0 231 8).toInt + 8 ≤ i ∧ i < (gI g0 231 8).toInt + 12) from by omega)).symm; refine Eq.trans ?_ (if_neg (show ¬ ((gI g0 231 8).toInt ≤ 380 ∧ (gI g0 231 8).toInt + 12 ≤ i ∧ i < (gI g0 231 8).toInt + 16) from by omega)).symm; refine Eq.trans ?_ (if_neg (show ¬ ((gI g0 231 8).toInt ≤ 380 ∧ (gI g0 231 8).toInt + 16 ≤ i ∧ i < (gI g0 231 8).toInt + 20) from by omega)).symm; refine (eA_ti ((gA_sI))).trans ?_; (first | rfl | exact eA_ix (by omega) | omega))⟩⟩

def F_X11_force_231 : List (Nat × Nat) := [(231, 0), (231, 1)]
def A_X11_force_231 : List Nat := [232, 233]
set_option maxRecDepth 100000 in
set_option maxHeartbeats 4000000 in
theorem T_X11_force_231 (d : Nat) {N : Nat} {g0 : List en_E} (hI0 : HI g0) (a1 : Int32) : Ev (d + 3) 211 [.ref 231, .int a1] (g0, N) (fun w h' => ∃ g', h' = (g', N) ∧ HI g' ∧ Fr F_X11_force_231 A_X11_force_231 g0 g' ∧ ∃ r : Int32, w = some (.int r) ∧ ((-2) ≤ r.toInt ∧ r.toInt ≤ 5) ∧ (((eA g' 233 0).toInt = (eA g0 233 0).toInt ∧ (eA g' 233 4).toInt = (eA g0 233 4).toInt ∧ (eA g' 233 5).toInt = (eA g0 233 5).toInt ∧ (eA g' 233 6).toInt = (eA g0 233 6).toInt ∧ (eA g' 233 1).toInt = (eA g0 233 1).toInt) ∧ (∀ i : Int, 10 ≤ i → i < 110 → (eA g' 233 (i)).toInt = (eA g0 233 (i)).toInt))) := by
  have hF0 : Fr F_X11_force_231 A_X11_force_231 g0 g0 := Fr.rf
  refine Ev.mk rfl rfl ⟨Nat.le_of_ble_eq_true rfl, Or.inr (q_rc hI0.1 kx_231 rfl)⟩ ?_
  show At _ none _ _ (0, [(0, .ref 231), (1, .int a1)], [], (_, _)) _
  refine At.enter rfl ?_
  refine r_aload_n rfl ?_
  refine r_iconst 0 rfl ?_
  refine q_putI (Sh.int hI0.1 kx_231 rfl) rfl ?_
  have hI73 := HI.wI0 hI0 kx_231 rfl (p := 231) (b := 0) (v := 0) rfl
  have hF74 := Fr.wI (p := 231) (b := 0) (v := 0) hF0 rfl
  refine r_iload_n rfl ?_
  refine r_iconst (-1) rfl ?_
  refine r_ics 10 rfl (fun c75 => ?_) (fun c75 => ?_)
  · have c75_ : a1.toInt = (-1) := en_i_eq_t c75
    refine At.enter rfl ?_
    refine r_aload_n rfl ?_
    refine r_iconst 3 rfl ?_
    refine r_iload_n rfl ?_
    refine q_inlV 34 rfl [.ref 231, .int 3, .int a1] [] (Nat.le_of_ble_eq_true rfl) rfl ?_
    refine Ev.mk rfl rfl ⟨Nat.le_of_ble_eq_true rfl, Or.inr (q_rc hI73.1 kx_231 rfl)⟩ ?_
    show At _ none _ _ (0, [(0, .ref 231), (1, .int 3), (2, .int a1)], [], (_, _)) _
    refine At.enter rfl ?_
    refine r_aload_n rfl ?_
    refine q_getR (Sh.ref hI73.1 kx_231 rfl) ?_
    refine r_iload_n rfl ?_
    obtain ⟨v76, hv76⟩ : ∃ v, eA g0 233 3 = v := ⟨_, rfl⟩
    have wv76 := HI.t3 hI0
    rw [hv76] at wv76
    refine q_iald (Sh.arr hI73.1 ka_233) 3 rfl (by decide) v76 ((eA_c (gA_sI)).trans hv76) ?_
    refine r_istore_n ([(3, .int v76), (0, .ref 231), (1, .int 3), (2, .int a1)]) rfl ?_
    refine r_aload_n rfl ?_
    refine q_getR (Sh.ref hI73.1 kx_231 rfl) ?_
    refine r_iload_n rfl ?_
    refine r_iload_n rfl ?_
    refine q_iast (Sh.arr hI73.1 ka_233) (3) rfl (by decide) ?_
    obtain ⟨v79, hv79⟩ : ∃ v, eA g0 233 2 = v := ⟨_, rfl⟩
    have tv79 := congrArg Int32.toInt hv79
    have wv79 := HI.t2 hI0
    rw [hv79] at wv79
    have tv79 := congrArg Int32.toInt hv79
    have x80 := HI.eqA hI73 (p := 233) (j := 2) (((eA_c gA_sI).trans hv79))
    have hI77 := HI.wt hI73 (j := 3) (v := a1) (by omega) (by omega)
    have hF78 := Fr.wA (p := 233) (j := 3) (v := a1) hF74 rfl
    refine r_aload_n rfl ?_
    refine r_iload_n rfl ?_
    refine q_inlV 19 rfl [.ref 231, .int v76] [] (Nat.le_of_ble_eq_true rfl) rfl ?_
    refine Ev.mk rfl rfl ⟨Nat.le_of_ble_eq_true rfl, Or.inr (q_rc hI77.1 kx_231 rfl)⟩ ?_
    show At _ none _ _ (0, [(0, .ref 231), (1, .int v76)], [], (_, _)) _
    refine At.enter rfl ?_
    refine r_aload_n rfl ?_
    refine r_iconst 0 rfl ?_
    refine q_putI (Sh.int hI77.1 kx_231 rfl) rfl ?_
    have hI81 := HI.wI0 hI77 kx_231 rfl (p := 231) (b := 1) (v := 0) rfl
    have hF82 := Fr.wI (p := 231) (b := 1) (v := 0) hF78 rfl
    refine r_iload_n rfl ?_
    refine q_ireti ?_
    refine At.enter rfl ?_
    refine q_ireti ?_
    refine At.enter rfl ?_
    refine r_goto ?_
    refine At.enter rfl ?_
    refine r_ireti ?_
    obtain ⟨v83, hv83⟩ : ∃ v, eA g0 233 0 = v := ⟨_, rfl⟩
    have tv83 := congrArg Int32.toInt hv83
    have wv83 := HI.t0 hI0
    rw [hv83] at wv83
    have tv83 := congrArg Int32.toInt hv83
    have x84 := HI.eqA hI81 (p := 233) (j := 0) ((((eA_c gA_sI).trans ((eA_sA_ne hI73.1 ka_233 (by first | decide | omega) (by first | decide | omega) (by first | decide | omega)).trans (eA_c gA_sI))).trans hv83))
    obtain ⟨v85, hv85⟩ : ∃ v, eA g0 233 4 = v := ⟨_, rfl⟩
    have wv85 := HI.t4 hI0
    rw [hv85] at wv85
    have tv85 := congrArg Int32.toInt hv85
    have x86 := HI.eqA hI81 (p := 233) (j := 4) ((((eA_c gA_sI).trans ((eA_sA_ne hI73.1 ka_233 (by first | decide | omega) (by first | decide | omega) (by first | decide | omega)).trans (eA_c gA_sI))).trans hv85))
    obtain ⟨v87, hv87⟩ : ∃ v, eA g0 233 5 = v := ⟨_, rfl⟩
    have wv87 := HI.t5 hI0
    rw [hv87] at wv87
    have tv87 := congrArg Int32.toInt hv87
    have x88 := HI.eqA hI81 (p := 233) (j := 5) ((((eA_c gA_sI).trans ((eA_sA_ne hI73.1 ka_233 (by first | decide | omega) (by first | decide | omega) (by first | decide | omega)).trans (eA_c gA_sI))).trans hv87))
    obtain ⟨v89, hv89⟩ : ∃ v, eA g0 233 6 = v := ⟨_, rfl⟩
    have wv89 := HI.t6 hI0
    rw [hv89] at wv89
    have tv89 := congrArg Int32.toInt hv89
    have x90 := HI.eqA hI81 (p := 233) (j := 6) ((((eA_c gA_sI).trans ((eA_sA_ne hI73.1 ka_233 (by first | decide | omega) (by first | decide | omega) (by first | decide | omega)).trans (eA_c gA_sI))).trans hv89))
    obtain ⟨v91, hv91⟩ : ∃ v, eA g0 233 1 = v := ⟨_, rfl⟩
    have tv91 := congrArg Int32.toInt hv91
    have wv91 := HI.t1 hI0
    rw [hv91] at wv91
    have tv91 := congrArg Int32.toInt hv91
    have x92 := HI.eqA hI81 (p := 233) (j := 1) ((((eA_c gA_sI).trans ((eA_sA_ne hI73.1 ka_233 (by first | decide | omega) (by first | decide | omega) (by first | decide | omega)).trans (eA_c gA_sI))).trans hv91))
    have x93 := HI.eqA hI0 (p := 233) (j := 0) (hv83)
    have x94 := HI.eqA hI0 (p := 233) (j := 4) (hv85)
    have x95 := HI.eqA hI0 (p := 233) (j := 5) (hv87)
    have x96 := HI.eqA hI0 (p := 233) (j := 6) (hv89)
    have x97 := HI.eqA hI0 (p := 233) (j := 1) (hv91)
    exact ⟨_, rfl, hI81, hF82, _, rfl, by omega, ⟨⟨by omega, by omega, by omega, by omega, by omega⟩, (by intro i i0 i1; refine (eA_ti ((gA_sI))).trans ?_; exact (Decidable.em (i = 3)).elim (fun k351_ => by refine (eA_eqT hI73.1 ka_233 k351_ (by first | decide | omega) (by first | decide | omega)).trans ?_; (first | (rfl) | (omega))) (fun k351_ => by refine (eA_neT hI73.1 ka_233 k351_ (by first | decide | omega) (by omega)).trans ?_; refine (eA_ti ((gA_sI))).trans ?_; (first | rfl | exact eA_ix (by omega) | omega)))⟩⟩
  · have c75_ : a1.toInt ≠ (-1) := en_i_eq_f c75
    refine At.enter rfl ?_
    refine r_iload_n rfl ?_
    refine q_i2l (fun v98 hv98 => ?_)
    refine r_lconst 0 rfl ?_
    refine r_aload_n rfl ?_
    refine q_getR (Sh.ref hI73.1 kx_231 rfl) ?_
    refine r_iconst 2 rfl ?_
    obtain ⟨v99, hv99⟩ : ∃ v, eA g0 233 2 = v := ⟨_, rfl⟩
    have tv99 := congrArg Int32.toInt hv99
    have wv99 := HI.t2 hI0
    rw [hv99] at wv99
    refine q_iald (Sh.arr hI73.1 ka_233) 2 rfl (by decide) v99 ((eA_c (gA_sI)).trans hv99) ?_
    refine q_i2l (fun v100 hv100 => ?_)
    refine r_lconst 1 rfl ?_
    refine q_lsub (v100.toInt - 1) rfl (by omega) (fun v101 hv101 => ?_)
    refine q_inlS 25 rfl [.long v98, .long 0, .long v101] [] (Nat.le_of_ble_eq_true rfl) rfl ?_
    refine Ev.mk rfl rfl ⟨Nat.le_of_ble_eq_true rfl, Or.inl rfl⟩ ?_
    show At _ none _ _ (0, [(0, .long v98), (2, .long 0), (4, .long v101)], [], (_, _)) _
    refine At.enter rfl ?_
    refine r_lload_n rfl ?_
    refine r_lload_n rfl ?_
    refine r_lcmp _ rfl ?_
    refine r_ifs 6 rfl (fun c102 => ?_) (fun c102 => ?_)
    · have c102_ : v98.toInt < 0 := en_j_lt_t c102
      refine At.enter rfl ?_
      refine r_iconst 0 rfl ?_
      refine Ar.fall 18 rfl ?_
      refine At.enter rfl ?_
      refine q_iretz (by decide) ?_
      refine At.enter rfl ?_
      refine r_ift (by decide) ?_
      refine At.enter rfl ?_
      refine r_aload_n rfl ?_
      refine r_bipush (-2) rfl ?_
      refine r_callV 43 rfl [.ref 231, .int (-2)] [] (Nat.le_of_ble_eq_true rfl) rfl (T_X11_tell_231 _ hI73 (-2) (by decide)) ?_
      rintro _ _ ⟨g103, rfl, hI104, hF105, v106, rfl, hr107⟩
      refine At.sti ?_
      have hF108 := Fr.tr hF74 hF105 rfl rfl
      have zv109 : ((-2) : Int32).toInt = (-2) := rfl
      refine At.enter rfl ?_
      refine r_ireti ?_
      obtain ⟨v110, hv110⟩ : ∃ v, eA g0 233 0 = v := ⟨_, rfl⟩
      have tv110 := congrArg Int32.toInt hv110
      have wv110 := HI.t0 hI0
      rw [hv110] at wv110
      have tv110 := congrArg Int32.toInt hv110
      have x111 := HI.eqA hI104 (p := 233) (j := 0) ((((eA_c (hF105.2.1 233 (by decide))).trans (eA_c gA_sI)).trans hv110))
      obtain ⟨v112, hv112⟩ : ∃ v, eA g0 233 4 = v := ⟨_, rfl⟩
      have wv112 := HI.t4 hI0
      rw [hv112] at wv112
      have tv112 := congrArg Int32.toInt hv112
      have x113 := HI.eqA hI104 (p := 233) (j := 4) ((((eA_c (hF105.2.1 233 (by decide))).trans (eA_c gA_sI)).trans hv112))
      obtain ⟨v114, hv114⟩ : ∃ v, eA g0 233 5 = v := ⟨_, rfl⟩
      have wv114 := HI.t5 hI0
      rw [hv114] at wv114
      have tv114 := congrArg Int32.toInt hv114
      have x115 := HI.eqA hI104 (p := 233) (j := 5) ((((eA_c (hF105.2.1 233 (by decide))).trans (eA_c gA_sI)).trans hv114))
      obtain ⟨v116, hv116⟩ : ∃ v, eA g0 233 6 = v := ⟨_, rfl⟩
      have wv116 := HI.t6 hI0
      rw [hv116] at wv116
      have tv116 := congrArg Int32.toInt hv116
      have x117 := HI.eqA hI104 (p := 233) (j := 6) ((((eA_c (hF105.2.1 233 (by decide))).trans (eA_c gA_sI)).trans hv116))
      obtain ⟨v118, hv118⟩ : ∃ v, eA g0 233 1 = v := ⟨_, rfl⟩
      have tv118 := congrArg Int32.toInt hv118
      have wv118 := HI.t1 hI0
      rw [hv118] at wv118
      have tv118 := congrArg Int32.toInt hv118
      have x119 := HI.eqA hI104 (p := 233) (j := 1) ((((eA_c (hF105.2.1 233 (by decide))).trans (eA_c gA_sI)).trans hv118))
      have x120 := HI.eqA hI0 (p := 233) (j := 0) (hv110)
      have x121 := HI.eqA hI0 (p := 233) (j := 4) (hv112)
      have x122 := HI.eqA hI0 (p := 233) (j := 5) (hv114)
      have x123 := HI.eqA hI0 (p := 233) (j := 6) (hv116)
      have x124 := HI.eqA hI0 (p := 233) (j := 1) (hv118)
      exact ⟨_, rfl, hI104, hF108, _, rfl, by omega, ⟨⟨by omega, by omega, by omega, by omega, by omega⟩, (by intro i i0 i1; refine (eA_ti (((hF105.2.1 233 (by decide)).trans (gA_sI)))).trans ?_; (first | rfl | exact eA_ix (by omega) | omega))⟩⟩
    · have c102_ : v98.toInt ≥ 0 := en_j_lt_f c102
      refine At.enter rfl ?_
      refine r_lload_n rfl ?_
      refine r_lload rfl ?_
      refine r_lcmp _ rfl ?_
      refine r_ifs 13 rfl (fun c125 => ?_) (fun c125 => ?_)
      · have c125_ : v98.toInt > v101.toInt := en_j_gt_t c125
        refine At.enter rfl ?_
        refine r_iconst 0 rfl ?_
        refine Ar.fall 18 rfl ?_
        refine At.enter rfl ?_
        refine q_iretz (by decide) ?_
        refine At.enter rfl ?_
        refine r_ift (by decide) ?_
        refine At.enter rfl ?_
        refine r_aload_n rfl ?_
        refine r_bipush (-2) rfl ?_
        refine r_callV 43 rfl [.ref 231, .int (-2)] [] (Nat.le_of_ble_eq_true rfl) rfl (T_X11_tell_231 _ hI73 (-2) (by decide)) ?_
        rintro _ _ ⟨g126, rfl, hI127, hF128, v129, rfl, hr130⟩
        refine At.sti ?_
        have hF131 := Fr.tr hF74 hF128 rfl rfl
        have zv132 : ((-2) : Int32).toInt = (-2) := rfl
        refine At.enter rfl ?_
        refine r_ireti ?_
        obtain ⟨v133, hv133⟩ : ∃ v, eA g0 233 0 = v := ⟨_, rfl⟩
        have tv133 := congrArg Int32.toInt hv133
        have wv133 := HI.t0 hI0
        rw [hv133] at wv133
        have tv133 := congrArg Int32.toInt hv133
        have x134 := HI.eqA hI127 (p := 233) (j := 0) ((((eA_c (hF128.2.1 233 (by decide))).trans (eA_c gA_sI)).trans hv133))
        obtain ⟨v135, hv135⟩ : ∃ v, eA g0 233 4 = v := ⟨_, rfl⟩
        have wv135 := HI.t4 hI0
        rw [hv135] at wv135
        have tv135 := congrArg Int32.toInt hv135
        have x136 := HI.eqA hI127 (p := 233) (j := 4) ((((eA_c (hF128.2.1 233 (by decide))).trans (eA_c gA_sI)).trans hv135))
        obtain ⟨v137, hv137⟩ : ∃ v, eA g0 233 5 = v := ⟨_, rfl⟩
        have wv137 := HI.t5 hI0
        rw [hv137] at wv137
        have tv137 := congrArg Int32.toInt hv137
        have x138 := HI.eqA hI127 (p := 233) (j := 5) ((((eA_c (hF128.2.1 233 (by decide))).trans (eA_c gA_sI)).trans hv137))
        obtain ⟨v139, hv139⟩ : ∃ v, eA g0 233 6 = v := ⟨_, rfl⟩
        have wv139 := HI.t6 hI0
        rw [hv139] at wv139
        have tv139 := congrArg Int32.toInt hv139
        have x140 := HI.eqA hI127 (p := 233) (j := 6) ((((eA_c (hF128.2.1 233 (by decide))).trans (eA_c gA_sI)).trans hv139))
        obtain ⟨v141, hv141⟩ : ∃ v, eA g0 233 1 = v := ⟨_, rfl⟩
        have tv141 := congrArg Int32.toInt hv141
        have wv141 := HI.t1 hI0
        rw [hv141] at wv141
        have tv141 := congrArg Int32.toInt hv141
        have x142 := HI.eqA hI127 (p := 233) (j := 1) ((((eA_c (hF128.2.1 233 (by decide))).trans (eA_c gA_sI)).trans hv141))
        have x143 := HI.eqA hI0 (p := 233) (j := 0) (hv133)
        have x144 := HI.eqA hI0 (p := 233) (j := 4) (hv135)
        have x145 := HI.eqA hI0 (p := 233) (j := 5) (hv137)
        have x146 := HI.eqA hI0 (p := 233) (j := 6) (hv139)
        have x147 := HI.eqA hI0 (p := 233) (j := 1) (hv141)
        exact ⟨_, rfl, hI127, hF131, _, rfl, by omega, ⟨⟨by omega, by omega, by omega, by omega, by omega⟩, (by intro i i0 i1; refine (eA_ti (((hF128.2.1 233 (by decide)).trans (gA_sI)))).trans ?_; (first | rfl | exact eA_ix (by omega) | omega))⟩⟩
      · have c125_ : v98.toInt ≤ v101.toInt := en_j_gt_f c125
        refine At.enter rfl ?_
        refine r_iconst 1 rfl ?_
        refine r_goto ?_
        refine At.enter rfl ?_
        refine q_iretz (by decide) ?_
        refine At.enter rfl ?_
        refine r_iff 28 rfl (by decide) ?_
        refine At.enter rfl ?_
        refine r_aload_n rfl ?_
        refine r_iconst 3 rfl ?_
        refine r_iload_n rfl ?_
        refine q_inlV 34 rfl [.ref 231, .int 3, .int a1] [] (Nat.le_of_ble_eq_true rfl) rfl ?_
        refine Ev.mk rfl rfl ⟨Nat.le_of_ble_eq_true rfl, Or.inr (q_rc hI73.1 kx_231 rfl)⟩ ?_
        show At _ none _ _ (0, [(0, .ref 231), (1, .int 3), (2, .int a1)], [], (_, _)) _
        refine At.enter rfl ?_
        refine r_aload_n rfl ?_
        refine q_getR (Sh.ref hI73.1 kx_231 rfl) ?_
        refine r_iload_n rfl ?_
        obtain ⟨v148, hv148⟩ : ∃ v, eA g0 233 3 = v := ⟨_, rfl⟩
        have wv148 := HI.t3 hI0
        rw [hv148] at wv148
        refine q_iald (Sh.arr hI73.1 ka_233) 3 rfl (by decide) v148 ((eA_c (gA_sI)).trans hv148) ?_
        refine r_istore_n ([(3, .int v148), (0, .ref 231), (1, .int 3), (2, .int a1)]) rfl ?_
        refine r_aload_n rfl ?_
        refine q_getR (Sh.ref hI73.1 kx_231 rfl) ?_
        refine r_iload_n rfl ?_
        refine r_iload_n rfl ?_
        refine q_iast (Sh.arr hI73.1 ka_233) (3) rfl (by decide) ?_
        have x151 := HI.eqA hI73 (p := 233) (j := 2) (((eA_c gA_sI).trans hv99))
        have hI149 := HI.wt hI73 (j := 3) (v := a1) (by omega) (by omega)
        have hF150 := Fr.wA (p := 233) (j := 3) (v := a1) hF74 rfl
        refine r_aload_n rfl ?_
        refine r_iload_n rfl ?_
        refine q_inlV 19 rfl [.ref 231, .int v148] [] (Nat.le_of_ble_eq_true rfl) rfl ?_
        refine Ev.mk rfl rfl ⟨Nat.le_of_ble_eq_true rfl, Or.inr (q_rc hI149.1 kx_231 rfl)⟩ ?_
        show At _ none _ _ (0, [(0, .ref 231), (1, .int v148)], [], (_, _)) _
        refine At.enter rfl ?_
        refine r_aload_n rfl ?_
        refine r_iconst 0 rfl ?_
        refine q_putI (Sh.int hI149.1 kx_231 rfl) rfl ?_
        have hI152 := HI.wI0 hI149 kx_231 rfl (p := 231) (b := 1) (v := 0) rfl
        have hF153 := Fr.wI (p := 231) (b := 1) (v := 0) hF150 rfl
        refine r_iload_n rfl ?_
        refine q_ireti ?_
        refine At.enter rfl ?_
        refine q_ireti ?_
        refine At.enter rfl ?_
        refine r_goto ?_
        refine At.enter rfl ?_
        refine r_ireti ?_
        obtain ⟨v154, hv154⟩ : ∃ v, eA g0 233 0 = v := ⟨_, rfl⟩
        have tv154 := congrArg Int32.toInt hv154
        have wv154 := HI.t0 hI0
        rw [hv154] at wv154
        have tv154 := congrArg Int32.toInt hv154
        have x155 := HI.eqA hI152 (p := 233) (j := 0) ((((eA_c gA_sI).trans ((eA_sA_ne hI73.1 ka_233 (by first | decide | omega) (by first | decide | omega) (by first | decide | omega)).trans (eA_c gA_sI))).trans hv154))
        obtain ⟨v156, hv156⟩ : ∃ v, eA g0 233 4 = v := ⟨_, rfl⟩
        have wv156 := HI.t4 hI0
        rw [hv156] at wv156
        have tv156 := congrArg Int32.toInt hv156
        have x157 := HI.eqA hI152 (p := 233) (j := 4) ((((eA_c gA_sI).trans ((eA_sA_ne hI73.1 ka_233 (by first | decide | omega) (by first | decide | omega) (by first | decide | omega)).trans (eA_c gA_sI))).trans hv156))
        obtain ⟨v158, hv158⟩ : ∃ v, eA g0 233 5 = v := ⟨_, rfl⟩
        have wv158 := HI.t5 hI0
        rw [hv158] at wv158
        have tv158 := congrArg Int32.toInt hv158
        have x159 := HI.eqA hI152 (p := 233) (j := 5) ((((eA_c gA_sI).trans ((eA_sA_ne hI73.1 ka_233 (by first | decide | omega) (by first | decide | omega) (by first | decide | omega)).trans (eA_c gA_sI))).trans hv158))
        obtain ⟨v160, hv160⟩ : ∃ v, eA g0 233 6 = v := ⟨_, rfl⟩
        have wv160 := HI.t6 hI0
        rw [hv160] at wv160
        have tv160 := congrArg Int32.toInt hv160
        have x161 := HI.eqA hI152 (p := 233) (j := 6) ((((eA_c gA_sI).trans ((eA_sA_ne hI73.1 ka_233 (by first | decide | omega) (by first | decide | omega) (by first | decide | omega)).trans (eA_c gA_sI))).trans hv160))
        obtain ⟨v162, hv162⟩ : ∃ v, eA g0 233 1 = v := ⟨_, rfl⟩
        have tv162 := congrArg Int32.toInt hv162
        have wv162 := HI.t1 hI0
        rw [hv162] at wv162
        have tv162 := congrArg Int32.toInt hv162
        have x163 := HI.eqA hI152 (p := 233) (j := 1) ((((eA_c gA_sI).trans ((eA_sA_ne hI73.1 ka_233 (by first | decide | omega) (by first | decide | omega) (by first | decide | omega)).trans (eA_c gA_sI))).trans hv162))
        have x164 := HI.eqA hI0 (p := 233) (j := 0) (hv154)
        have x165 := HI.eqA hI0 (p := 233) (j := 4) (hv156)
        have x166 := HI.eqA hI0 (p := 233) (j := 5) (hv158)
        have x167 := HI.eqA hI0 (p := 233) (j := 6) (hv160)
        have x168 := HI.eqA hI0 (p := 233) (j := 1) (hv162)
        exact ⟨_, rfl, hI152, hF153, _, rfl, by omega, ⟨⟨by omega, by omega, by omega, by omega, by omega⟩, (by intro i i0 i1; refine (eA_ti ((gA_sI))).trans ?_; exact (Decidable.em (i = 3)).elim (fun k352_ => by refine (eA_eqT hI73.1 ka_233 k352_ (by first | decide | omega) (by first | decide | omega)).trans ?_; (first | (rfl) | (omega))) (fun k352_ => by refine (eA_neT hI73.1 ka_233 k352_ (by first | decide | omega) (by omega)).trans ?_; refine (eA_ti ((gA_sI))).trans ?_; (first | rfl | exact eA_ix (by omega) | omega)))⟩⟩

def F_X11_swap_231 : List (Nat × Nat) := [(231, 0), (231, 1)]
def A_X11_swap_231 : List Nat := [232, 233]
set_option maxRecDepth 100000 in
set_option maxHeartbeats 4000000 in
theorem T_X11_swap_231 (d : Nat) {N : Nat} {g0 : List en_E} (hI0 : HI g0) (a1 : Int32) (a2 : Int32) : Ev (d + 3) 240 [.ref 231, .int a1, .int a2] (g0, N) (fun w h' => ∃ g', h' = (g', N) ∧ HI g' ∧ Fr F_X11_swap_231 A_X11_swap_231 g0 g' ∧ ∃ r : Int32, w = some (.int r) ∧ ((-3) ≤ r.toInt ∧ r.toInt ≤ 0) ∧ ((((¬ (0 ≤ a1.toInt ∧ a1.toInt < (eA g0 233 0).toInt ∧ 0 ≤ a2.toInt ∧ a2.toInt < (eA g0 233 0).toInt) → r.toInt = -2) ∧ ((0 ≤ a1.toInt ∧ a1.toInt < (eA g0 233 0).toInt ∧ 0 ≤ a2.toInt ∧ a2.toInt < (eA g0 233 0).toInt) ∧ a1.toInt = a2.toInt → r.toInt = -3) ∧ ((0 ≤ a1.toInt ∧ a1.toInt < (eA g0 233 0).toInt ∧ 0 ≤ a2.toInt ∧ a2.toInt < (eA g0 233 0).toInt) ∧ a1.toInt ≠ a2.toInt → r.toInt = 0)) ∧ (eA g' 233 0).toInt = (eA g0 233 0).toInt ∧ (eA g' 233 4).toInt = (eA g0 233 4).toInt ∧ (eA g' 233 5).toInt = (eA g0 233 5).toInt ∧ (eA g' 233 6).toInt = (eA g0 233 6).toInt ∧ (eA g' 233 1).toInt = (eA g0 233 1).toInt) ∧ (∀ i : Int, 10 ≤ i → i < 110 → (eA g' 233 (i)).toInt = if (0 ≤ a1.toInt ∧ a1.toInt < (eA g0 233 0).toInt ∧ 0 ≤ a2.toInt ∧ a2.toInt < (eA g0 233 0).toInt ∧ a1.toInt ≠ a2.toInt) ∧ i = 10 + 3 * a1.toInt + 1 then (eA g0 233 (10 + 3 * a2.toInt + 1)).toInt else if (0 ≤ a1.toInt ∧ a1.toInt < (eA g0 233 0).toInt ∧ 0 ≤ a2.toInt ∧ a2.toInt < (eA g0 233 0).toInt ∧ a1.toInt ≠ a2.toInt) ∧ i = 10 + 3 * a1.toInt + 2 then (eA g0 233 (10 + 3 * a2.toInt + 2)).toInt else if (0 ≤ a1.toInt ∧ a1.toInt < (eA g0 233 0).toInt ∧ 0 ≤ a2.toInt ∧ a2.toInt < (eA g0 233 0).toInt ∧ a1.toInt ≠ a2.toInt) ∧ i = 10 + 3 * a2.toInt + 1 then (eA g0 233 (10 + 3 * a1.toInt + 1)).toInt else if (0 ≤ a1.toInt ∧ a1.toInt < (eA g0 233 0).toInt ∧ 0 ≤ a2.toInt ∧ a2.toInt < (eA g0 233 0).toInt ∧ a1.toInt ≠ a2.toInt) ∧ i = 10 + 3 * a2.toInt + 2 then (eA g0 233 (10 + 3 * a1.toInt + 2)).toInt else (eA g0 233 (i)).toInt))) := by
  have hF0 : Fr F_X11_swap_231 A_X11_swap_231 g0 g0 := Fr.rf
  refine Ev.mk rfl rfl ⟨Nat.le_of_ble_eq_true rfl, Or.inr (q_rc hI0.1 kx_231 rfl)⟩ ?_
  show At _ none _ _ (0, [(0, .ref 231), (1, .int a1), (2, .int a2)], [], (_, _)) _
  refine At.enter rfl ?_
  refine r_aload_n rfl ?_
  refine r_iconst 0 rfl ?_
  refine q_putI (Sh.int hI0.1 kx_231 rfl) rfl ?_
  have hI357 := HI.wI0 hI0 kx_231 rfl (p := 231) (b := 0) (v := 0) rfl
  have hF358 := Fr.wI (p := 231) (b := 0) (v := 0) hF0 rfl
  refine r_aload_n rfl ?_
  refine r_iload_n rfl ?_
  refine q_inlV 10 rfl [.ref 231, .int a1] [] (Nat.le_of_ble_eq_true rfl) rfl ?_
  refine Ev.mk rfl rfl ⟨Nat.le_of_ble_eq_true rfl, Or.inr (q_rc hI357.1 kx_231 rfl)⟩ ?_
  show At _ none _ _ (0, [(0, .ref 231), (1, .int a1)], [], (_, _)) _
  refine At.enter rfl ?_
  refine r_iload_n rfl ?_
  refine q_i2l (fun v359 hv359 => ?_)
  refine r_lconst 0 rfl ?_
  refine r_aload_n rfl ?_
  refine q_getR (Sh.ref hI357.1 kx_231 rfl) ?_
  refine r_iconst 0 rfl ?_
  obtain ⟨v360, hv360⟩ : ∃ v, eA g0 233 0 = v := ⟨_, rfl⟩
  have tv360 := congrArg Int32.toInt hv360
  have wv360 := HI.t0 hI0
  rw [hv360] at wv360
  refine q_iald (Sh.arr hI357.1 ka_233) 0 rfl (by decide) v360 ((eA_c (gA_sI)).trans hv360) ?_
  refine q_i2l (fun v361 hv361 => ?_)
  refine r_lconst 1 rfl ?_
  refine q_lsub (v361.toInt - 1) rfl (by omega) (fun v362 hv362 => ?_)
  refine q_inlS 15 rfl [.long v359, .long 0, .long v362] [] (Nat.le_of_ble_eq_true rfl) rfl ?_
  refine Ev.mk rfl rfl ⟨Nat.le_of_ble_eq_true rfl, Or.inl rfl⟩ ?_
  show At _ none _ _ (0, [(0, .long v359), (2, .long 0), (4, .long v362)], [], (_, _)) _
  refine At.enter rfl ?_
  refine r_lload_n rfl ?_
  refine r_lload_n rfl ?_
  refine r_lcmp _ rfl ?_
  refine r_ifs 6 rfl (fun c363 => ?_) (fun c363 => ?_)
  · have c363_ : v359.toInt < 0 := en_j_lt_t c363
    refine At.enter rfl ?_
    refine r_iconst 0 rfl ?_
    refine Ar.fall 18 rfl ?_
    refine At.enter rfl ?_
    refine q_iretz (by decide) ?_
    refine At.enter rfl ?_
    refine q_iretz (by decide) ?_
    refine At.enter rfl ?_
    refine r_ift (by decide) ?_
    refine At.enter rfl ?_
    refine r_aload_n rfl ?_
    refine r_bipush (-2) rfl ?_
    refine r_callV 27 rfl [.ref 231, .int (-2)] [] (Nat.le_of_ble_eq_true rfl) rfl (T_X11_tell_231 _ hI357 (-2) (by decide)) ?_
    rintro _ _ ⟨g364, rfl, hI365, hF366, v367, rfl, hr368⟩
    refine At.sti ?_
    have hF369 := Fr.tr hF358 hF366 rfl rfl
    have zv370 : ((-2) : Int32).toInt = (-2) := rfl
    refine At.enter rfl ?_
    refine r_ireti ?_
    have x371 := HI.eqA hI365 (p := 233) (j := 0) ((((eA_c (hF366.2.1 233 (by decide))).trans (eA_c gA_sI)).trans hv360))
    obtain ⟨v372, hv372⟩ : ∃ v, eA g0 233 4 = v := ⟨_, rfl⟩
    have wv372 := HI.t4 hI0
    rw [hv372] at wv372
    have tv372 := congrArg Int32.toInt hv372
    have x373 := HI.eqA hI365 (p := 233) (j := 4) ((((eA_c (hF366.2.1 233 (by decide))).trans (eA_c gA_sI)).trans hv372))
    obtain ⟨v374, hv374⟩ : ∃ v, eA g0 233 5 = v := ⟨_, rfl⟩
    have wv374 := HI.t5 hI0
    rw [hv374] at wv374
    have tv374 := congrArg Int32.toInt hv374
    have x375 := HI.eqA hI365 (p := 233) (j := 5) ((((eA_c (hF366.2.1 233 (by decide))).trans (eA_c gA_sI)).trans hv374))
    obtain ⟨v376, hv376⟩ : ∃ v, eA g0 233 6 = v := ⟨_, rfl⟩
    have wv376 := HI.t6 hI0
    rw [hv376] at wv376
    have tv376 := congrArg Int32.toInt hv376
    have x377 := HI.eqA hI365 (p := 233) (j := 6) ((((eA_c (hF366.2.1 233 (by decide))).trans (eA_c gA_sI)).trans hv376))
    obtain ⟨v378, hv378⟩ : ∃ v, eA g0 233 1 = v := ⟨_, rfl⟩
    have tv378 := congrArg Int32.toInt hv378
    have wv378 := HI.t1 hI0
    rw [hv378] at wv378
    have tv378 := congrArg Int32.toInt hv378
    have x379 := HI.eqA hI365 (p := 233) (j := 1) ((((eA_c (hF366.2.1 233 (by decide))).trans (eA_c gA_sI)).trans hv378))
    have x380 := HI.eqA hI0 (p := 233) (j := 0) (hv360)
    have x381 := HI.eqA hI0 (p := 233) (j := 0) (hv360)
    have x382 := HI.eqA hI0 (p := 233) (j := 4) (hv372)
    have x383 := HI.eqA hI0 (p := 233) (j := 5) (hv374)
    have x384 := HI.eqA hI0 (p := 233) (j := 6) (hv376)
    have x385 := HI.eqA hI0 (p := 233) (j := 1) (hv378)
    have x386 := HI.eqA hI0 (p := 233) (j := 0) (hv360)
    exact ⟨_, rfl, hI365, hF369, _, rfl, by omega, ⟨⟨by omega, by omega, by omega, by omega, by omega, by omega⟩, (by intro i i0 i1; refine Eq.trans ?_ (if_neg (show ¬ ((0 ≤ a1.toInt ∧ a1.toInt < (eA g0 233 0).toInt ∧ 0 ≤ a2.toInt ∧ a2.toInt < (eA g0 233 0).toInt ∧ a1.toInt ≠ a2.toInt) ∧ i = 10 + 3 * a1.toInt + 1) from by omega)).symm; refine Eq.trans ?_ (if_neg (show ¬ ((0 ≤ a1.toInt ∧ a1.toInt < (eA g0 233 0).toInt ∧ 0 ≤ a2.toInt ∧ a2.toInt < (eA g0 233 0).toInt ∧ a1.toInt ≠ a2.toInt) ∧ i = 10 + 3 * a1.toInt + 2) from by omega)).symm; refine Eq.trans ?_ (if_neg (show ¬ ((0 ≤ a1.toInt ∧ a1.toInt < (eA g0 233 0).toInt ∧ 0 ≤ a2.toInt ∧ a2.toInt < (eA g0 233 0).toInt ∧ a1.toInt ≠ a2.toInt) ∧ i = 10 + 3 * a2.toInt + 1) from by omega)).symm; refine Eq.trans ?_ (if_neg (show ¬ ((0 ≤ a1.toInt ∧ a1.toInt < (eA g0 233 0).toInt ∧ 0 ≤ a2.toInt ∧ a2.toInt < (eA g0 233 0).toInt ∧ a1.toInt ≠ a2.toInt) ∧ i = 10 + 3 * a2.toInt + 2) from by omega)).symm; refine (eA_ti (((hF366.2.1 233 (by decide)).trans (gA_sI)))).trans ?_; (first | rfl | exact eA_ix (by omega) | omega))⟩⟩
  · have c363_ : v359.toInt ≥ 0 := en_j_lt_f c363
    refine At.enter rfl ?_
    refine r_lload_n rfl ?_
    refine r_lload rfl ?_
    refine r_lcmp _ rfl ?_
    refine r_ifs 13 rfl (fun c387 => ?_) (fun c387 => ?_)
    · have c387_ : v359.toInt > v362.toInt := en_j_gt_t c387
      refine At.enter rfl ?_
      refine r_iconst 0 rfl ?_
      refine Ar.fall 18 rfl ?_
      refine At.enter rfl ?_
      refine q_iretz (by decide) ?_
      refine At.enter rfl ?_
      refine q_iretz (by decide) ?_
      refine At.enter rfl ?_
      refine r_ift (by decide) ?_
      refine At.enter rfl ?_
      refine r_aload_n rfl ?_
      refine r_bipush (-2) rfl ?_
      refine r_callV 27 rfl [.ref 231, .int (-2)] [] (Nat.le_of_ble_eq_true rfl) rfl (T_X11_tell_231 _ hI357 (-2) (by decide)) ?_
      rintro _ _ ⟨g388, rfl, hI389, hF390, v391, rfl, hr392⟩
      refine At.sti ?_
      have hF393 := Fr.tr hF358 hF390 rfl rfl
      have zv394 : ((-2) : Int32).toInt = (-2) := rfl
      refine At.enter rfl ?_
      refine r_ireti ?_
      have x395 := HI.eqA hI389 (p := 233) (j := 0) ((((eA_c (hF390.2.1 233 (by decide))).trans (eA_c gA_sI)).trans hv360))
      obtain ⟨v396, hv396⟩ : ∃ v, eA g0 233 4 = v := ⟨_, rfl⟩
      have wv396 := HI.t4 hI0
      rw [hv396] at wv396
      have tv396 := congrArg Int32.toInt hv396
      have x397 := HI.eqA hI389 (p := 233) (j := 4) ((((eA_c (hF390.2.1 233 (by decide))).trans (eA_c gA_sI)).trans hv396))
      obtain ⟨v398, hv398⟩ : ∃ v, eA g0 233 5 = v := ⟨_, rfl⟩
      have wv398 := HI.t5 hI0
      rw [hv398] at wv398
      have tv398 := congrArg Int32.toInt hv398
      have x399 := HI.eqA hI389 (p := 233) (j := 5) ((((eA_c (hF390.2.1 233 (by decide))).trans (eA_c gA_sI)).trans hv398))
      obtain ⟨v400, hv400⟩ : ∃ v, eA g0 233 6 = v := ⟨_, rfl⟩
      have wv400 := HI.t6 hI0
      rw [hv400] at wv400
      have tv400 := congrArg Int32.toInt hv400
      have x401 := HI.eqA hI389 (p := 233) (j := 6) ((((eA_c (hF390.2.1 233 (by decide))).trans (eA_c gA_sI)).trans hv400))
      obtain ⟨v402, hv402⟩ : ∃ v, eA g0 233 1 = v := ⟨_, rfl⟩
      have tv402 := congrArg Int32.toInt hv402
      have wv402 := HI.t1 hI0
      rw [hv402] at wv402
      have tv402 := congrArg Int32.toInt hv402
      have x403 := HI.eqA hI389 (p := 233) (j := 1) ((((eA_c (hF390.2.1 233 (by decide))).trans (eA_c gA_sI)).trans hv402))
      have x404 := HI.eqA hI0 (p := 233) (j := 0) (hv360)
      have x405 := HI.eqA hI0 (p := 233) (j := 0) (hv360)
      have x406 := HI.eqA hI0 (p := 233) (j := 4) (hv396)
      have x407 := HI.eqA hI0 (p := 233) (j := 5) (hv398)
      have x408 := HI.eqA hI0 (p := 233) (j := 6) (hv400)
      have x409 := HI.eqA hI0 (p := 233) (j := 1) (hv402)
      have x410 := HI.eqA hI0 (p := 233) (j := 0) (hv360)
      exact ⟨_, rfl, hI389, hF393, _, rfl, by omega, ⟨⟨by omega, by omega, by omega, by omega, by omega, by omega⟩, (by intro i i0 i1; refine Eq.trans ?_ (if_neg (show ¬ ((0 ≤ a1.toInt ∧ a1.toInt < (eA g0 233 0).toInt ∧ 0 ≤ a2.toInt ∧ a2.toInt < (eA g0 233 0).toInt ∧ a1.toInt ≠ a2.toInt) ∧ i = 10 + 3 * a1.toInt + 1) from by omega)).symm; refine Eq.trans ?_ (if_neg (show ¬ ((0 ≤ a1.toInt ∧ a1.toInt < (eA g0 233 0).toInt ∧ 0 ≤ a2.toInt ∧ a2.toInt < (eA g0 233 0).toInt ∧ a1.toInt ≠ a2.toInt) ∧ i = 10 + 3 * a1.toInt + 2) from by omega)).symm; refine Eq.trans ?_ (if_neg (show ¬ ((0 ≤ a1.toInt ∧ a1.toInt < (eA g0 233 0).toInt ∧ 0 ≤ a2.toInt ∧ a2.toInt < (eA g0 233 0).toInt ∧ a1.toInt ≠ a2.toInt) ∧ i = 10 + 3 * a2.toInt + 1) from by omega)).symm; refine Eq.trans ?_ (if_neg (show ¬ ((0 ≤ a1.toInt ∧ a1.toInt < (eA g0 233 0).toInt ∧ 0 ≤ a2.toInt ∧ a2.toInt < (eA g0 233 0).toInt ∧ a1.toInt ≠ a2.toInt) ∧ i = 10 + 3 * a2.toInt + 2) from by omega)).symm; refine (eA_ti (((hF390.2.1 233 (by decide)).trans (gA_sI)))).trans ?_; (first | rfl | exact eA_ix (by omega) | omega))⟩⟩
    · have c387_ : v359.toInt ≤ v362.toInt := en_j_gt_f c387
      refine At.enter rfl ?_
      refine r_iconst 1 rfl ?_
      refine r_goto ?_
      refine At.enter rfl ?_
      refine q_iretz (by decide) ?_
      refine At.enter rfl ?_
      refine q_iretz (by decide) ?_
      refine At.enter rfl ?_
      refine r_iff 13 rfl (by decide) ?_
      refine At.enter rfl ?_
      refine r_aload_n rfl ?_
      refine r_iload_n rfl ?_
      refine q_inlV 18 rfl [.ref 231, .int a2] [] (Nat.le_of_ble_eq_true rfl) rfl ?_
      refine Ev.mk rfl rfl ⟨Nat.le_of_ble_eq_true rfl, Or.inr (q_rc hI357.1 kx_231 rfl)⟩ ?_
      show At _ none _ _ (0, [(0, .ref 231), (1, .int a2)], [], (_, _)) _
      refine At.enter rfl ?_
      refine r_iload_n rfl ?_
      refine q_i2l (fun v411 hv411 => ?_)
      refine r_lconst 0 rfl ?_
      refine r_aload_n rfl ?_
      refine q_getR (Sh.ref hI357.1 kx_231 rfl) ?_
      refine r_iconst 0 rfl ?_
      refine q_iald (Sh.arr hI357.1 ka_233) 0 rfl (by decide) v360 ((eA_c (gA_sI)).trans hv360) ?_
      refine q_i2l (fun v412 hv412 => ?_)
      refine r_lconst 1 rfl ?_
      refine q_lsub (v412.toInt - 1) rfl (by omega) (fun v413 hv413 => ?_)
      refine q_inlS 15 rfl [.long v411, .long 0, .long v413] [] (Nat.le_of_ble_eq_true rfl) rfl ?_
      refine Ev.mk rfl rfl ⟨Nat.le_of_ble_eq_true rfl, Or.inl rfl⟩ ?_
      show At _ none _ _ (0, [(0, .long v411), (2, .long 0), (4, .long v413)], [], (_, _)) _
      refine At.enter rfl ?_
      refine r_lload_n rfl ?_
      refine r_lload_n rfl ?_
      refine r_lcmp _ rfl ?_
      refine r_ifs 6 rfl (fun c414 => ?_) (fun c414 => ?_)
      · have c414_ : v411.toInt < 0 := en_j_lt_t c414
        refine At.enter rfl ?_
        refine r_iconst 0 rfl ?_
        refine Ar.fall 18 rfl ?_
        refine At.enter rfl ?_
        refine q_iretz (by decide) ?_
        refine At.enter rfl ?_
        refine q_iretz (by decide) ?_
        refine At.enter rfl ?_
        refine r_iff 21 rfl (by decide) ?_
        refine At.enter rfl ?_
        refine r_aload_n rfl ?_
        refine r_bipush (-2) rfl ?_
        refine r_callV 27 rfl [.ref 231, .int (-2)] [] (Nat.le_of_ble_eq_true rfl) rfl (T_X11_tell_231 _ hI357 (-2) (by decide)) ?_
        rintro _ _ ⟨g415, rfl, hI416, hF417, v418, rfl, hr419⟩
        refine At.sti ?_
        have hF420 := Fr.tr hF358 hF417 rfl rfl
        have zv421 : ((-2) : Int32).toInt = (-2) := rfl
        refine At.enter rfl ?_
        refine r_ireti ?_
        have x422 := HI.eqA hI416 (p := 233) (j := 0) ((((eA_c (hF417.2.1 233 (by decide))).trans (eA_c gA_sI)).trans hv360))
        obtain ⟨v423, hv423⟩ : ∃ v, eA g0 233 4 = v := ⟨_, rfl⟩
        have wv423 := HI.t4 hI0
        rw [hv423] at wv423
        have tv423 := congrArg Int32.toInt hv423
        have x424 := HI.eqA hI416 (p := 233) (j := 4) ((((eA_c (hF417.2.1 233 (by decide))).trans (eA_c gA_sI)).trans hv423))
        obtain ⟨v425, hv425⟩ : ∃ v, eA g0 233 5 = v := ⟨_, rfl⟩
        have wv425 := HI.t5 hI0
        rw [hv425] at wv425
        have tv425 := congrArg Int32.toInt hv425
        have x426 := HI.eqA hI416 (p := 233) (j := 5) ((((eA_c (hF417.2.1 233 (by decide))).trans (eA_c gA_sI)).trans hv425))
        obtain ⟨v427, hv427⟩ : ∃ v, eA g0 233 6 = v := ⟨_, rfl⟩
        have wv427 := HI.t6 hI0
        rw [hv427] at wv427
        have tv427 := congrArg Int32.toInt hv427
        have x428 := HI.eqA hI416 (p := 233) (j := 6) ((((eA_c (hF417.2.1 233 (by decide))).trans (eA_c gA_sI)).trans hv427))
        obtain ⟨v429, hv429⟩ : ∃ v, eA g0 233 1 = v := ⟨_, rfl⟩
        have tv429 := congrArg Int32.toInt hv429
        have wv429 := HI.t1 hI0
        rw [hv429] at wv429
        have tv429 := congrArg Int32.toInt hv429
        have x430 := HI.eqA hI416 (p := 233) (j := 1) ((((eA_c (hF417.2.1 233 (by decide))).trans (eA_c gA_sI)).trans hv429))
        have x431 := HI.eqA hI0 (p := 233) (j := 0) (hv360)
        have x432 := HI.eqA hI0 (p := 233) (j := 0) (hv360)
        have x433 := HI.eqA hI0 (p := 233) (j := 4) (hv423)
        have x434 := HI.eqA hI0 (p := 233) (j := 5) (hv425)
        have x435 := HI.eqA hI0 (p := 233) (j := 6) (hv427)
        have x436 := HI.eqA hI0 (p := 233) (j := 1) (hv429)
        have x437 := HI.eqA hI0 (p := 233) (j := 0) (hv360)
        exact ⟨_, rfl, hI416, hF420, _, rfl, by omega, ⟨⟨by omega, by omega, by omega, by omega, by omega, by omega⟩, (by intro i i0 i1; refine Eq.trans ?_ (if_neg (show ¬ ((0 ≤ a1.toInt ∧ a1.toInt < (eA g0 233 0).toInt ∧ 0 ≤ a2.toInt ∧ a2.toInt < (eA g0 233 0).toInt ∧ a1.toInt ≠ a2.toInt) ∧ i = 10 + 3 * a1.toInt + 1) from by omega)).symm; refine Eq.trans ?_ (if_neg (show ¬ ((0 ≤ a1.toInt ∧ a1.toInt < (eA g0 233 0).toInt ∧ 0 ≤ a2.toInt ∧ a2.toInt < (eA g0 233 0).toInt ∧ a1.toInt ≠ a2.toInt) ∧ i = 10 + 3 * a1.toInt + 2) from by omega)).symm; refine Eq.trans ?_ (if_neg (show ¬ ((0 ≤ a1.toInt ∧ a1.toInt < (eA g0 233 0).toInt ∧ 0 ≤ a2.toInt ∧ a2.toInt < (eA g0 233 0).toInt ∧ a1.toInt ≠ a2.toInt) ∧ i = 10 + 3 * a2.toInt + 1) from by omega)).symm; refine Eq.trans ?_ (if_neg (show ¬ ((0 ≤ a1.toInt ∧ a1.toInt < (eA g0 233 0).toInt ∧ 0 ≤ a2.toInt ∧ a2.toInt < (eA g0 233 0).toInt ∧ a1.toInt ≠ a2.toInt) ∧ i = 10 + 3 * a2.toInt + 2) from by omega)).symm; refine (eA_ti (((hF417.2.1 233 (by decide)).trans (gA_sI)))).trans ?_; (first | rfl | exact eA_ix (by omega) | omega))⟩⟩
      · have c414_ : v411.toInt ≥ 0 := en_j_lt_f c414
        refine At.enter rfl ?_
        refine r_lload_n rfl ?_
        refine r_lload rfl ?_
        refine r_lcmp _ rfl ?_
        refine r_ifs 13 rfl (fun c438 => ?_) (fun c438 => ?_)
        · have c438_ : v411.toInt > v413.toInt := en_j_gt_t c438
          refine At.enter rfl ?_
          refine r_iconst 0 rfl ?_
          refine Ar.fall 18 rfl ?_
          refine At.enter rfl ?_
          refine q_iretz (by decide) ?_
          refine At.enter rfl ?_
          refine q_iretz (by decide) ?_
          refine At.enter rfl ?_
          refine r_iff 21 rfl (by decide) ?_
          refine At.enter rfl ?_
          refine r_aload_n rfl ?_
          refine r_bipush (-2) rfl ?_
          refine r_callV 27 rfl [.ref 231, .int (-2)] [] (Nat.le_of_ble_eq_true rfl) rfl (T_X11_tell_231 _ hI357 (-2) (by decide)) ?_
          rintro _ _ ⟨g439, rfl, hI440, hF441, v442, rfl, hr443⟩
          refine At.sti ?_
          have hF444 := Fr.tr hF358 hF441 rfl rfl
          have zv445 : ((-2) : Int32).toInt = (-2) := rfl
          refine At.enter rfl ?_
          refine r_ireti ?_
          have x446 := HI.eqA hI440 (p := 233) (j := 0) ((((eA_c (hF441.2.1 233 (by decide))).trans (eA_c gA_sI)).trans hv360))
          obtain ⟨v447, hv447⟩ : ∃ v, eA g0 233 4 = v := ⟨_, rfl⟩
          have wv447 := HI.t4 hI0
          rw [hv447] at wv447
          have tv447 := congrArg Int32.toInt hv447
          have x448 := HI.eqA hI440 (p := 233) (j := 4) ((((eA_c (hF441.2.1 233 (by decide))).trans (eA_c gA_sI)).trans hv447))
          obtain ⟨v449, hv449⟩ : ∃ v, eA g0 233 5 = v := ⟨_, rfl⟩
          have wv449 := HI.t5 hI0
          rw [hv449] at wv449
          have tv449 := congrArg Int32.toInt hv449
          have x450 := HI.eqA hI440 (p := 233) (j := 5) ((((eA_c (hF441.2.1 233 (by decide))).trans (eA_c gA_sI)).trans hv449))
          obtain ⟨v451, hv451⟩ : ∃ v, eA g0 233 6 = v := ⟨_, rfl⟩
          have wv451 := HI.t6 hI0
          rw [hv451] at wv451
          have tv451 := congrArg Int32.toInt hv451
          have x452 := HI.eqA hI440 (p := 233) (j := 6) ((((eA_c (hF441.2.1 233 (by decide))).trans (eA_c gA_sI)).trans hv451))
          obtain ⟨v453, hv453⟩ : ∃ v, eA g0 233 1 = v := ⟨_, rfl⟩
          have tv453 := congrArg Int32.toInt hv453
          have wv453 := HI.t1 hI0
          rw [hv453] at wv453
          have tv453 := congrArg Int32.toInt hv453
          have x454 := HI.eqA hI440 (p := 233) (j := 1) ((((eA_c (hF441.2.1 233 (by decide))).trans (eA_c gA_sI)).trans hv453))
          have x455 := HI.eqA hI0 (p := 233) (j := 0) (hv360)
          have x456 := HI.eqA hI0 (p := 233) (j := 0) (hv360)
          have x457 := HI.eqA hI0 (p := 233) (j := 4) (hv447)
          have x458 := HI.eqA hI0 (p := 233) (j := 5) (hv449)
          have x459 := HI.eqA hI0 (p := 233) (j := 6) (hv451)
          have x460 := HI.eqA hI0 (p := 233) (j := 1) (hv453)
          have x461 := HI.eqA hI0 (p := 233) (j := 0) (hv360)
          exact ⟨_, rfl, hI440, hF444, _, rfl, by omega, ⟨⟨by omega, by omega, by omega, by omega, by omega, by omega⟩, (by intro i i0 i1; refine Eq.trans ?_ (if_neg (show ¬ ((0 ≤ a1.toInt ∧ a1.toInt < (eA g0 233 0).toInt ∧ 0 ≤ a2.toInt ∧ a2.toInt < (eA g0 233 0).toInt ∧ a1.toInt ≠ a2.toInt) ∧ i = 10 + 3 * a1.toInt + 1) from by omega)).symm; refine Eq.trans ?_ (if_neg (show ¬ ((0 ≤ a1.toInt ∧ a1.toInt < (eA g0 233 0).toInt ∧ 0 ≤ a2.toInt ∧ a2.toInt < (eA g0 233 0).toInt ∧ a1.toInt ≠ a2.toInt) ∧ i = 10 + 3 * a1.toInt + 2) from by omega)).symm; refine Eq.trans ?_ (if_neg (show ¬ ((0 ≤ a1.toInt ∧ a1.toInt < (eA g0 233 0).toInt ∧ 0 ≤ a2.toInt ∧ a2.toInt < (eA g0 233 0).toInt ∧ a1.toInt ≠ a2.toInt) ∧ i = 10 + 3 * a2.toInt + 1) from by omega)).symm; refine Eq.trans ?_ (if_neg (show ¬ ((0 ≤ a1.toInt ∧ a1.toInt < (eA g0 233 0).toInt ∧ 0 ≤ a2.toInt ∧ a2.toInt < (eA g0 233 0).toInt ∧ a1.toInt ≠ a2.toInt) ∧ i = 10 + 3 * a2.toInt + 2) from by omega)).symm; refine (eA_ti (((hF441.2.1 233 (by decide)).trans (gA_sI)))).trans ?_; (first | rfl | exact eA_ix (by omega) | omega))⟩⟩
        · have c438_ : v411.toInt ≤ v413.toInt := en_j_gt_f c438
          refine At.enter rfl ?_
          refine r_iconst 1 rfl ?_
          refine r_goto ?_
          refine At.enter rfl ?_
          refine q_iretz (by decide) ?_
          refine At.enter rfl ?_
          refine q_iretz (by decide) ?_
          refine At.enter rfl ?_
          refine r_ift (by decide) ?_
          refine At.enter rfl ?_
          refine r_iload_n rfl ?_
          refine r_iload_n rfl ?_
          refine r_ics 33 rfl (fun c462 => ?_) (fun c462 => ?_)
          · have c462_ : a1.toInt ≠ a2.toInt := en_i_ne_t c462
            refine At.enter rfl ?_
            refine r_iconst 1 rfl ?_
            refine r_istore_n ([(3, .int 1), (0, .ref 231), (1, .int a1), (2, .int a2)]) rfl ?_
            refine Ar.fall 42 rfl ?_
            obtain ⟨v463, hv463⟩ : ∃ v, eA g0 233 4 = v := ⟨_, rfl⟩
            have wv463 := HI.t4 hI0
            rw [hv463] at wv463
            have tv463 := congrArg Int32.toInt hv463
            obtain ⟨v464, hv464⟩ : ∃ v, eA g0 233 5 = v := ⟨_, rfl⟩
            have wv464 := HI.t5 hI0
            rw [hv464] at wv464
            have tv464 := congrArg Int32.toInt hv464
            obtain ⟨v465, hv465⟩ : ∃ v, eA g0 233 6 = v := ⟨_, rfl⟩
            have wv465 := HI.t6 hI0
            rw [hv465] at wv465
            have tv465 := congrArg Int32.toInt hv465
            obtain ⟨v466, hv466⟩ : ∃ v, eA g0 233 1 = v := ⟨_, rfl⟩
            have tv466 := congrArg Int32.toInt hv466
            have wv466 := HI.t1 hI0
            rw [hv466] at wv466
            have tv466 := congrArg Int32.toInt hv466
            have z_558 : (1 : Int32).toInt = 1 := rfl
            refine w_loopI (fun n_ l_ g_ => ∃ x540 : Int32, n_ = 3 - x540.toInt ∧ HI g_ ∧ Fr F_X11_swap_231 A_X11_swap_231 g0 g_ ∧ eA g_ 233 0 = v360 ∧ eA g_ 233 4 = v463 ∧ eA g_ 233 5 = v464 ∧ eA g_ 233 6 = v465 ∧ eA g_ 233 1 = v466 ∧ en_get 0 l_ = some (.ref 231) ∧ en_get 1 l_ = some (.int a1) ∧ en_get 2 l_ = some (.int a2) ∧ en_get 3 l_ = some (.int x540) ∧ (1 ≤ x540.toInt ∧ x540.toInt ≤ 3) ∧ (∀ i : Int, 10 ≤ i → i < 110 → (eA g_ 233 (i)).toInt = if 10 + 3 * a1.toInt + 1 ≤ i ∧ i < 10 + 3 * a1.toInt + x540.toInt then (eA g0 233 (i + 3 * a2.toInt - 3 * a1.toInt)).toInt else if 10 + 3 * a2.toInt + 1 ≤ i ∧ i < 10 + 3 * a2.toInt + x540.toInt then (eA g0 233 (i + 3 * a1.toInt - 3 * a2.toInt)).toInt else (eA g0 233 (i)).toInt)) ?_ (3 - 1) ⟨1, by first | rfl | omega, hI357, hF358, ((eA_c gA_sI).trans hv360), ((eA_c gA_sI).trans hv463), ((eA_c gA_sI).trans hv464), ((eA_c gA_sI).trans hv465), ((eA_c gA_sI).trans hv466), rfl, rfl, rfl, rfl, by decide, (by intro i i0 i1; refine Eq.trans ?_ (if_neg (show ¬ (10 + 3 * a1.toInt + 1 ≤ i ∧ i < 10 + 3 * a1.toInt + 1) from by omega)).symm; refine Eq.trans ?_ (if_neg (show ¬ (10 + 3 * a2.toInt + 1 ≤ i ∧ i < 10 + 3 * a2.toInt + 1) from by omega)).symm; refine (eA_ti ((gA_sI))).trans ?_; (first | rfl | exact eA_ix (by omega) | omega))⟩
            rintro n545 l544 g541 ⟨x540, hm559, hI542, hF543, e547, e548, e549, e550, e551, e552, e553, e554, e555, r556, q557⟩ ih546
            have tv560 := congrArg Int32.toInt e547
            have tv561 := congrArg Int32.toInt e548
            have tv562 := congrArg Int32.toInt e549
            have tv563 := congrArg Int32.toInt e550
            have tv564 := congrArg Int32.toInt e551
            refine At.enter rfl ?_
            refine r_iload_n e555 ?_
            refine r_iconst 3 rfl ?_
            refine r_ics 47 rfl (fun c565 => ?_) (fun c565 => ?_)
            · have c565_ : x540.toInt ≥ 3 := en_i_ge_t c565
              refine At.enter rfl ?_
              refine r_aload_n e552 ?_
              refine r_iconst 0 rfl ?_
              refine r_callV 114 rfl [.ref 231, .int 0] [] (Nat.le_of_ble_eq_true rfl) rfl (T_X11_tell_231 _ hI542 0 (by decide)) ?_
              rintro _ _ ⟨g566, rfl, hI567, hF568, v569, rfl, hr570⟩
              refine At.sti ?_
              have hF571 := Fr.tr hF543 hF568 rfl rfl
              have zv572 : (0 : Int32).toInt = 0 := rfl
              refine At.enter rfl ?_
              refine r_ireti ?_
              have x573 := HI.eqA hI567 (p := 233) (j := 0) (((eA_c (hF568.2.1 233 (by decide))).trans e547))
              have x574 := HI.eqA hI567 (p := 233) (j := 4) (((eA_c (hF568.2.1 233 (by decide))).trans e548))
              have x575 := HI.eqA hI567 (p := 233) (j := 5) (((eA_c (hF568.2.1 233 (by decide))).trans e549))
              have x576 := HI.eqA hI567 (p := 233) (j := 6) (((eA_c (hF568.2.1 233 (by decide))).trans e550))
              have x577 := HI.eqA hI567 (p := 233) (j := 1) (((eA_c (hF568.2.1 233 (by decide))).trans e551))
              have x578 := HI.eqA hI0 (p := 233) (j := 0) (hv360)
              have x579 := HI.eqA hI0 (p := 233) (j := 0) (hv360)
              have x580 := HI.eqA hI0 (p := 233) (j := 4) (hv463)
              have x581 := HI.eqA hI0 (p := 233) (j := 5) (hv464)
              have x582 := HI.eqA hI0 (p := 233) (j := 6) (hv465)
              have x583 := HI.eqA hI0 (p := 233) (j := 1) (hv466)
              have x584 := HI.eqA hI0 (p := 233) (j := 0) (hv360)
              exact ⟨_, rfl, hI567, hF571, _, rfl, by omega, ⟨⟨by omega, by omega, by omega, by omega, by omega, by omega⟩, (by intro i i0 i1; exact (Decidable.em ((0 ≤ a1.toInt ∧ a1.toInt < (eA g0 233 0).toInt ∧ 0 ≤ a2.toInt ∧ a2.toInt < (eA g0 233 0).toInt ∧ a1.toInt ≠ a2.toInt) ∧ i = 10 + 3 * a1.toInt + 1)).elim (fun k353_ => by refine Eq.trans ?_ (if_pos k353_).symm; refine (eA_ti ((hF568.2.1 233 (by decide)))).trans ?_; refine ((q557 (i) (by omega) (by omega))).trans ?_; exact (Decidable.em (10 + 3 * a1.toInt + 1 ≤ (i) ∧ (i) < 10 + 3 * a1.toInt + x540.toInt)).elim (fun k354_ => by refine (if_pos k354_).trans ?_; (first | rfl | exact eA_ix (by omega) | omega)) (fun k354_ => by refine (if_neg k354_).trans ?_; exact (Decidable.em (10 + 3 * a2.toInt + 1 ≤ (i) ∧ (i) < 10 + 3 * a2.toInt + x540.toInt)).elim (fun k355_ => by refine (if_pos k355_).trans ?_; (first | rfl | exact eA_ix (by omega) | omega)) (fun k355_ => by refine (if_neg k355_).trans ?_; (first | rfl | exact eA_ix (by omega) | omega)))) (fun k353_ => by refine Eq.trans ?_ (if_neg k353_).symm; exact (Decidable.em ((0 ≤ a1.toInt ∧ a1.toInt < (eA g0 233 0).toInt ∧ 0 ≤ a2.toInt ∧ a2.toInt < (eA g0 233 0).toInt ∧ a1.toInt ≠ a2.toInt) ∧ i = 10 + 3 * a1.toInt + 2)).elim (fun k356_ => by refine Eq.trans ?_ (if_pos k356_).symm; refine (eA_ti ((hF568.2.1 233 (by decide)))).trans ?_; refine ((q557 (i) (by omega) (by omega))).trans ?_; exact (Decidable.em (10 + 3 * a1.toInt + 1 ≤ (i) ∧ (i) < 10 + 3 * a1.toInt + x540.toInt)).elim (fun k357_ => by refine (if_pos k357_).trans ?_; (first | rfl | exact eA_ix (by omega) | omega)) (fun k357_ => by refine (if_neg k357_).trans ?_; exact (Decidable.em (10 + 3 * a2.toInt + 1 ≤ (i) ∧ (i) < 10 + 3 * a2.toInt + x540.toInt)).elim (fun k358_ => by refine (if_pos k358_).trans ?_; (first | rfl | exact eA_ix (by omega) | omega)) (fun k358_ => by refine (if_neg k358_).trans ?_; (first | rfl | exact eA_ix (by omega) | omega)))) (fun k356_ => by refine Eq.trans ?_ (if_neg k356_).symm; exact (Decidable.em ((0 ≤ a1.toInt ∧ a1.toInt < (eA g0 233 0).toInt ∧ 0 ≤ a2.toInt ∧ a2.toInt < (eA g0 233 0).toInt ∧ a1.toInt ≠ a2.toInt) ∧ i = 10 + 3 * a2.toInt + 1)).elim (fun k359_ => by refine Eq.trans ?_ (if_pos k359_).symm; refine (eA_ti ((hF568.2.1 233 (by decide)))).trans ?_; refine ((q557 (i) (by omega) (by omega))).trans ?_; exact (Decidable.em (10 + 3 * a1.toInt + 1 ≤ (i) ∧ (i) < 10 + 3 * a1.toInt + x540.toInt)).elim (fun k360_ => by refine (if_pos k360_).trans ?_; (first | rfl | exact eA_ix (by omega) | omega)) (fun k360_ => by refine (if_neg k360_).trans ?_; exact (Decidable.em (10 + 3 * a2.toInt + 1 ≤ (i) ∧ (i) < 10 + 3 * a2.toInt + x540.toInt)).elim (fun k361_ => by refine (if_pos k361_).trans ?_; (first | rfl | exact eA_ix (by omega) | omega)) (fun k361_ => by refine (if_neg k361_).trans ?_; (first | rfl | exact eA_ix (by omega) | omega)))) (fun k359_ => by refine Eq.trans ?_ (if_neg k359_).symm; exact (Decidable.em ((0 ≤ a1.toInt ∧ a1.toInt < (eA g0 233 0).toInt ∧ 0 ≤ a2.toInt ∧ a2.toInt < (eA g0 233 0).toInt ∧ a1.toInt ≠ a2.toInt) ∧ i = 10 + 3 * a2.toInt + 2)).elim (fun k362_ => by refine Eq.trans ?_ (if_pos k362_).symm; refine (eA_ti ((hF568.2.1 233 (by decide)))).trans ?_; refine ((q557 (i) (by omega) (by omega))).trans ?_; exact (Decidable.em (10 + 3 * a1.toInt + 1 ≤ (i) ∧ (i) < 10 + 3 * a1.toInt + x540.toInt)).elim (fun k363_ => by refine (if_pos k363_).trans ?_; (first | rfl | exact eA_ix (by omega) | omega)) (fun k363_ => by refine (if_neg k363_).trans ?_; exact (Decidable.em (10 + 3 * a2.toInt + 1 ≤ (i) ∧ (i) < 10 + 3 * a2.toInt + x540.toInt)).elim (fun k364_ => by refine (if_pos k364_).trans ?_; (first | rfl | exact eA_ix (by omega) | omega)) (fun k364_ => by refine (if_neg k364_).trans ?_; (first | rfl | exact eA_ix (by omega) | omega)))) (fun k362_ => by refine Eq.trans ?_ (if_neg k362_).symm; refine (eA_ti ((hF568.2.1 233 (by decide)))).trans ?_; refine ((q557 (i) (by omega) (by omega))).trans ?_; exact (Decidable.em (10 + 3 * a1.toInt + 1 ≤ (i) ∧ (i) < 10 + 3 * a1.toInt + x540.toInt)).elim (fun k365_ => by refine (if_pos k365_).trans ?_; (first | rfl | exact eA_ix (by omega) | omega)) (fun k365_ => by refine (if_neg k365_).trans ?_; exact (Decidable.em (10 + 3 * a2.toInt + 1 ≤ (i) ∧ (i) < 10 + 3 * a2.toInt + x540.toInt)).elim (fun k366_ => by refine (if_pos k366_).trans ?_; (first | rfl | exact eA_ix (by omega) | omega)) (fun k366_ => by refine (if_neg k366_).trans ?_; (first | rfl | exact eA_ix (by omega) | omega))))))))⟩⟩
            · have c565_ : x540.toInt < 3 := en_i_ge_f c565
              refine At.enter rfl ?_
              refine r_aload_n e552 ?_
              refine q_getR (Sh.ref hI542.1 kx_231 rfl) ?_
              refine r_bipush 10 rfl ?_
              refine r_iconst 3 rfl ?_
              refine r_iload_n e553 ?_
              refine q_imul (3 * a1.toInt) rfl (by omega) (fun v585 hv585 => ?_)
              refine q_iadd (10 + v585.toInt) rfl (by omega) (fun v586 hv586 => ?_)
              refine r_iload_n e555 ?_
              refine q_iadd (v586.toInt + x540.toInt) rfl (by omega) (fun v587 hv587 => ?_)
              obtain ⟨v588, hv588⟩ : ∃ v, eA g541 233 (3 * a1.toInt + x540.toInt + 10) = v := ⟨_, rfl⟩
              have wv588 := HI.s12 hI542 (j := (3 * a1.toInt + x540.toInt + 10)) a1.toInt x540.toInt (by omega) (by omega) (by omega)
              rw [hv588] at wv588
              refine q_iald (Sh.arr hI542.1 ka_233) (3 * a1.toInt + x540.toInt + 10) (by omega) (by omega) v588 hv588 ?_
              refine r_istore _ rfl ?_
              refine r_aload_n (w_p1 (by decide) (Or.inr rfl) e552) ?_
              refine q_getR (Sh.ref hI542.1 kx_231 rfl) ?_
              refine r_bipush 10 rfl ?_
              refine r_iconst 3 rfl ?_
              refine r_iload_n (w_p1 (by decide) (Or.inr rfl) e553) ?_
              refine q_imul (3 * a1.toInt) rfl (by omega) (fun v589 hv589 => ?_)
              refine q_iadd (10 + v589.toInt) rfl (by omega) (fun v590 hv590 => ?_)
              refine r_iload_n (w_p1 (by decide) (Or.inr rfl) e555) ?_
              refine q_iadd (v590.toInt + x540.toInt) rfl (by omega) (fun v591 hv591 => ?_)
              refine r_aload_n (w_p1 (by decide) (Or.inr rfl) e552) ?_
              refine q_getR (Sh.ref hI542.1 kx_231 rfl) ?_
              refine r_bipush 10 rfl ?_
              refine r_iconst 3 rfl ?_
              refine r_iload_n (w_p1 (by decide) (Or.inr rfl) e554) ?_
              refine q_imul (3 * a2.toInt) rfl (by omega) (fun v592 hv592 => ?_)
              refine q_iadd (10 + v592.toInt) rfl (by omega) (fun v593 hv593 => ?_)
              refine r_iload_n (w_p1 (by decide) (Or.inr rfl) e555) ?_
              refine q_iadd (v593.toInt + x540.toInt) rfl (by omega) (fun v594 hv594 => ?_)
              obtain ⟨v595, hv595⟩ : ∃ v, eA g541 233 (3 * a2.toInt + x540.toInt + 10) = v := ⟨_, rfl⟩
              have wv595 := HI.s12 hI542 (j := (3 * a2.toInt + x540.toInt + 10)) a2.toInt x540.toInt (by omega) (by omega) (by omega)
              rw [hv595] at wv595
              refine q_iald (Sh.arr hI542.1 ka_233) (3 * a2.toInt + x540.toInt + 10) (by omega) (by omega) v595 hv595 ?_
              refine q_iast (Sh.arr hI542.1 ka_233) ((3 * a1.toInt + x540.toInt + 10)) (by omega) (by omega) ?_
              have hI596 := HI.ws hI542 (j := (3 * a1.toInt + x540.toInt + 10)) (v := v595) a1.toInt x540.toInt (by omega) (by omega) (by omega) (by omega)
              have hF597 := Fr.wA (p := 233) (j := (3 * a1.toInt + x540.toInt + 10)) (v := v595) hF543 rfl
              refine r_aload_n (w_p1 (by decide) (Or.inr rfl) e552) ?_
              refine q_getR (Sh.ref hI596.1 kx_231 rfl) ?_
              refine r_bipush 10 rfl ?_
              refine r_iconst 3 rfl ?_
              refine r_iload_n (w_p1 (by decide) (Or.inr rfl) e554) ?_
              refine q_imul (3 * a2.toInt) rfl (by omega) (fun v598 hv598 => ?_)
              refine q_iadd (10 + v598.toInt) rfl (by omega) (fun v599 hv599 => ?_)
              refine r_iload_n (w_p1 (by decide) (Or.inr rfl) e555) ?_
              refine q_iadd (v599.toInt + x540.toInt) rfl (by omega) (fun v600 hv600 => ?_)
              refine r_iload (w_e1 _ _ _) ?_
              refine q_iast (Sh.arr hI596.1 ka_233) ((3 * a2.toInt + x540.toInt + 10)) (by omega) (by omega) ?_
              have hI601 := HI.ws hI596 (j := (3 * a2.toInt + x540.toInt + 10)) (v := v588) a2.toInt x540.toInt (by omega) (by omega) (by omega) (by omega)
              have hF602 := Fr.wA (p := 233) (j := (3 * a2.toInt + x540.toInt + 10)) (v := v588) hF597 rfl
              refine q_iinc (w_p1 (by decide) (Or.inr rfl) e555) (x540.toInt + 1) rfl (by omega) (fun v603 hv603 => ?_)
              refine r_goto ?_
              exact ih546 (3 - v603.toInt) _ _ ⟨v603, by first | rfl | omega, hI601, hF602, (((eA_sA_ne hI596.1 ka_233 (by first | decide | omega) (by first | decide | omega) (by first | decide | omega)).trans (eA_sA_ne hI542.1 ka_233 (by first | decide | omega) (by first | decide | omega) (by first | decide | omega))).trans e547), (((eA_sA_ne hI596.1 ka_233 (by first | decide | omega) (by first | decide | omega) (by first | decide | omega)).trans (eA_sA_ne hI542.1 ka_233 (by first | decide | omega) (by first | decide | omega) (by first | decide | omega))).trans e548), (((eA_sA_ne hI596.1 ka_233 (by first | decide | omega) (by first | decide | omega) (by first | decide | omega)).trans (eA_sA_ne hI542.1 ka_233 (by first | decide | omega) (by first | decide | omega) (by first | decide | omega))).trans e549), (((eA_sA_ne hI596.1 ka_233 (by first | decide | omega) (by first | decide | omega) (by first | decide | omega)).trans (eA_sA_ne hI542.1 ka_233 (by first | decide | omega) (by first | decide | omega) (by first | decide | omega))).trans e550), (((eA_sA_ne hI596.1 ka_233 (by first | decide | omega) (by first | decide | omega) (by first | decide | omega)).trans (eA_sA_ne hI542.1 ka_233 (by first | decide | omega) (by first | decide | omega) (by first | decide | omega))).trans e551), (w_p1 (by decide) (Or.inr rfl) (w_p1 (by decide) (Or.inr rfl) e552)), (w_p1 (by decide) (Or.inr rfl) (w_p1 (by decide) (Or.inr rfl) e553)), (w_p1 (by decide) (Or.inr rfl) (w_p1 (by decide) (Or.inr rfl) e554)), (w_e1 _ _ _), by omega, (by intro i i0 i1; exact (Decidable.em (10 + 3 * a1.toInt + 1 ≤ i ∧ i < 10 + 3 * a1.toInt + v603.toInt)).elim (fun k367_ => by refine Eq.trans ?_ (if_pos k367_).symm; exact (Decidable.em (i = (3 * a2.toInt + x540.toInt + 10))).elim (fun k368_ => by refine (eA_eqT hI596.1 ka_233 k368_ (by first | decide | omega) (by first | decide | omega)).trans ?_; (first | (rfl) | (omega) | (refine (congrArg Int32.toInt hv588).symm.trans ?_; refine ((q557 ((3 * a1.toInt + x540.toInt + 10)) (by omega) (by omega))).trans ?_; exact (Decidable.em (10 + 3 * a1.toInt + 1 ≤ ((3 * a1.toInt + x540.toInt + 10)) ∧ ((3 * a1.toInt + x540.toInt + 10)) < 10 + 3 * a1.toInt + x540.toInt)).elim (fun k369_ => by refine (if_pos k369_).trans ?_; (first | rfl | exact eA_ix (by omega) | omega)) (fun k369_ => by refine (if_neg k369_).trans ?_; exact (Decidable.em (10 + 3 * a2.toInt + 1 ≤ ((3 * a1.toInt + x540.toInt + 10)) ∧ ((3 * a1.toInt + x540.toInt + 10)) < 10 + 3 * a2.toInt + x540.toInt)).elim (fun k370_ => by refine (if_pos k370_).trans ?_; (first | rfl | exact eA_ix (by omega) | omega)) (fun k370_ => by refine (if_neg k370_).trans ?_; (first | rfl | exact eA_ix (by omega) | omega)))))) (fun k368_ => by refine (eA_neT hI596.1 ka_233 k368_ (by first | decide | omega) (by omega)).trans ?_; exact (Decidable.em (i = (3 * a1.toInt + x540.toInt + 10))).elim (fun k371_ => by refine (eA_eqT hI542.1 ka_233 k371_ (by first | decide | omega) (by first | decide | omega)).trans ?_; (first | (rfl) | (omega) | (refine (congrArg Int32.toInt hv595).symm.trans ?_; refine ((q557 ((3 * a2.toInt + x540.toInt + 10)) (by omega) (by omega))).trans ?_; exact (Decidable.em (10 + 3 * a1.toInt + 1 ≤ ((3 * a2.toInt + x540.toInt + 10)) ∧ ((3 * a2.toInt + x540.toInt + 10)) < 10 + 3 * a1.toInt + x540.toInt)).elim (fun k372_ => by refine (if_pos k372_).trans ?_; (first | rfl | exact eA_ix (by omega) | omega)) (fun k372_ => by refine (if_neg k372_).trans ?_; exact (Decidable.em (10 + 3 * a2.toInt + 1 ≤ ((3 * a2.toInt + x540.toInt + 10)) ∧ ((3 * a2.toInt + x540.toInt + 10)) < 10 + 3 * a2.toInt + x540.toInt)).elim (fun k373_ => by refine (if_pos k373_).trans ?_; (first | rfl | exact eA_ix (by omega) | omega)) (fun k373_ => by refine (if_neg k373_).trans ?_; (first | rfl | exact eA_ix (by omega) | omega)))))) (fun k371_ => by refine (eA_neT hI542.1 ka_233 k371_ (by first | decide | omega) (by omega)).trans ?_; refine ((q557 (i) (by omega) (by omega))).trans ?_; exact (Decidable.em (10 + 3 * a1.toInt + 1 ≤ (i) ∧ (i) < 10 + 3 * a1.toInt + x540.toInt)).elim (fun k374_ => by refine (if_pos k374_).trans ?_; (first | rfl | exact eA_ix (by omega) | omega)) (fun k374_ => by refine (if_neg k374_).trans ?_; exact (Decidable.em (10 + 3 * a2.toInt + 1 ≤ (i) ∧ (i) < 10 + 3 * a2.toInt + x540.toInt)).elim (fun k375_ => by refine (if_pos k375_).trans ?_; (first | rfl | exact eA_ix (by omega) | omega)) (fun k375_ => by refine (if_neg k375_).trans ?_; (first | rfl | exact eA_ix (by omega) | omega)))))) (fun k367_ => by refine Eq.trans ?_ (if_neg k367_).symm; exact (Decidable.em (10 + 3 * a2.toInt + 1 ≤ i ∧ i < 10 + 3 * a2.toInt + v603.toInt)).elim (fun k376_ => by refine Eq.trans ?_ (if_pos k376_).symm; exact (Decidable.em (i = (3 * a2.toInt + x540.toInt + 10))).elim (fun k377_ => by refine (eA_eqT hI596.1 ka_233 k377_ (by first | decide | omega) (by first | decide | omega)).trans ?_; (first | (rfl) | (omega) | (refine (congrArg Int32.toInt hv588).symm.trans ?_; refine ((q557 ((3 * a1.toInt + x540.toInt + 10)) (by omega) (by omega))).trans ?_; exact (Decidable.em (10 + 3 * a1.toInt + 1 ≤ ((3 * a1.toInt + x540.toInt + 10)) ∧ ((3 * a1.toInt + x540.toInt + 10)) < 10 + 3 * a1.toInt + x540.toInt)).elim (fun k378_ => by refine (if_pos k378_).trans ?_; (first | rfl | exact eA_ix (by omega) | omega)) (fun k378_ => by refine (if_neg k378_).trans ?_; exact (Decidable.em (10 + 3 * a2.toInt + 1 ≤ ((3 * a1.toInt + x540.toInt + 10)) ∧ ((3 * a1.toInt + x540.toInt + 10)) < 10 + 3 * a2.toInt + x540.toInt)).elim (fun k379_ => by refine (if_pos k379_).trans ?_; (first | rfl | exact eA_ix (by omega) | omega)) (fun k379_ => by refine (if_neg k379_).trans ?_; (first | rfl | exact eA_ix (by omega) | omega)))))) (fun k377_ => by refine (eA_neT hI596.1 ka_233 k377_ (by first | decide | omega) (by omega)).trans ?_; exact (Decidable.em (i = (3 * a1.toInt + x540.toInt + 10))).elim (fun k380_ => by refine (eA_eqT hI542.1 ka_233 k380_ (by first | decide | omega) (by first | decide | omega)).trans ?_; (first | (rfl) | (omega) | (refine (congrArg Int32.toInt hv595).symm.trans ?_; refine ((q557 ((3 * a2.toInt + x540.toInt + 10)) (by omega) (by omega))).trans ?_; exact (Decidable.em (10 + 3 * a1.toInt + 1 ≤ ((3 * a2.toInt + x540.toInt + 10)) ∧ ((3 * a2.toInt + x540.toInt + 10)) < 10 + 3 * a1.toInt + x540.toInt)).elim (fun k381_ => by refine (if_pos k381_).trans ?_; (first | rfl | exact eA_ix (by omega) | omega)) (fun k381_ => by refine (if_neg k381_).trans ?_; exact (Decidable.em (10 + 3 * a2.toInt + 1 ≤ ((3 * a2.toInt + x540.toInt + 10)) ∧ ((3 * a2.toInt + x540.toInt + 10)) < 10 + 3 * a2.toInt + x540.toInt)).elim (fun k382_ => by refine (if_pos k382_).trans ?_; (first | rfl | exact eA_ix (by omega) | omega)) (fun k382_ => by refine (if_neg k382_).trans ?_; (first | rfl | exact eA_ix (by omega) | omega)))))) (fun k380_ => by refine (eA_neT hI542.1 ka_233 k380_ (by first | decide | omega) (by omega)).trans ?_; refine ((q557 (i) (by omega) (by omega))).trans ?_; exact (Decidable.em (10 + 3 * a1.toInt + 1 ≤ (i) ∧ (i) < 10 + 3 * a1.toInt + x540.toInt)).elim (fun k383_ => by refine (if_pos k383_).trans ?_; (first | rfl | exact eA_ix (by omega) | omega)) (fun k383_ => by refine (if_neg k383_).trans ?_; exact (Decidable.em (10 + 3 * a2.toInt + 1 ≤ (i) ∧ (i) < 10 + 3 * a2.toInt + x540.toInt)).elim (fun k384_ => by refine (if_pos k384_).trans ?_; (first | rfl | exact eA_ix (by omega) | omega)) (fun k384_ => by refine (if_neg k384_).trans ?_; (first | rfl | exact eA_ix (by omega) | omega)))))) (fun k376_ => by refine Eq.trans ?_ (if_neg k376_).symm; exact (Decidable.em (i = (3 * a2.toInt + x540.toInt + 10))).elim (fun k385_ => by refine (eA_eqT hI596.1 ka_233 k385_ (by first | decide | omega) (by first | decide | omega)).trans ?_; (first | (rfl) | (omega) | (refine (congrArg Int32.toInt hv588).symm.trans ?_; refine ((q557 ((3 * a1.toInt + x540.toInt + 10)) (by omega) (by omega))).trans ?_; exact (Decidable.em (10 + 3 * a1.toInt + 1 ≤ ((3 * a1.toInt + x540.toInt + 10)) ∧ ((3 * a1.toInt + x540.toInt + 10)) < 10 + 3 * a1.toInt + x540.toInt)).elim (fun k386_ => by refine (if_pos k386_).trans ?_; (first | rfl | exact eA_ix (by omega) | omega)) (fun k386_ => by refine (if_neg k386_).trans ?_; exact (Decidable.em (10 + 3 * a2.toInt + 1 ≤ ((3 * a1.toInt + x540.toInt + 10)) ∧ ((3 * a1.toInt + x540.toInt + 10)) < 10 + 3 * a2.toInt + x540.toInt)).elim (fun k387_ => by refine (if_pos k387_).trans ?_; (first | rfl | exact eA_ix (by omega) | omega)) (fun k387_ => by refine (if_neg k387_).trans ?_; (first | rfl | exact eA_ix (by omega) | omega)))))) (fun k385_ => by refine (eA_neT hI596.1 ka_233 k385_ (by first | decide | omega) (by omega)).trans ?_; exact (Decidable.em (i = (3 * a1.toInt + x540.toInt + 10))).elim (fun k388_ => by refine (eA_eqT hI542.1 ka_233 k388_ (by first | decide | omega) (by first | decide | omega)).trans ?_; (first | (rfl) | (omega) | (refine (congrArg Int32.toInt hv595).symm.trans ?_; refine ((q557 ((3 * a2.toInt + x540.toInt + 10)) (by omega) (by omega))).trans ?_; exact (Decidable.em (10 + 3 * a1.toInt + 1 ≤ ((3 * a2.toInt + x540.toInt + 10)) ∧ ((3 * a2.toInt + x540.toInt + 10)) < 10 + 3 * a1.toInt + x540.toInt)).elim (fun k389_ => by refine (if_pos k389_).trans ?_; (first | rfl | exact eA_ix (by omega) | omega)) (fun k389_ => by refine (if_neg k389_).trans ?_; exact (Decidable.em (10 + 3 * a2.toInt + 1 ≤ ((3 * a2.toInt + x540.toInt + 10)) ∧ ((3 * a2.toInt + x540.toInt + 10)) < 10 + 3 * a2.toInt + x540.toInt)).elim (fun k390_ => by refine (if_pos k390_).trans ?_; (first | rfl | exact eA_ix (by omega) | omega)) (fun k390_ => by refine (if_neg k390_).trans ?_; (first | rfl | exact eA_ix (by omega) | omega)))))) (fun k388_ => by refine (eA_neT hI542.1 ka_233 k388_ (by first | decide | omega) (by omega)).trans ?_; refine ((q557 (i) (by omega) (by omega))).trans ?_; exact (Decidable.em (10 + 3 * a1.toInt + 1 ≤ (i) ∧ (i) < 10 + 3 * a1.toInt + x540.toInt)).elim (fun k391_ => by refine (if_pos k391_).trans ?_; (first | rfl | exact eA_ix (by omega) | omega)) (fun k391_ => by refine (if_neg k391_).trans ?_; exact (Decidable.em (10 + 3 * a2.toInt + 1 ≤ (i) ∧ (i) < 10 + 3 * a2.toInt + x540.toInt)).elim (fun k392_ => by refine (if_pos k392_).trans ?_; (first | rfl | exact eA_ix (by omega) | omega)) (fun k392_ => by refine (if_neg k392_).trans ?_; (first | rfl | exact eA_ix (by omega) | omega))))))))⟩ ⟨by omega, by omega⟩
          · have c462_ : a1.toInt = a2.toInt := en_i_ne_f c462
            refine At.enter rfl ?_
            refine r_aload_n rfl ?_
            refine r_bipush (-3) rfl ?_
            refine r_callV 39 rfl [.ref 231, .int (-3)] [] (Nat.le_of_ble_eq_true rfl) rfl (T_X11_tell_231 _ hI357 (-3) (by decide)) ?_
            rintro _ _ ⟨g604, rfl, hI605, hF606, v607, rfl, hr608⟩
            refine At.sti ?_
            have hF609 := Fr.tr hF358 hF606 rfl rfl
            have zv610 : ((-3) : Int32).toInt = (-3) := rfl
            refine At.enter rfl ?_
            refine r_ireti ?_
            have x611 := HI.eqA hI605 (p := 233) (j := 0) ((((eA_c (hF606.2.1 233 (by decide))).trans (eA_c gA_sI)).trans hv360))
            obtain ⟨v612, hv612⟩ : ∃ v, eA g0 233 4 = v := ⟨_, rfl⟩
            have wv612 := HI.t4 hI0
            rw [hv612] at wv612
            have tv612 := congrArg Int32.toInt hv612
            have x613 := HI.eqA hI605 (p := 233) (j := 4) ((((eA_c (hF606.2.1 233 (by decide))).trans (eA_c gA_sI)).trans hv612))
            obtain ⟨v614, hv614⟩ : ∃ v, eA g0 233 5 = v := ⟨_, rfl⟩
            have wv614 := HI.t5 hI0
            rw [hv614] at wv614
            have tv614 := congrArg Int32.toInt hv614
            have x615 := HI.eqA hI605 (p := 233) (j := 5) ((((eA_c (hF606.2.1 233 (by decide))).trans (eA_c gA_sI)).trans hv614))
            obtain ⟨v616, hv616⟩ : ∃ v, eA g0 233 6 = v := ⟨_, rfl⟩
            have wv616 := HI.t6 hI0
            rw [hv616] at wv616
            have tv616 := congrArg Int32.toInt hv616
            have x617 := HI.eqA hI605 (p := 233) (j := 6) ((((eA_c (hF606.2.1 233 (by decide))).trans (eA_c gA_sI)).trans hv616))
            obtain ⟨v618, hv618⟩ : ∃ v, eA g0 233 1 = v := ⟨_, rfl⟩
            have tv618 := congrArg Int32.toInt hv618
            have wv618 := HI.t1 hI0
            rw [hv618] at wv618
            have tv618 := congrArg Int32.toInt hv618
            have x619 := HI.eqA hI605 (p := 233) (j := 1) ((((eA_c (hF606.2.1 233 (by decide))).trans (eA_c gA_sI)).trans hv618))
            have x620 := HI.eqA hI0 (p := 233) (j := 0) (hv360)
            have x621 := HI.eqA hI0 (p := 233) (j := 0) (hv360)
            have x622 := HI.eqA hI0 (p := 233) (j := 4) (hv612)
            have x623 := HI.eqA hI0 (p := 233) (j := 5) (hv614)
            have x624 := HI.eqA hI0 (p := 233) (j := 6) (hv616)
            have x625 := HI.eqA hI0 (p := 233) (j := 1) (hv618)
            have x626 := HI.eqA hI0 (p := 233) (j := 0) (hv360)
            exact ⟨_, rfl, hI605, hF609, _, rfl, by omega, ⟨⟨by omega, by omega, by omega, by omega, by omega, by omega⟩, (by intro i i0 i1; refine Eq.trans ?_ (if_neg (show ¬ ((0 ≤ a1.toInt ∧ a1.toInt < (eA g0 233 0).toInt ∧ 0 ≤ a2.toInt ∧ a2.toInt < (eA g0 233 0).toInt ∧ a1.toInt ≠ a2.toInt) ∧ i = 10 + 3 * a1.toInt + 1) from by omega)).symm; refine Eq.trans ?_ (if_neg (show ¬ ((0 ≤ a1.toInt ∧ a1.toInt < (eA g0 233 0).toInt ∧ 0 ≤ a2.toInt ∧ a2.toInt < (eA g0 233 0).toInt ∧ a1.toInt ≠ a2.toInt) ∧ i = 10 + 3 * a1.toInt + 2) from by omega)).symm; refine Eq.trans ?_ (if_neg (show ¬ ((0 ≤ a1.toInt ∧ a1.toInt < (eA g0 233 0).toInt ∧ 0 ≤ a2.toInt ∧ a2.toInt < (eA g0 233 0).toInt ∧ a1.toInt ≠ a2.toInt) ∧ i = 10 + 3 * a2.toInt + 1) from by omega)).symm; refine Eq.trans ?_ (if_neg (show ¬ ((0 ≤ a1.toInt ∧ a1.toInt < (eA g0 233 0).toInt ∧ 0 ≤ a2.toInt ∧ a2.toInt < (eA g0 233 0).toInt ∧ a1.toInt ≠ a2.toInt) ∧ i = 10 + 3 * a2.toInt + 2) from by omega)).symm; refine (eA_ti (((hF606.2.1 233 (by decide)).trans (gA_sI)))).trans ?_; (first | rfl | exact eA_ix (by omega) | omega))⟩⟩

def F_X11_sign_231 : List (Nat × Nat) := [(231, 0), (231, 1)]
def A_X11_sign_231 : List Nat := [232, 233]
set_option maxRecDepth 100000 in
set_option maxHeartbeats 4000000 in
theorem T_X11_sign_231 (d : Nat) {N : Nat} {g0 : List en_E} (hI0 : HI g0) (a1 : Int32) (a2 : Int32) : Ev (d + 3) 254 [.ref 231, .int a1, .int a2] (g0, N) (fun w h' => ∃ g', h' = (g', N) ∧ HI g' ∧ Fr F_X11_sign_231 A_X11_sign_231 g0 g' ∧ ∃ r : Int32, w = some (.int r) ∧ ((-5) ≤ r.toInt ∧ r.toInt ≤ 8) ∧ ((((¬ (0 ≤ a2.toInt ∧ a2.toInt ≤ 99) → r.toInt = -1 ∧ (eA g' 233 4).toInt = (eA g0 233 4).toInt) ∧ ((0 ≤ a2.toInt ∧ a2.toInt ≤ 99) ∧ ¬ (0 ≤ a1.toInt ∧ a1.toInt < (eA g0 233 0).toInt) → r.toInt = -2 ∧ (eA g' 233 4).toInt = (eA g0 233 4).toInt) ∧ ((0 ≤ a2.toInt ∧ a2.toInt ≤ 99) ∧ (0 ≤ a1.toInt ∧ a1.toInt < (eA g0 233 0).toInt) ∧ 8 ≤ (eA g0 233 4).toInt → r.toInt = -5 ∧ (eA g' 233 4).toInt = (eA g0 233 4).toInt) ∧ ((0 ≤ a2.toInt ∧ a2.toInt ≤ 99) ∧ (0 ≤ a1.toInt ∧ a1.toInt < (eA g0 233 0).toInt) ∧ (eA g0 233 4).toInt < 8 → r.toInt = (eA g0 233 4).toInt + 1 ∧ (eA g' 233 4).toInt = (eA g0 233 4).toInt + 1)) ∧ (eA g' 233 0).toInt = (eA g0 233 0).toInt ∧ (eA g' 233 5).toInt = (eA g0 233 5).toInt ∧ (eA g' 233 6).toInt = (eA g0 233 6).toInt ∧ (eA g' 233 1).toInt = (eA g0 233 1).toInt) ∧ (∀ i : Int, 10 ≤ i → i < 110 → (eA g' 233 (i)).toInt = if (0 ≤ a2.toInt ∧ a2.toInt ≤ 99 ∧ 0 ≤ a1.toInt ∧ a1.toInt < (eA g0 233 0).toInt ∧ (eA g0 233 4).toInt < 8) ∧ i = 94 + 2 * (eA g0 233 4).toInt + 0 then a1.toInt else if (0 ≤ a2.toInt ∧ a2.toInt ≤ 99 ∧ 0 ≤ a1.toInt ∧ a1.toInt < (eA g0 233 0).toInt ∧ (eA g0 233 4).toInt < 8) ∧ i = 94 + 2 * (eA g0 233 4).toInt + 1 then a2.toInt else (eA g0 233 (i)).toInt))) := by
  have hF0 : Fr F_X11_sign_231 A_X11_sign_231 g0 g0 := Fr.rf
  refine Ev.mk rfl rfl ⟨Nat.le_of_ble_eq_true rfl, Or.inr (q_rc hI0.1 kx_231 rfl)⟩ ?_
  show At _ none _ _ (0, [(0, .ref 231), (1, .int a1), (2, .int a2)], [], (_, _)) _
  refine At.enter rfl ?_
  refine r_aload_n rfl ?_
  refine r_iconst 0 rfl ?_
  refine q_putI (Sh.int hI0.1 kx_231 rfl) rfl ?_
  have hI135 := HI.wI0 hI0 kx_231 rfl (p := 231) (b := 0) (v := 0) rfl
  have hF136 := Fr.wI (p := 231) (b := 0) (v := 0) hF0 rfl
  refine r_iload_n rfl ?_
  refine q_i2l (fun v137 hv137 => ?_)
  refine r_lconst 0 rfl ?_
  refine r_ldc2 99 rfl ?_
  refine q_inlS 14 rfl [.long v137, .long 0, .long 99] [] (Nat.le_of_ble_eq_true rfl) rfl ?_
  refine Ev.mk rfl rfl ⟨Nat.le_of_ble_eq_true rfl, Or.inl rfl⟩ ?_
  show At _ none _ _ (0, [(0, .long v137), (2, .long 0), (4, .long 99)], [], (_, _)) _
  refine At.enter rfl ?_
  refine r_lload_n rfl ?_
  refine r_lload_n rfl ?_
  refine r_lcmp _ rfl ?_
  refine r_ifs 6 rfl (fun c138 => ?_) (fun c138 => ?_)
  · have c138_ : v137.toInt < 0 := en_j_lt_t c138
    refine At.enter rfl ?_
    refine r_iconst 0 rfl ?_
    refine Ar.fall 18 rfl ?_
    refine At.enter rfl ?_
    refine q_iretz (by decide) ?_
    refine At.enter rfl ?_
    refine r_iff 17 rfl (by decide) ?_
    refine At.enter rfl ?_
    refine r_aload_n rfl ?_
    refine r_iconst (-1) rfl ?_
    refine r_callV 22 rfl [.ref 231, .int (-1)] [] (Nat.le_of_ble_eq_true rfl) rfl (T_X11_tell_231 _ hI135 (-1) (by decide)) ?_
    rintro _ _ ⟨g139, rfl, hI140, hF141, v142, rfl, hr143⟩
    refine At.sti ?_
    have hF144 := Fr.tr hF136 hF141 rfl rfl
    have zv145 : ((-1) : Int32).toInt = (-1) := rfl
    refine At.enter rfl ?_
    refine r_ireti ?_
    obtain ⟨v146, hv146⟩ : ∃ v, eA g0 233 4 = v := ⟨_, rfl⟩
    have wv146 := HI.t4 hI0
    rw [hv146] at wv146
    have tv146 := congrArg Int32.toInt hv146
    have x147 := HI.eqA hI140 (p := 233) (j := 4) ((((eA_c (hF141.2.1 233 (by decide))).trans (eA_c gA_sI)).trans hv146))
    obtain ⟨v148, hv148⟩ : ∃ v, eA g0 233 0 = v := ⟨_, rfl⟩
    have tv148 := congrArg Int32.toInt hv148
    have wv148 := HI.t0 hI0
    rw [hv148] at wv148
    have tv148 := congrArg Int32.toInt hv148
    have x149 := HI.eqA hI140 (p := 233) (j := 0) ((((eA_c (hF141.2.1 233 (by decide))).trans (eA_c gA_sI)).trans hv148))
    obtain ⟨v150, hv150⟩ : ∃ v, eA g0 233 5 = v := ⟨_, rfl⟩
    have wv150 := HI.t5 hI0
    rw [hv150] at wv150
    have tv150 := congrArg Int32.toInt hv150
    have x151 := HI.eqA hI140 (p := 233) (j := 5) ((((eA_c (hF141.2.1 233 (by decide))).trans (eA_c gA_sI)).trans hv150))
    obtain ⟨v152, hv152⟩ : ∃ v, eA g0 233 6 = v := ⟨_, rfl⟩
    have wv152 := HI.t6 hI0
    rw [hv152] at wv152
    have tv152 := congrArg Int32.toInt hv152
    have x153 := HI.eqA hI140 (p := 233) (j := 6) ((((eA_c (hF141.2.1 233 (by decide))).trans (eA_c gA_sI)).trans hv152))
    obtain ⟨v154, hv154⟩ : ∃ v, eA g0 233 1 = v := ⟨_, rfl⟩
    have tv154 := congrArg Int32.toInt hv154
    have wv154 := HI.t1 hI0
    rw [hv154] at wv154
    have tv154 := congrArg Int32.toInt hv154
    have x155 := HI.eqA hI140 (p := 233) (j := 1) ((((eA_c (hF141.2.1 233 (by decide))).trans (eA_c gA_sI)).trans hv154))
    have x156 := HI.eqA hI0 (p := 233) (j := 4) (hv146)
    have x157 := HI.eqA hI0 (p := 233) (j := 0) (hv148)
    have x158 := HI.eqA hI0 (p := 233) (j := 0) (hv148)
    have x159 := HI.eqA hI0 (p := 233) (j := 5) (hv150)
    have x160 := HI.eqA hI0 (p := 233) (j := 6) (hv152)
    have x161 := HI.eqA hI0 (p := 233) (j := 1) (hv154)
    have x162 := HI.eqA hI0 (p := 233) (j := 0) (hv148)
    have x163 := HI.eqA hI0 (p := 233) (j := 4) (hv146)
    exact ⟨_, rfl, hI140, hF144, _, rfl, by omega, ⟨⟨by omega, by omega, by omega, by omega, by omega⟩, (by intro i i0 i1; refine Eq.trans ?_ (if_neg (show ¬ ((0 ≤ a2.toInt ∧ a2.toInt ≤ 99 ∧ 0 ≤ a1.toInt ∧ a1.toInt < (eA g0 233 0).toInt ∧ (eA g0 233 4).toInt < 8) ∧ i = 94 + 2 * (eA g0 233 4).toInt + 0) from by omega)).symm; refine Eq.trans ?_ (if_neg (show ¬ ((0 ≤ a2.toInt ∧ a2.toInt ≤ 99 ∧ 0 ≤ a1.toInt ∧ a1.toInt < (eA g0 233 0).toInt ∧ (eA g0 233 4).toInt < 8) ∧ i = 94 + 2 * (eA g0 233 4).toInt + 1) from by omega)).symm; refine (eA_ti (((hF141.2.1 233 (by decide)).trans (gA_sI)))).trans ?_; (first | rfl | exact eA_ix (by omega) | omega))⟩⟩
  · have c138_ : v137.toInt ≥ 0 := en_j_lt_f c138
    refine At.enter rfl ?_
    refine r_lload_n rfl ?_
    refine r_lload rfl ?_
    refine r_lcmp _ rfl ?_
    refine r_ifs 13 rfl (fun c164 => ?_) (fun c164 => ?_)
    · have c164_ : v137.toInt > 99 := en_j_gt_t c164
      refine At.enter rfl ?_
      refine r_iconst 0 rfl ?_
      refine Ar.fall 18 rfl ?_
      refine At.enter rfl ?_
      refine q_iretz (by decide) ?_
      refine At.enter rfl ?_
      refine r_iff 17 rfl (by decide) ?_
      refine At.enter rfl ?_
      refine r_aload_n rfl ?_
      refine r_iconst (-1) rfl ?_
      refine r_callV 22 rfl [.ref 231, .int (-1)] [] (Nat.le_of_ble_eq_true rfl) rfl (T_X11_tell_231 _ hI135 (-1) (by decide)) ?_
      rintro _ _ ⟨g165, rfl, hI166, hF167, v168, rfl, hr169⟩
      refine At.sti ?_
      have hF170 := Fr.tr hF136 hF167 rfl rfl
      have zv171 : ((-1) : Int32).toInt = (-1) := rfl
      refine At.enter rfl ?_
      refine r_ireti ?_
      obtain ⟨v172, hv172⟩ : ∃ v, eA g0 233 4 = v := ⟨_, rfl⟩
      have wv172 := HI.t4 hI0
      rw [hv172] at wv172
      have tv172 := congrArg Int32.toInt hv172
      have x173 := HI.eqA hI166 (p := 233) (j := 4) ((((eA_c (hF167.2.1 233 (by decide))).trans (eA_c gA_sI)).trans hv172))
      obtain ⟨v174, hv174⟩ : ∃ v, eA g0 233 0 = v := ⟨_, rfl⟩
      have tv174 := congrArg Int32.toInt hv174
      have wv174 := HI.t0 hI0
      rw [hv174] at wv174
      have tv174 := congrArg Int32.toInt hv174
      have x175 := HI.eqA hI166 (p := 233) (j := 0) ((((eA_c (hF167.2.1 233 (by decide))).trans (eA_c gA_sI)).trans hv174))
      obtain ⟨v176, hv176⟩ : ∃ v, eA g0 233 5 = v := ⟨_, rfl⟩
      have wv176 := HI.t5 hI0
      rw [hv176] at wv176
      have tv176 := congrArg Int32.toInt hv176
      have x177 := HI.eqA hI166 (p := 233) (j := 5) ((((eA_c (hF167.2.1 233 (by decide))).trans (eA_c gA_sI)).trans hv176))
      obtain ⟨v178, hv178⟩ : ∃ v, eA g0 233 6 = v := ⟨_, rfl⟩
      have wv178 := HI.t6 hI0
      rw [hv178] at wv178
      have tv178 := congrArg Int32.toInt hv178
      have x179 := HI.eqA hI166 (p := 233) (j := 6) ((((eA_c (hF167.2.1 233 (by decide))).trans (eA_c gA_sI)).trans hv178))
      obtain ⟨v180, hv180⟩ : ∃ v, eA g0 233 1 = v := ⟨_, rfl⟩
      have tv180 := congrArg Int32.toInt hv180
      have wv180 := HI.t1 hI0
      rw [hv180] at wv180
      have tv180 := congrArg Int32.toInt hv180
      have x181 := HI.eqA hI166 (p := 233) (j := 1) ((((eA_c (hF167.2.1 233 (by decide))).trans (eA_c gA_sI)).trans hv180))
      have x182 := HI.eqA hI0 (p := 233) (j := 4) (hv172)
      have x183 := HI.eqA hI0 (p := 233) (j := 0) (hv174)
      have x184 := HI.eqA hI0 (p := 233) (j := 0) (hv174)
      have x185 := HI.eqA hI0 (p := 233) (j := 5) (hv176)
      have x186 := HI.eqA hI0 (p := 233) (j := 6) (hv178)
      have x187 := HI.eqA hI0 (p := 233) (j := 1) (hv180)
      have x188 := HI.eqA hI0 (p := 233) (j := 0) (hv174)
      have x189 := HI.eqA hI0 (p := 233) (j := 4) (hv172)
      exact ⟨_, rfl, hI166, hF170, _, rfl, by omega, ⟨⟨by omega, by omega, by omega, by omega, by omega⟩, (by intro i i0 i1; refine Eq.trans ?_ (if_neg (show ¬ ((0 ≤ a2.toInt ∧ a2.toInt ≤ 99 ∧ 0 ≤ a1.toInt ∧ a1.toInt < (eA g0 233 0).toInt ∧ (eA g0 233 4).toInt < 8) ∧ i = 94 + 2 * (eA g0 233 4).toInt + 0) from by omega)).symm; refine Eq.trans ?_ (if_neg (show ¬ ((0 ≤ a2.toInt ∧ a2.toInt ≤ 99 ∧ 0 ≤ a1.toInt ∧ a1.toInt < (eA g0 233 0).toInt ∧ (eA g0 233 4).toInt < 8) ∧ i = 94 + 2 * (eA g0 233 4).toInt + 1) from by omega)).symm; refine (eA_ti (((hF167.2.1 233 (by decide)).trans (gA_sI)))).trans ?_; (first | rfl | exact eA_ix (by omega) | omega))⟩⟩
    · have c164_ : v137.toInt ≤ 99 := en_j_gt_f c164
      refine At.enter rfl ?_
      refine r_iconst 1 rfl ?_
      refine r_goto ?_
      refine At.enter rfl ?_
      refine q_iretz (by decide) ?_
      refine At.enter rfl ?_
      refine r_ift (by decide) ?_
      refine At.enter rfl ?_
      refine r_aload_n rfl ?_
      refine r_iload_n rfl ?_
      refine q_inlV 28 rfl [.ref 231, .int a1] [] (Nat.le_of_ble_eq_true rfl) rfl ?_
      refine Ev.mk rfl rfl ⟨Nat.le_of_ble_eq_true rfl, Or.inr (q_rc hI135.1 kx_231 rfl)⟩ ?_
      show At _ none _ _ (0, [(0, .ref 231), (1, .int a1)], [], (_, _)) _
      refine At.enter rfl ?_
      refine r_iload_n rfl ?_
      refine q_i2l (fun v190 hv190 => ?_)
      refine r_lconst 0 rfl ?_
      refine r_aload_n rfl ?_
      refine q_getR (Sh.ref hI135.1 kx_231 rfl) ?_
      refine r_iconst 0 rfl ?_
      obtain ⟨v191, hv191⟩ : ∃ v, eA g0 233 0 = v := ⟨_, rfl⟩
      have tv191 := congrArg Int32.toInt hv191
      have wv191 := HI.t0 hI0
      rw [hv191] at wv191
      refine q_iald (Sh.arr hI135.1 ka_233) 0 rfl (by decide) v191 ((eA_c (gA_sI)).trans hv191) ?_
      refine q_i2l (fun v192 hv192 => ?_)
      refine r_lconst 1 rfl ?_
      refine q_lsub (v192.toInt - 1) rfl (by omega) (fun v193 hv193 => ?_)
      refine q_inlS 15 rfl [.long v190, .long 0, .long v193] [] (Nat.le_of_ble_eq_true rfl) rfl ?_
      refine Ev.mk rfl rfl ⟨Nat.le_of_ble_eq_true rfl, Or.inl rfl⟩ ?_
      show At _ none _ _ (0, [(0, .long v190), (2, .long 0), (4, .long v193)], [], (_, _)) _
      refine At.enter rfl ?_
      refine r_lload_n rfl ?_
      refine r_lload_n rfl ?_
      refine r_lcmp _ rfl ?_
      refine r_ifs 6 rfl (fun c194 => ?_) (fun c194 => ?_)
      · have c194_ : v190.toInt < 0 := en_j_lt_t c194
        refine At.enter rfl ?_
        refine r_iconst 0 rfl ?_
        refine Ar.fall 18 rfl ?_
        refine At.enter rfl ?_
        refine q_iretz (by decide) ?_
        refine At.enter rfl ?_
        refine q_iretz (by decide) ?_
        refine At.enter rfl ?_
        refine r_iff 31 rfl (by decide) ?_
        refine At.enter rfl ?_
        refine r_aload_n rfl ?_
        refine r_bipush (-2) rfl ?_
        refine r_callV 37 rfl [.ref 231, .int (-2)] [] (Nat.le_of_ble_eq_true rfl) rfl (T_X11_tell_231 _ hI135 (-2) (by decide)) ?_
        rintro _ _ ⟨g195, rfl, hI196, hF197, v198, rfl, hr199⟩
        refine At.sti ?_
        have hF200 := Fr.tr hF136 hF197 rfl rfl
        have zv201 : ((-2) : Int32).toInt = (-2) := rfl
        refine At.enter rfl ?_
        refine r_ireti ?_
        obtain ⟨v202, hv202⟩ : ∃ v, eA g0 233 4 = v := ⟨_, rfl⟩
        have wv202 := HI.t4 hI0
        rw [hv202] at wv202
        have tv202 := congrArg Int32.toInt hv202
        have x203 := HI.eqA hI196 (p := 233) (j := 4) ((((eA_c (hF197.2.1 233 (by decide))).trans (eA_c gA_sI)).trans hv202))
        have x204 := HI.eqA hI196 (p := 233) (j := 0) ((((eA_c (hF197.2.1 233 (by decide))).trans (eA_c gA_sI)).trans hv191))
        obtain ⟨v205, hv205⟩ : ∃ v, eA g0 233 5 = v := ⟨_, rfl⟩
        have wv205 := HI.t5 hI0
        rw [hv205] at wv205
        have tv205 := congrArg Int32.toInt hv205
        have x206 := HI.eqA hI196 (p := 233) (j := 5) ((((eA_c (hF197.2.1 233 (by decide))).trans (eA_c gA_sI)).trans hv205))
        obtain ⟨v207, hv207⟩ : ∃ v, eA g0 233 6 = v := ⟨_, rfl⟩
        have wv207 := HI.t6 hI0
        rw [hv207] at wv207
        have tv207 := congrArg Int32.toInt hv207
        have x208 := HI.eqA hI196 (p := 233) (j := 6) ((((eA_c (hF197.2.1 233 (by decide))).trans (eA_c gA_sI)).trans hv207))
        obtain ⟨v209, hv209⟩ : ∃ v, eA g0 233 1 = v := ⟨_, rfl⟩
        have tv209 := congrArg Int32.toInt hv209
        have wv209 := HI.t1 hI0
        rw [hv209] at wv209
        have tv209 := congrArg Int32.toInt hv209
        have x210 := HI.eqA hI196 (p := 233) (j := 1) ((((eA_c (hF197.2.1 233 (by decide))).trans (eA_c gA_sI)).trans hv209))
        have x211 := HI.eqA hI0 (p := 233) (j := 4) (hv202)
        have x212 := HI.eqA hI0 (p := 233) (j := 0) (hv191)
        have x213 := HI.eqA hI0 (p := 233) (j := 0) (hv191)
        have x214 := HI.eqA hI0 (p := 233) (j := 5) (hv205)
        have x215 := HI.eqA hI0 (p := 233) (j := 6) (hv207)
        have x216 := HI.eqA hI0 (p := 233) (j := 1) (hv209)
        have x217 := HI.eqA hI0 (p := 233) (j := 0) (hv191)
        have x218 := HI.eqA hI0 (p := 233) (j := 4) (hv202)
        exact ⟨_, rfl, hI196, hF200, _, rfl, by omega, ⟨⟨by omega, by omega, by omega, by omega, by omega⟩, (by intro i i0 i1; refine Eq.trans ?_ (if_neg (show ¬ ((0 ≤ a2.toInt ∧ a2.toInt ≤ 99 ∧ 0 ≤ a1.toInt ∧ a1.toInt < (eA g0 233 0).toInt ∧ (eA g0 233 4).toInt < 8) ∧ i = 94 + 2 * (eA g0 233 4).toInt + 0) from by omega)).symm; refine Eq.trans ?_ (if_neg (show ¬ ((0 ≤ a2.toInt ∧ a2.toInt ≤ 99 ∧ 0 ≤ a1.toInt ∧ a1.toInt < (eA g0 233 0).toInt ∧ (eA g0 233 4).toInt < 8) ∧ i = 94 + 2 * (eA g0 233 4).toInt + 1) from by omega)).symm; refine (eA_ti (((hF197.2.1 233 (by decide)).trans (gA_sI)))).trans ?_; (first | rfl | exact eA_ix (by omega) | omega))⟩⟩
      · have c194_ : v190.toInt ≥ 0 := en_j_lt_f c194
        refine At.enter rfl ?_
        refine r_lload_n rfl ?_
        refine r_lload rfl ?_
        refine r_lcmp _ rfl ?_
        refine r_ifs 13 rfl (fun c219 => ?_) (fun c219 => ?_)
        · have c219_ : v190.toInt > v193.toInt := en_j_gt_t c219
          refine At.enter rfl ?_
          refine r_iconst 0 rfl ?_
          refine Ar.fall 18 rfl ?_
          refine At.enter rfl ?_
          refine q_iretz (by decide) ?_
          refine At.enter rfl ?_
          refine q_iretz (by decide) ?_
          refine At.enter rfl ?_
          refine r_iff 31 rfl (by decide) ?_
          refine At.enter rfl ?_
          refine r_aload_n rfl ?_
          refine r_bipush (-2) rfl ?_
          refine r_callV 37 rfl [.ref 231, .int (-2)] [] (Nat.le_of_ble_eq_true rfl) rfl (T_X11_tell_231 _ hI135 (-2) (by decide)) ?_
          rintro _ _ ⟨g220, rfl, hI221, hF222, v223, rfl, hr224⟩
          refine At.sti ?_
          have hF225 := Fr.tr hF136 hF222 rfl rfl
          have zv226 : ((-2) : Int32).toInt = (-2) := rfl
          refine At.enter rfl ?_
          refine r_ireti ?_
          obtain ⟨v227, hv227⟩ : ∃ v, eA g0 233 4 = v := ⟨_, rfl⟩
          have wv227 := HI.t4 hI0
          rw [hv227] at wv227
          have tv227 := congrArg Int32.toInt hv227
          have x228 := HI.eqA hI221 (p := 233) (j := 4) ((((eA_c (hF222.2.1 233 (by decide))).trans (eA_c gA_sI)).trans hv227))
          have x229 := HI.eqA hI221 (p := 233) (j := 0) ((((eA_c (hF222.2.1 233 (by decide))).trans (eA_c gA_sI)).trans hv191))
          obtain ⟨v230, hv230⟩ : ∃ v, eA g0 233 5 = v := ⟨_, rfl⟩
          have wv230 := HI.t5 hI0
          rw [hv230] at wv230
          have tv230 := congrArg Int32.toInt hv230
          have x231 := HI.eqA hI221 (p := 233) (j := 5) ((((eA_c (hF222.2.1 233 (by decide))).trans (eA_c gA_sI)).trans hv230))
          obtain ⟨v232, hv232⟩ : ∃ v, eA g0 233 6 = v := ⟨_, rfl⟩
          have wv232 := HI.t6 hI0
          rw [hv232] at wv232
          have tv232 := congrArg Int32.toInt hv232
          have x233 := HI.eqA hI221 (p := 233) (j := 6) ((((eA_c (hF222.2.1 233 (by decide))).trans (eA_c gA_sI)).trans hv232))
          obtain ⟨v234, hv234⟩ : ∃ v, eA g0 233 1 = v := ⟨_, rfl⟩
          have tv234 := congrArg Int32.toInt hv234
          have wv234 := HI.t1 hI0
          rw [hv234] at wv234
          have tv234 := congrArg Int32.toInt hv234
          have x235 := HI.eqA hI221 (p := 233) (j := 1) ((((eA_c (hF222.2.1 233 (by decide))).trans (eA_c gA_sI)).trans hv234))
          have x236 := HI.eqA hI0 (p := 233) (j := 4) (hv227)
          have x237 := HI.eqA hI0 (p := 233) (j := 0) (hv191)
          have x238 := HI.eqA hI0 (p := 233) (j := 0) (hv191)
          have x239 := HI.eqA hI0 (p := 233) (j := 5) (hv230)
          have x240 := HI.eqA hI0 (p := 233) (j := 6) (hv232)
          have x241 := HI.eqA hI0 (p := 233) (j := 1) (hv234)
          have x242 := HI.eqA hI0 (p := 233) (j := 0) (hv191)
          have x243 := HI.eqA hI0 (p := 233) (j := 4) (hv227)
          exact ⟨_, rfl, hI221, hF225, _, rfl, by omega, ⟨⟨by omega, by omega, by omega, by omega, by omega⟩, (by intro i i0 i1; refine Eq.trans ?_ (if_neg (show ¬ ((0 ≤ a2.toInt ∧ a2.toInt ≤ 99 ∧ 0 ≤ a1.toInt ∧ a1.toInt < (eA g0 233 0).toInt ∧ (eA g0 233 4).toInt < 8) ∧ i = 94 + 2 * (eA g0 233 4).toInt + 0) from by omega)).symm; refine Eq.trans ?_ (if_neg (show ¬ ((0 ≤ a2.toInt ∧ a2.toInt ≤ 99 ∧ 0 ≤ a1.toInt ∧ a1.toInt < (eA g0 233 0).toInt ∧ (eA g0 233 4).toInt < 8) ∧ i = 94 + 2 * (eA g0 233 4).toInt + 1) from by omega)).symm; refine (eA_ti (((hF222.2.1 233 (by decide)).trans (gA_sI)))).trans ?_; (first | rfl | exact eA_ix (by omega) | omega))⟩⟩
        · have c219_ : v190.toInt ≤ v193.toInt := en_j_gt_f c219
          refine At.enter rfl ?_
          refine r_iconst 1 rfl ?_
          refine r_goto ?_
          refine At.enter rfl ?_
          refine q_iretz (by decide) ?_
          refine At.enter rfl ?_
          refine q_iretz (by decide) ?_
          refine At.enter rfl ?_
          refine r_ift (by decide) ?_
          refine At.enter rfl ?_
          refine r_aload_n rfl ?_
          refine q_getR (Sh.ref hI135.1 kx_231 rfl) ?_
          refine r_iconst 4 rfl ?_
          obtain ⟨v244, hv244⟩ : ∃ v, eA g0 233 4 = v := ⟨_, rfl⟩
          have wv244 := HI.t4 hI0
          rw [hv244] at wv244
          refine q_iald (Sh.arr hI135.1 ka_233) 4 rfl (by decide) v244 ((eA_c (gA_sI)).trans hv244) ?_
          refine r_istore_n ([(3, .int v244), (0, .ref 231), (1, .int a1), (2, .int a2)]) rfl ?_
          refine r_iload_n rfl ?_
          refine r_bipush 8 rfl ?_
          refine r_ics 51 rfl (fun c245 => ?_) (fun c245 => ?_)
          · have c245_ : v244.toInt ≠ 8 := en_i_ne_t c245
            refine At.enter rfl ?_
            refine r_aload_n rfl ?_
            refine q_getR (Sh.ref hI135.1 kx_231 rfl) ?_
            refine r_bipush 94 rfl ?_
            refine r_iconst 2 rfl ?_
            refine r_iload_n rfl ?_
            refine q_imul (2 * v244.toInt) rfl (by omega) (fun v246 hv246 => ?_)
            refine q_iadd (94 + v246.toInt) rfl (by omega) (fun v247 hv247 => ?_)
            refine r_iload_n rfl ?_
            refine q_iast (Sh.arr hI135.1 ka_233) ((2 * v244.toInt + 94)) (by omega) (by omega) ?_
            have hI248 := HI.wg hI135 (j := (2 * v244.toInt + 94)) (v := a1) (v244.toInt) 0 (by omega) (by decide) (by omega) (by omega)
            have hF249 := Fr.wA (p := 233) (j := (2 * v244.toInt + 94)) (v := a1) hF136 rfl
            refine r_aload_n rfl ?_
            refine q_getR (Sh.ref hI248.1 kx_231 rfl) ?_
            refine r_bipush 94 rfl ?_
            refine r_iconst 2 rfl ?_
            refine r_iload_n rfl ?_
            refine q_imul (2 * v244.toInt) rfl (by omega) (fun v250 hv250 => ?_)
            refine q_iadd (94 + v250.toInt) rfl (by omega) (fun v251 hv251 => ?_)
            refine r_iconst 1 rfl ?_
            refine q_iadd (v251.toInt + 1) rfl (by omega) (fun v252 hv252 => ?_)
            refine r_iload_n rfl ?_
            refine q_iast (Sh.arr hI248.1 ka_233) ((2 * v244.toInt + 95)) (by omega) (by omega) ?_
            have hI253 := HI.wg hI248 (j := (2 * v244.toInt + 95)) (v := a2) (v244.toInt) 1 (by omega) (by decide) (by omega) (by omega)
            have hF254 := Fr.wA (p := 233) (j := (2 * v244.toInt + 95)) (v := a2) hF249 rfl
            refine r_aload_n rfl ?_
            refine q_getR (Sh.ref hI253.1 kx_231 rfl) ?_
            refine r_iconst 4 rfl ?_
            refine r_dup2 ⟨rfl, rfl⟩ ?_
            refine q_iald (Sh.arr hI253.1 ka_233) 4 rfl (by decide) v244 (((eA_sA_ne hI248.1 ka_233 (by first | decide | omega) (by first | decide | omega) (by first | decide | omega)).trans ((eA_sA_ne hI135.1 ka_233 (by first | decide | omega) (by first | decide | omega) (by first | decide | omega)).trans (eA_c gA_sI))).trans hv244) ?_
            refine r_iconst 1 rfl ?_
            refine q_iadd (v244.toInt + 1) rfl (by omega) (fun v255 hv255 => ?_)
            refine q_iast (Sh.arr hI253.1 ka_233) (4) rfl (by decide) ?_
            have hI256 := HI.wt hI253 (j := 4) (v := v255) (by omega) (by omega)
            have hF257 := Fr.wA (p := 233) (j := 4) (v := v255) hF254 rfl
            refine r_aload_n rfl ?_
            refine r_iload_n rfl ?_
            refine r_iconst 1 rfl ?_
            refine q_iadd (v244.toInt + 1) rfl (by omega) (fun v258 hv258 => ?_)
            refine r_callV 101 rfl [.ref 231, .int v258] [] (Nat.le_of_ble_eq_true rfl) rfl (T_X11_tell_231 _ hI256 v258 (by omega)) ?_
            rintro _ _ ⟨g259, rfl, hI260, hF261, v262, rfl, hr263⟩
            refine At.sti ?_
            have hF264 := Fr.tr hF257 hF261 rfl rfl
            refine At.enter rfl ?_
            refine r_ireti ?_
            have x265 := HI.eqA hI260 (p := 233) (j := 4) (((eA_c (hF261.2.1 233 (by decide))).trans (eA_sA_eq hI253.1 ka_233 (by first | rfl | omega) (by first | decide | omega) (by first | decide | omega))))
            have x266 := HI.eqA hI260 (p := 233) (j := 0) ((((eA_c (hF261.2.1 233 (by decide))).trans ((eA_sA_ne hI253.1 ka_233 (by first | decide | omega) (by first | decide | omega) (by first | decide | omega)).trans ((eA_sA_ne hI248.1 ka_233 (by first | decide | omega) (by first | decide | omega) (by first | decide | omega)).trans ((eA_sA_ne hI135.1 ka_233 (by first | decide | omega) (by first | decide | omega) (by first | decide | omega)).trans (eA_c gA_sI))))).trans hv191))
            obtain ⟨v267, hv267⟩ : ∃ v, eA g0 233 5 = v := ⟨_, rfl⟩
            have wv267 := HI.t5 hI0
            rw [hv267] at wv267
            have tv267 := congrArg Int32.toInt hv267
            have x268 := HI.eqA hI260 (p := 233) (j := 5) ((((eA_c (hF261.2.1 233 (by decide))).trans ((eA_sA_ne hI253.1 ka_233 (by first | decide | omega) (by first | decide | omega) (by first | decide | omega)).trans ((eA_sA_ne hI248.1 ka_233 (by first | decide | omega) (by first | decide | omega) (by first | decide | omega)).trans ((eA_sA_ne hI135.1 ka_233 (by first | decide | omega) (by first | decide | omega) (by first | decide | omega)).trans (eA_c gA_sI))))).trans hv267))
            obtain ⟨v269, hv269⟩ : ∃ v, eA g0 233 6 = v := ⟨_, rfl⟩
            have wv269 := HI.t6 hI0
            rw [hv269] at wv269
            have tv269 := congrArg Int32.toInt hv269
            have x270 := HI.eqA hI260 (p := 233) (j := 6) ((((eA_c (hF261.2.1 233 (by decide))).trans ((eA_sA_ne hI253.1 ka_233 (by first | decide | omega) (by first | decide | omega) (by first | decide | omega)).trans ((eA_sA_ne hI248.1 ka_233 (by first | decide | omega) (by first | decide | omega) (by first | decide | omega)).trans ((eA_sA_ne hI135.1 ka_233 (by first | decide | omega) (by first | decide | omega) (by first | decide | omega)).trans (eA_c gA_sI))))).trans hv269))
            obtain ⟨v271, hv271⟩ : ∃ v, eA g0 233 1 = v := ⟨_, rfl⟩
            have tv271 := congrArg Int32.toInt hv271
            have wv271 := HI.t1 hI0
            rw [hv271] at wv271
            have tv271 := congrArg Int32.toInt hv271
            have x272 := HI.eqA hI260 (p := 233) (j := 1) ((((eA_c (hF261.2.1 233 (by decide))).trans ((eA_sA_ne hI253.1 ka_233 (by first | decide | omega) (by first | decide | omega) (by first | decide | omega)).trans ((eA_sA_ne hI248.1 ka_233 (by first | decide | omega) (by first | decide | omega) (by first | decide | omega)).trans ((eA_sA_ne hI135.1 ka_233 (by first | decide | omega) (by first | decide | omega) (by first | decide | omega)).trans (eA_c gA_sI))))).trans hv271))
            have x273 := HI.eqA hI0 (p := 233) (j := 4) (hv244)
            have x274 := HI.eqA hI0 (p := 233) (j := 0) (hv191)
            have x275 := HI.eqA hI0 (p := 233) (j := 0) (hv191)
            have x276 := HI.eqA hI0 (p := 233) (j := 5) (hv267)
            have x277 := HI.eqA hI0 (p := 233) (j := 6) (hv269)
            have x278 := HI.eqA hI0 (p := 233) (j := 1) (hv271)
            have x279 := HI.eqA hI0 (p := 233) (j := 0) (hv191)
            have x280 := HI.eqA hI0 (p := 233) (j := 4) (hv244)
            exact ⟨_, rfl, hI260, hF264, _, rfl, by omega, ⟨⟨by omega, by omega, by omega, by omega, by omega⟩, (by intro i i0 i1; exact (Decidable.em ((0 ≤ a2.toInt ∧ a2.toInt ≤ 99 ∧ 0 ≤ a1.toInt ∧ a1.toInt < (eA g0 233 0).toInt ∧ (eA g0 233 4).toInt < 8) ∧ i = 94 + 2 * (eA g0 233 4).toInt + 0)).elim (fun k393_ => by refine Eq.trans ?_ (if_pos k393_).symm; refine (eA_ti ((hF261.2.1 233 (by decide)))).trans ?_; exact (Decidable.em (i = 4)).elim (fun k394_ => by refine (eA_eqT hI253.1 ka_233 k394_ (by first | decide | omega) (by first | decide | omega)).trans ?_; (first | (rfl) | (omega))) (fun k394_ => by refine (eA_neT hI253.1 ka_233 k394_ (by first | decide | omega) (by omega)).trans ?_; exact (Decidable.em (i = (2 * v244.toInt + 95))).elim (fun k395_ => by refine (eA_eqT hI248.1 ka_233 k395_ (by first | decide | omega) (by first | decide | omega)).trans ?_; (first | (rfl) | (omega))) (fun k395_ => by refine (eA_neT hI248.1 ka_233 k395_ (by first | decide | omega) (by omega)).trans ?_; exact (Decidable.em (i = (2 * v244.toInt + 94))).elim (fun k396_ => by refine (eA_eqT hI135.1 ka_233 k396_ (by first | decide | omega) (by first | decide | omega)).trans ?_; (first | (rfl) | (omega))) (fun k396_ => by refine (eA_neT hI135.1 ka_233 k396_ (by first | decide | omega) (by omega)).trans ?_; refine (eA_ti ((gA_sI))).trans ?_; (first | rfl | exact eA_ix (by omega) | omega))))) (fun k393_ => by refine Eq.trans ?_ (if_neg k393_).symm; exact (Decidable.em ((0 ≤ a2.toInt ∧ a2.toInt ≤ 99 ∧ 0 ≤ a1.toInt ∧ a1.toInt < (eA g0 233 0).toInt ∧ (eA g0 233 4).toInt < 8) ∧ i = 94 + 2 * (eA g0 233 4).toInt + 1)).elim (fun k397_ => by refine Eq.trans ?_ (if_pos k397_).symm; refine (eA_ti ((hF261.2.1 233 (by decide)))).trans ?_; exact (Decidable.em (i = 4)).elim (fun k398_ => by refine (eA_eqT hI253.1 ka_233 k398_ (by first | decide | omega) (by first | decide | omega)).trans ?_; (first | (rfl) | (omega))) (fun k398_ => by refine (eA_neT hI253.1 ka_233 k398_ (by first | decide | omega) (by omega)).trans ?_; exact (Decidable.em (i = (2 * v244.toInt + 95))).elim (fun k399_ => by refine (eA_eqT hI248.1 ka_233 k399_ (by first | decide | omega) (by first | decide | omega)).trans ?_; (first | (rfl) | (omega))) (fun k399_ => by refine (eA_neT hI248.1 ka_233 k399_ (by first | decide | omega) (by omega)).trans ?_; exact (Decidable.em (i = (2 * v244.toInt + 94))).elim (fun k400_ => by refine (eA_eqT hI135.1 ka_233 k400_ (by first | decide | omega) (by first | decide | omega)).trans ?_; (first | (rfl) | (omega))) (fun k400_ => by refine (eA_neT hI135.1 ka_233 k400_ (by first | decide | omega) (by omega)).trans ?_; refine (eA_ti ((gA_sI))).trans ?_; (first | rfl | exact eA_ix (by omega) | omega))))) (fun k397_ => by refine Eq.trans ?_ (if_neg k397_).symm; refine (eA_ti ((hF261.2.1 233 (by decide)))).trans ?_; exact (Decidable.em (i = 4)).elim (fun k401_ => by refine (eA_eqT hI253.1 ka_233 k401_ (by first | decide | omega) (by first | decide | omega)).trans ?_; (first | (rfl) | (omega))) (fun k401_ => by refine (eA_neT hI253.1 ka_233 k401_ (by first | decide | omega) (by omega)).trans ?_; exact (Decidable.em (i = (2 * v244.toInt + 95))).elim (fun k402_ => by refine (eA_eqT hI248.1 ka_233 k402_ (by first | decide | omega) (by first | decide | omega)).trans ?_; (first | (rfl) | (omega))) (fun k402_ => by refine (eA_neT hI248.1 ka_233 k402_ (by first | decide | omega) (by omega)).trans ?_; exact (Decidable.em (i = (2 * v244.toInt + 94))).elim (fun k403_ => by refine (eA_eqT hI135.1 ka_233 k403_ (by first | decide | omega) (by first | decide | omega)).trans ?_; (first | (rfl) | (omega))) (fun k403_ => by refine (eA_neT hI135.1 ka_233 k403_ (by first | decide | omega) (by omega)).trans ?_; refine (eA_ti ((gA_sI))).trans ?_; (first | rfl | exact eA_ix (by omega) | omega)))))))⟩⟩
          · have c245_ : v244.toInt = 8 := en_i_ne_f c245
            refine At.enter rfl ?_
            refine r_aload_n rfl ?_
            refine r_bipush (-5) rfl ?_
            refine r_callV 57 rfl [.ref 231, .int (-5)] [] (Nat.le_of_ble_eq_true rfl) rfl (T_X11_tell_231 _ hI135 (-5) (by decide)) ?_
            rintro _ _ ⟨g281, rfl, hI282, hF283, v284, rfl, hr285⟩
            refine At.sti ?_
            have hF286 := Fr.tr hF136 hF283 rfl rfl
            have zv287 : ((-5) : Int32).toInt = (-5) := rfl
            refine At.enter rfl ?_
            refine r_ireti ?_
            have x288 := HI.eqA hI282 (p := 233) (j := 4) ((((eA_c (hF283.2.1 233 (by decide))).trans (eA_c gA_sI)).trans hv244))
            have x289 := HI.eqA hI282 (p := 233) (j := 0) ((((eA_c (hF283.2.1 233 (by decide))).trans (eA_c gA_sI)).trans hv191))
            obtain ⟨v290, hv290⟩ : ∃ v, eA g0 233 5 = v := ⟨_, rfl⟩
            have wv290 := HI.t5 hI0
            rw [hv290] at wv290
            have tv290 := congrArg Int32.toInt hv290
            have x291 := HI.eqA hI282 (p := 233) (j := 5) ((((eA_c (hF283.2.1 233 (by decide))).trans (eA_c gA_sI)).trans hv290))
            obtain ⟨v292, hv292⟩ : ∃ v, eA g0 233 6 = v := ⟨_, rfl⟩
            have wv292 := HI.t6 hI0
            rw [hv292] at wv292
            have tv292 := congrArg Int32.toInt hv292
            have x293 := HI.eqA hI282 (p := 233) (j := 6) ((((eA_c (hF283.2.1 233 (by decide))).trans (eA_c gA_sI)).trans hv292))
            obtain ⟨v294, hv294⟩ : ∃ v, eA g0 233 1 = v := ⟨_, rfl⟩
            have tv294 := congrArg Int32.toInt hv294
            have wv294 := HI.t1 hI0
            rw [hv294] at wv294
            have tv294 := congrArg Int32.toInt hv294
            have x295 := HI.eqA hI282 (p := 233) (j := 1) ((((eA_c (hF283.2.1 233 (by decide))).trans (eA_c gA_sI)).trans hv294))
            have x296 := HI.eqA hI0 (p := 233) (j := 4) (hv244)
            have x297 := HI.eqA hI0 (p := 233) (j := 0) (hv191)
            have x298 := HI.eqA hI0 (p := 233) (j := 0) (hv191)
            have x299 := HI.eqA hI0 (p := 233) (j := 5) (hv290)
            have x300 := HI.eqA hI0 (p := 233) (j := 6) (hv292)
            have x301 := HI.eqA hI0 (p := 233) (j := 1) (hv294)
            have x302 := HI.eqA hI0 (p := 233) (j := 0) (hv191)
            have x303 := HI.eqA hI0 (p := 233) (j := 4) (hv244)
            exact ⟨_, rfl, hI282, hF286, _, rfl, by omega, ⟨⟨by omega, by omega, by omega, by omega, by omega⟩, (by intro i i0 i1; refine Eq.trans ?_ (if_neg (show ¬ ((0 ≤ a2.toInt ∧ a2.toInt ≤ 99 ∧ 0 ≤ a1.toInt ∧ a1.toInt < (eA g0 233 0).toInt ∧ (eA g0 233 4).toInt < 8) ∧ i = 94 + 2 * (eA g0 233 4).toInt + 0) from by omega)).symm; refine Eq.trans ?_ (if_neg (show ¬ ((0 ≤ a2.toInt ∧ a2.toInt ≤ 99 ∧ 0 ≤ a1.toInt ∧ a1.toInt < (eA g0 233 0).toInt ∧ (eA g0 233 4).toInt < 8) ∧ i = 94 + 2 * (eA g0 233 4).toInt + 1) from by omega)).symm; refine (eA_ti (((hF283.2.1 233 (by decide)).trans (gA_sI)))).trans ?_; (first | rfl | exact eA_ix (by omega) | omega))⟩⟩

def F_X11_clear_231 : List (Nat × Nat) := [(231, 0)]
def A_X11_clear_231 : List Nat := [233]
set_option maxRecDepth 100000 in
set_option maxHeartbeats 4000000 in
theorem T_X11_clear_231 (d : Nat) {N : Nat} {g0 : List en_E} (hI0 : HI g0) : Ev (d + 1) 255 [.ref 231] (g0, N) (fun w h' => ∃ g', h' = (g', N) ∧ HI g' ∧ Fr F_X11_clear_231 A_X11_clear_231 g0 g' ∧ ∃ r : Int32, w = some (.int r) ∧ (0 ≤ r.toInt ∧ r.toInt ≤ 8) ∧ (((r.toInt = (eA g0 233 4).toInt ∧ (eA g' 233 4).toInt = 0) ∧ (eA g' 233 0).toInt = (eA g0 233 0).toInt ∧ (eA g' 233 5).toInt = (eA g0 233 5).toInt ∧ (eA g' 233 6).toInt = (eA g0 233 6).toInt ∧ (eA g' 233 1).toInt = (eA g0 233 1).toInt) ∧ (∀ i : Int, 10 ≤ i → i < 110 → (eA g' 233 (i)).toInt = (eA g0 233 (i)).toInt))) := by
  have hF0 : Fr F_X11_clear_231 A_X11_clear_231 g0 g0 := Fr.rf
  refine Ev.mk rfl rfl ⟨Nat.le_of_ble_eq_true rfl, Or.inr (q_rc hI0.1 kx_231 rfl)⟩ ?_
  show At _ none _ _ (0, [(0, .ref 231)], [], (_, _)) _
  refine At.enter rfl ?_
  refine r_aload_n rfl ?_
  refine r_iconst 0 rfl ?_
  refine q_putI (Sh.int hI0.1 kx_231 rfl) rfl ?_
  have hI13 := HI.wI0 hI0 kx_231 rfl (p := 231) (b := 0) (v := 0) rfl
  have hF14 := Fr.wI (p := 231) (b := 0) (v := 0) hF0 rfl
  refine r_aload_n rfl ?_
  refine q_getR (Sh.ref hI13.1 kx_231 rfl) ?_
  refine r_iconst 4 rfl ?_
  obtain ⟨v15, hv15⟩ : ∃ v, eA g0 233 4 = v := ⟨_, rfl⟩
  have wv15 := HI.t4 hI0
  rw [hv15] at wv15
  refine q_iald (Sh.arr hI13.1 ka_233) 4 rfl (by decide) v15 ((eA_c (gA_sI)).trans hv15) ?_
  refine r_istore_n ([(1, .int v15), (0, .ref 231)]) rfl ?_
  refine r_aload_n rfl ?_
  refine q_getR (Sh.ref hI13.1 kx_231 rfl) ?_
  refine r_iconst 4 rfl ?_
  refine r_iconst 0 rfl ?_
  refine q_iast (Sh.arr hI13.1 ka_233) (4) rfl (by decide) ?_
  have zv18 : (0 : Int32).toInt = 0 := rfl
  have hI16 := HI.wt hI13 (j := 4) (v := 0) (by omega) (by omega)
  have hF17 := Fr.wA (p := 233) (j := 4) (v := 0) hF14 rfl
  refine r_iload_n rfl ?_
  refine r_ireti ?_
  have x19 := HI.eqA hI16 (p := 233) (j := 4) ((eA_sA_eq hI13.1 ka_233 (by first | rfl | omega) (by first | decide | omega) (by first | decide | omega)))
  have zv20 : (0 : Int32).toInt = 0 := rfl
  obtain ⟨v21, hv21⟩ : ∃ v, eA g0 233 0 = v := ⟨_, rfl⟩
  have tv21 := congrArg Int32.toInt hv21
  have wv21 := HI.t0 hI0
  rw [hv21] at wv21
  have tv21 := congrArg Int32.toInt hv21
  have x22 := HI.eqA hI16 (p := 233) (j := 0) ((((eA_sA_ne hI13.1 ka_233 (by first | decide | omega) (by first | decide | omega) (by first | decide | omega)).trans (eA_c gA_sI)).trans hv21))
  obtain ⟨v23, hv23⟩ : ∃ v, eA g0 233 5 = v := ⟨_, rfl⟩
  have wv23 := HI.t5 hI0
  rw [hv23] at wv23
  have tv23 := congrArg Int32.toInt hv23
  have x24 := HI.eqA hI16 (p := 233) (j := 5) ((((eA_sA_ne hI13.1 ka_233 (by first | decide | omega) (by first | decide | omega) (by first | decide | omega)).trans (eA_c gA_sI)).trans hv23))
  obtain ⟨v25, hv25⟩ : ∃ v, eA g0 233 6 = v := ⟨_, rfl⟩
  have wv25 := HI.t6 hI0
  rw [hv25] at wv25
  have tv25 := congrArg Int32.toInt hv25
  have x26 := HI.eqA hI16 (p := 233) (j := 6) ((((eA_sA_ne hI13.1 ka_233 (by first | decide | omega) (by first | decide | omega) (by first | decide | omega)).trans (eA_c gA_sI)).trans hv25))
  obtain ⟨v27, hv27⟩ : ∃ v, eA g0 233 1 = v := ⟨_, rfl⟩
  have tv27 := congrArg Int32.toInt hv27
  have wv27 := HI.t1 hI0
  rw [hv27] at wv27
  have tv27 := congrArg Int32.toInt hv27
  have x28 := HI.eqA hI16 (p := 233) (j := 1) ((((eA_sA_ne hI13.1 ka_233 (by first | decide | omega) (by first | decide | omega) (by first | decide | omega)).trans (eA_c gA_sI)).trans hv27))
  have x29 := HI.eqA hI0 (p := 233) (j := 4) (hv15)
  have x30 := HI.eqA hI0 (p := 233) (j := 0) (hv21)
  have x31 := HI.eqA hI0 (p := 233) (j := 5) (hv23)
  have x32 := HI.eqA hI0 (p := 233) (j := 6) (hv25)
  have x33 := HI.eqA hI0 (p := 233) (j := 1) (hv27)
  exact ⟨_, rfl, hI16, hF17, _, rfl, by omega, ⟨⟨by omega, by omega, by omega, by omega, by omega⟩, (by intro i i0 i1; exact (Decidable.em (i = 4)).elim (fun k404_ => by refine (eA_eqT hI13.1 ka_233 k404_ (by first | decide | omega) (by first | decide | omega)).trans ?_; (first | rfl | exact eA_ix (by omega) | omega)) (fun k404_ => by refine (eA_neT hI13.1 ka_233 k404_ (by first | decide | omega) (by omega)).trans ?_; refine (eA_ti ((gA_sI))).trans ?_; (first | rfl | exact eA_ix (by omega) | omega)))⟩⟩
