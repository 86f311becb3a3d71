def F_X11_drop_231 : List (Nat × Nat) := [(231, 0), (231, 1)]
def A_X11_drop_231 : List Nat := [232, 233]
set_option maxRecDepth 100000 in
set_option maxHeartbeats 4000000 in
theorem T_X11_drop_231 (d : Nat) {N : Nat} {g0 : List en_E} (hI0 : HI g0) (a1 : Int32) : Ev (d + 3) 180 [.ref 231, .int a1] (g0, N) (fun w h' => ∃ g', h' = (g', N) ∧ HI g' ∧ Fr F_X11_drop_231 A_X11_drop_231 g0 g' ∧ ∃ r : Int32, w = some (.int r) ∧ ((-2) ≤ r.toInt ∧ r.toInt ≤ 7) ∧ (((0 ≤ a1.toInt ∧ a1.toInt < (eA g0 233 1).toInt → r.toInt = (eA g0 233 1).toInt - 1 ∧ (eA g' 233 1).toInt = (eA g0 233 1).toInt - 1) ∧ (¬ (0 ≤ a1.toInt ∧ a1.toInt < (eA g0 233 1).toInt) → r.toInt = -2 ∧ (eA g' 233 1).toInt = (eA g0 233 1).toInt) ∧ (eA g' 233 0).toInt = (eA g0 233 0).toInt ∧ (eA g' 233 4).toInt = (eA g0 233 4).toInt ∧ (eA g' 233 5).toInt = (eA g0 233 5).toInt ∧ (eA g' 233 6).toInt = (eA g0 233 6).toInt) ∧ (∀ i : Int, 10 ≤ i → i < 46 → (eA g' 233 (i)).toInt = (eA g0 233 (i)).toInt) ∧ (∀ i : Int, 94 ≤ i → i < 110 → (eA g' 233 (i)).toInt = (eA g0 233 (i)).toInt) ∧ (∀ i : Int, 46 ≤ i → i < 94 → (eA g' 233 (i)).toInt = if (0 ≤ a1.toInt ∧ a1.toInt < (eA g0 233 1).toInt) ∧ 46 + 6 * a1.toInt ≤ i ∧ i < 88 then (eA g0 233 (i + 6)).toInt else (eA g0 233 (i)).toInt))) := by
  have hF0 : Fr F_X11_drop_231 A_X11_drop_231 g0 g0 := Fr.rf
  refine Ev.mk rfl rfl ⟨Nat.le_of_ble_eq_true rfl, Or.inr (q_rc hI0.1 kx_231 rfl)⟩ ?_
  show At _ none _ _ (0, [(0, .ref 231), (1, .int a1)], [], (_, _)) _
  refine At.enter rfl ?_
  refine r_aload_n rfl ?_
  refine r_iconst 0 rfl ?_
  refine q_putI (Sh.int hI0.1 kx_231 rfl) rfl ?_
  have hI185 := HI.wI0 hI0 kx_231 rfl (p := 231) (b := 0) (v := 0) rfl
  have hF186 := Fr.wI (p := 231) (b := 0) (v := 0) hF0 rfl
  refine r_aload_n rfl ?_
  refine r_iload_n rfl ?_
  refine q_inlV 10 rfl [.ref 231, .int a1] [] (Nat.le_of_ble_eq_true rfl) rfl ?_
  refine Ev.mk rfl rfl ⟨Nat.le_of_ble_eq_true rfl, Or.inr (q_rc hI185.1 kx_231 rfl)⟩ ?_
  show At _ none _ _ (0, [(0, .ref 231), (1, .int a1)], [], (_, _)) _
  refine At.enter rfl ?_
  refine r_iload_n rfl ?_
  refine q_i2l (fun v187 hv187 => ?_)
  refine r_lconst 0 rfl ?_
  refine r_aload_n rfl ?_
  refine q_getR (Sh.ref hI185.1 kx_231 rfl) ?_
  refine r_iconst 1 rfl ?_
  obtain ⟨v188, hv188⟩ : ∃ v, eA g0 233 1 = v := ⟨_, rfl⟩
  have tv188 := congrArg Int32.toInt hv188
  have wv188 := HI.t1 hI0
  rw [hv188] at wv188
  refine q_iald (Sh.arr hI185.1 ka_233) 1 rfl (by decide) v188 ((eA_c (gA_sI)).trans hv188) ?_
  refine q_i2l (fun v189 hv189 => ?_)
  refine r_lconst 1 rfl ?_
  refine q_lsub (v189.toInt - 1) rfl (by omega) (fun v190 hv190 => ?_)
  refine q_inlS 15 rfl [.long v187, .long 0, .long v190] [] (Nat.le_of_ble_eq_true rfl) rfl ?_
  refine Ev.mk rfl rfl ⟨Nat.le_of_ble_eq_true rfl, Or.inl rfl⟩ ?_
  show At _ none _ _ (0, [(0, .long v187), (2, .long 0), (4, .long v190)], [], (_, _)) _
  refine At.enter rfl ?_
  refine r_lload_n rfl ?_
  refine r_lload_n rfl ?_
  refine r_lcmp _ rfl ?_
  refine r_ifs 6 rfl (fun c191 => ?_) (fun c191 => ?_)
  · have c191_ : v187.toInt < 0 := en_j_lt_t c191
    refine At.enter rfl ?_
    refine r_iconst 0 rfl ?_
    refine Ar.fall 18 rfl ?_
    refine At.enter rfl ?_
    refine q_iretz (by decide) ?_
    refine At.enter rfl ?_
    refine q_iretz (by decide) ?_
    refine At.enter rfl ?_
    refine r_iff 13 rfl (by decide) ?_
    refine At.enter rfl ?_
    refine r_aload_n rfl ?_
    refine r_bipush (-2) rfl ?_
    refine r_callV 19 rfl [.ref 231, .int (-2)] [] (Nat.le_of_ble_eq_true rfl) rfl (T_X11_tell_231 _ hI185 (-2) (by decide)) ?_
    rintro _ _ ⟨g192, rfl, hI193, hF194, v195, rfl, hr196⟩
    refine At.sti ?_
    have hF197 := Fr.tr hF186 hF194 rfl rfl
    have zv198 : ((-2) : Int32).toInt = (-2) := rfl
    refine At.enter rfl ?_
    refine r_ireti ?_
    have x199 := HI.eqA hI193 (p := 233) (j := 1) ((((eA_c (hF194.2.1 233 (by decide))).trans (eA_c gA_sI)).trans hv188))
    obtain ⟨v200, hv200⟩ : ∃ v, eA g0 233 0 = v := ⟨_, rfl⟩
    have tv200 := congrArg Int32.toInt hv200
    have wv200 := HI.t0 hI0
    rw [hv200] at wv200
    have tv200 := congrArg Int32.toInt hv200
    have x201 := HI.eqA hI193 (p := 233) (j := 0) ((((eA_c (hF194.2.1 233 (by decide))).trans (eA_c gA_sI)).trans hv200))
    obtain ⟨v202, hv202⟩ : ∃ v, eA g0 233 4 = v := ⟨_, rfl⟩
    have wv202 := HI.t4 hI0
    rw [hv202] at wv202
    have tv202 := congrArg Int32.toInt hv202
    have x203 := HI.eqA hI193 (p := 233) (j := 4) ((((eA_c (hF194.2.1 233 (by decide))).trans (eA_c gA_sI)).trans hv202))
    obtain ⟨v204, hv204⟩ : ∃ v, eA g0 233 5 = v := ⟨_, rfl⟩
    have wv204 := HI.t5 hI0
    rw [hv204] at wv204
    have tv204 := congrArg Int32.toInt hv204
    have x205 := HI.eqA hI193 (p := 233) (j := 5) ((((eA_c (hF194.2.1 233 (by decide))).trans (eA_c gA_sI)).trans hv204))
    obtain ⟨v206, hv206⟩ : ∃ v, eA g0 233 6 = v := ⟨_, rfl⟩
    have wv206 := HI.t6 hI0
    rw [hv206] at wv206
    have tv206 := congrArg Int32.toInt hv206
    have x207 := HI.eqA hI193 (p := 233) (j := 6) ((((eA_c (hF194.2.1 233 (by decide))).trans (eA_c gA_sI)).trans hv206))
    have x208 := HI.eqA hI0 (p := 233) (j := 1) (hv188)
    have x209 := HI.eqA hI0 (p := 233) (j := 0) (hv200)
    have x210 := HI.eqA hI0 (p := 233) (j := 4) (hv202)
    have x211 := HI.eqA hI0 (p := 233) (j := 5) (hv204)
    have x212 := HI.eqA hI0 (p := 233) (j := 6) (hv206)
    exact ⟨_, rfl, hI193, hF197, _, rfl, by omega, ⟨⟨by omega, by omega, by omega, by omega, by omega, by omega⟩, (by intro i i0 i1; refine (eA_ti (((hF194.2.1 233 (by decide)).trans (gA_sI)))).trans ?_; (first | rfl | exact eA_ix (by omega) | omega)), (by intro i i0 i1; refine (eA_ti (((hF194.2.1 233 (by decide)).trans (gA_sI)))).trans ?_; (first | rfl | exact eA_ix (by omega) | omega)), (by intro i i0 i1; refine Eq.trans ?_ (if_neg (show ¬ ((0 ≤ a1.toInt ∧ a1.toInt < (eA g0 233 1).toInt) ∧ 46 + 6 * a1.toInt ≤ i ∧ i < 88) from by omega)).symm; refine (eA_ti (((hF194.2.1 233 (by decide)).trans (gA_sI)))).trans ?_; (first | rfl | exact eA_ix (by omega) | omega))⟩⟩
  · have c191_ : v187.toInt ≥ 0 := en_j_lt_f c191
    refine At.enter rfl ?_
    refine r_lload_n rfl ?_
    refine r_lload rfl ?_
    refine r_lcmp _ rfl ?_
    refine r_ifs 13 rfl (fun c213 => ?_) (fun c213 => ?_)
    · have c213_ : v187.toInt > v190.toInt := en_j_gt_t c213
      refine At.enter rfl ?_
      refine r_iconst 0 rfl ?_
      refine Ar.fall 18 rfl ?_
      refine At.enter rfl ?_
      refine q_iretz (by decide) ?_
      refine At.enter rfl ?_
      refine q_iretz (by decide) ?_
      refine At.enter rfl ?_
      refine r_iff 13 rfl (by decide) ?_
      refine At.enter rfl ?_
      refine r_aload_n rfl ?_
      refine r_bipush (-2) rfl ?_
      refine r_callV 19 rfl [.ref 231, .int (-2)] [] (Nat.le_of_ble_eq_true rfl) rfl (T_X11_tell_231 _ hI185 (-2) (by decide)) ?_
      rintro _ _ ⟨g214, rfl, hI215, hF216, v217, rfl, hr218⟩
      refine At.sti ?_
      have hF219 := Fr.tr hF186 hF216 rfl rfl
      have zv220 : ((-2) : Int32).toInt = (-2) := rfl
      refine At.enter rfl ?_
      refine r_ireti ?_
      have x221 := HI.eqA hI215 (p := 233) (j := 1) ((((eA_c (hF216.2.1 233 (by decide))).trans (eA_c gA_sI)).trans hv188))
      obtain ⟨v222, hv222⟩ : ∃ v, eA g0 233 0 = v := ⟨_, rfl⟩
      have tv222 := congrArg Int32.toInt hv222
      have wv222 := HI.t0 hI0
      rw [hv222] at wv222
      have tv222 := congrArg Int32.toInt hv222
      have x223 := HI.eqA hI215 (p := 233) (j := 0) ((((eA_c (hF216.2.1 233 (by decide))).trans (eA_c gA_sI)).trans hv222))
      obtain ⟨v224, hv224⟩ : ∃ v, eA g0 233 4 = v := ⟨_, rfl⟩
      have wv224 := HI.t4 hI0
      rw [hv224] at wv224
      have tv224 := congrArg Int32.toInt hv224
      have x225 := HI.eqA hI215 (p := 233) (j := 4) ((((eA_c (hF216.2.1 233 (by decide))).trans (eA_c gA_sI)).trans hv224))
      obtain ⟨v226, hv226⟩ : ∃ v, eA g0 233 5 = v := ⟨_, rfl⟩
      have wv226 := HI.t5 hI0
      rw [hv226] at wv226
      have tv226 := congrArg Int32.toInt hv226
      have x227 := HI.eqA hI215 (p := 233) (j := 5) ((((eA_c (hF216.2.1 233 (by decide))).trans (eA_c gA_sI)).trans hv226))
      obtain ⟨v228, hv228⟩ : ∃ v, eA g0 233 6 = v := ⟨_, rfl⟩
      have wv228 := HI.t6 hI0
      rw [hv228] at wv228
      have tv228 := congrArg Int32.toInt hv228
      have x229 := HI.eqA hI215 (p := 233) (j := 6) ((((eA_c (hF216.2.1 233 (by decide))).trans (eA_c gA_sI)).trans hv228))
      have x230 := HI.eqA hI0 (p := 233) (j := 1) (hv188)
      have x231 := HI.eqA hI0 (p := 233) (j := 0) (hv222)
      have x232 := HI.eqA hI0 (p := 233) (j := 4) (hv224)
      have x233 := HI.eqA hI0 (p := 233) (j := 5) (hv226)
      have x234 := HI.eqA hI0 (p := 233) (j := 6) (hv228)
      exact ⟨_, rfl, hI215, hF219, _, rfl, by omega, ⟨⟨by omega, by omega, by omega, by omega, by omega, by omega⟩, (by intro i i0 i1; refine (eA_ti (((hF216.2.1 233 (by decide)).trans (gA_sI)))).trans ?_; (first | rfl | exact eA_ix (by omega) | omega)), (by intro i i0 i1; refine (eA_ti (((hF216.2.1 233 (by decide)).trans (gA_sI)))).trans ?_; (first | rfl | exact eA_ix (by omega) | omega)), (by intro i i0 i1; refine Eq.trans ?_ (if_neg (show ¬ ((0 ≤ a1.toInt ∧ a1.toInt < (eA g0 233 1).toInt) ∧ 46 + 6 * a1.toInt ≤ i ∧ i < 88) from by omega)).symm; refine (eA_ti (((hF216.2.1 233 (by decide)).trans (gA_sI)))).trans ?_; (first | rfl | exact eA_ix (by omega) | omega))⟩⟩
    · have c213_ : v187.toInt ≤ v190.toInt := en_j_gt_f c213
      refine At.enter rfl ?_
      refine r_iconst 1 rfl ?_
      refine r_goto ?_
      refine At.enter rfl ?_
      refine q_iretz (by decide) ?_
      refine At.enter rfl ?_
      refine q_iretz (by decide) ?_
      refine At.enter rfl ?_
      refine r_ift (by decide) ?_
      refine At.enter rfl ?_
      refine r_bipush 46 rfl ?_
      refine r_bipush 6 rfl ?_
      refine r_iload_n rfl ?_
      refine q_imul (6 * a1.toInt) rfl (by omega) (fun v235 hv235 => ?_)
      refine q_iadd (46 + v235.toInt) rfl (by omega) (fun v236 hv236 => ?_)
      refine r_istore_n ([(2, .int v236), (0, .ref 231), (1, .int a1)]) rfl ?_
      refine Ar.fall 28 rfl ?_
      obtain ⟨v237, hv237⟩ : ∃ v, eA g0 233 0 = v := ⟨_, rfl⟩
      have tv237 := congrArg Int32.toInt hv237
      have wv237 := HI.t0 hI0
      rw [hv237] at wv237
      have tv237 := congrArg Int32.toInt hv237
      obtain ⟨v238, hv238⟩ : ∃ v, eA g0 233 4 = v := ⟨_, rfl⟩
      have wv238 := HI.t4 hI0
      rw [hv238] at wv238
      have tv238 := congrArg Int32.toInt hv238
      obtain ⟨v239, hv239⟩ : ∃ v, eA g0 233 5 = v := ⟨_, rfl⟩
      have wv239 := HI.t5 hI0
      rw [hv239] at wv239
      have tv239 := congrArg Int32.toInt hv239
      obtain ⟨v240, hv240⟩ : ∃ v, eA g0 233 6 = v := ⟨_, rfl⟩
      have wv240 := HI.t6 hI0
      rw [hv240] at wv240
      have tv240 := congrArg Int32.toInt hv240
      refine w_loopI (fun n_ l_ g_ => ∃ x261 : Int32, n_ = 88 - x261.toInt ∧ HI g_ ∧ Fr F_X11_drop_231 A_X11_drop_231 g0 g_ ∧ eA g_ 233 0 = v237 ∧ eA g_ 233 1 = v188 ∧ eA g_ 233 4 = v238 ∧ eA g_ 233 5 = v239 ∧ eA g_ 233 6 = v240 ∧ en_get 0 l_ = some (.ref 231) ∧ en_get 1 l_ = some (.int a1) ∧ en_get 2 l_ = some (.int x261) ∧ (46 ≤ x261.toInt ∧ x261.toInt ≤ 88) ∧ (∀ i : Int, 46 ≤ i → i < 94 → (eA g_ 233 (i)).toInt = if 46 + 6 * a1.toInt ≤ i ∧ i < x261.toInt then (eA g0 233 (i + 6)).toInt else (eA g0 233 (i)).toInt) ∧ (46 + 6 * a1.toInt ≤ x261.toInt) ∧ (∀ i : Int, 10 ≤ i → i < 46 → (eA g_ 233 (i)).toInt = (eA g0 233 (i)).toInt) ∧ (∀ i : Int, 94 ≤ i → i < 110 → (eA g_ 233 (i)).toInt = (eA g0 233 (i)).toInt)) ?_ (88 - v236.toInt) ⟨v236, by first | rfl | omega, hI185, hF186, ((eA_c gA_sI).trans hv237), ((eA_c gA_sI).trans hv188), ((eA_c gA_sI).trans hv238), ((eA_c gA_sI).trans hv239), ((eA_c gA_sI).trans hv240), rfl, rfl, rfl, by omega, (by intro i i0 i1; refine Eq.trans ?_ (if_neg (show ¬ (46 + 6 * a1.toInt ≤ i ∧ i < v236.toInt) from by omega)).symm; refine (eA_ti ((gA_sI))).trans ?_; (first | rfl | exact eA_ix (by omega) | omega)), by omega, (by intro i i0 i1; refine (eA_ti ((gA_sI))).trans ?_; (first | rfl | exact eA_ix (by omega) | omega)), (by intro i i0 i1; refine (eA_ti ((gA_sI))).trans ?_; (first | rfl | exact eA_ix (by omega) | omega))⟩
      rintro n266 l265 g262 ⟨x261, hm281, hI263, hF264, e268, e269, e270, e271, e272, e273, e274, e275, r276, q277, q278, q279, q280⟩ ih267
      have tv282 := congrArg Int32.toInt e268
      have tv283 := congrArg Int32.toInt e269
      have tv284 := congrArg Int32.toInt e270
      have tv285 := congrArg Int32.toInt e271
      have tv286 := congrArg Int32.toInt e272
      refine At.enter rfl ?_
      refine r_iload_n e275 ?_
      refine r_bipush 88 rfl ?_
      refine r_ics 34 rfl (fun c287 => ?_) (fun c287 => ?_)
      · have c287_ : x261.toInt ≥ 88 := en_i_ge_t c287
        refine At.enter rfl ?_
        refine r_aload_n e273 ?_
        refine q_getR (Sh.ref hI263.1 kx_231 rfl) ?_
        refine r_iconst 1 rfl ?_
        refine r_dup2 ⟨rfl, rfl⟩ ?_
        refine q_iald (Sh.arr hI263.1 ka_233) 1 rfl (by decide) v188 e269 ?_
        refine r_iconst 1 rfl ?_
        refine q_isub (v188.toInt - 1) rfl (by omega) (fun v288 hv288 => ?_)
        refine q_iast (Sh.arr hI263.1 ka_233) (1) rfl (by decide) ?_
        have x291 := HI.eqA hI263 (p := 233) (j := 0) (e268)
        have x292 := HI.eqA hI263 (p := 233) (j := 1) (e269)
        have yv293 := HI.lt hI263
        have hI289 := HI.wt hI263 (j := 1) (v := v288) (by omega) (by omega)
        have hF290 := Fr.wA (p := 233) (j := 1) (v := v288) hF264 rfl
        refine r_aload_n e273 ?_
        refine r_aload_n e273 ?_
        refine q_getR (Sh.ref hI289.1 kx_231 rfl) ?_
        refine r_iconst 1 rfl ?_
        refine q_iald (Sh.arr hI289.1 ka_233) 1 rfl (by decide) v288 (eA_sA_eq hI263.1 ka_233 (by first | rfl | omega) (by first | decide | omega) (by first | decide | omega)) ?_
        refine r_callV 75 rfl [.ref 231, .int v288] [] (Nat.le_of_ble_eq_true rfl) rfl (T_X11_tell_231 _ hI289 v288 (by omega)) ?_
        rintro _ _ ⟨g294, rfl, hI295, hF296, v297, rfl, hr298⟩
        refine At.sti ?_
        have hF299 := Fr.tr hF290 hF296 rfl rfl
        refine At.enter rfl ?_
        refine r_ireti ?_
        have x300 := HI.eqA hI295 (p := 233) (j := 1) (((eA_c (hF296.2.1 233 (by decide))).trans (eA_sA_eq hI263.1 ka_233 (by first | rfl | omega) (by first | decide | omega) (by first | decide | omega))))
        have x301 := HI.eqA hI295 (p := 233) (j := 0) ((((eA_c (hF296.2.1 233 (by decide))).trans (eA_sA_ne hI263.1 ka_233 (by first | decide | omega) (by first | decide | omega) (by first | decide | omega))).trans e268))
        have x302 := HI.eqA hI295 (p := 233) (j := 4) ((((eA_c (hF296.2.1 233 (by decide))).trans (eA_sA_ne hI263.1 ka_233 (by first | decide | omega) (by first | decide | omega) (by first | decide | omega))).trans e270))
        have x303 := HI.eqA hI295 (p := 233) (j := 5) ((((eA_c (hF296.2.1 233 (by decide))).trans (eA_sA_ne hI263.1 ka_233 (by first | decide | omega) (by first | decide | omega) (by first | decide | omega))).trans e271))
        have x304 := HI.eqA hI295 (p := 233) (j := 6) ((((eA_c (hF296.2.1 233 (by decide))).trans (eA_sA_ne hI263.1 ka_233 (by first | decide | omega) (by first | decide | omega) (by first | decide | omega))).trans e272))
        have x305 := HI.eqA hI0 (p := 233) (j := 1) (hv188)
        have x306 := HI.eqA hI0 (p := 233) (j := 0) (hv237)
        have x307 := HI.eqA hI0 (p := 233) (j := 4) (hv238)
        have x308 := HI.eqA hI0 (p := 233) (j := 5) (hv239)
        have x309 := HI.eqA hI0 (p := 233) (j := 6) (hv240)
        exact ⟨_, rfl, hI295, hF299, _, rfl, by omega, ⟨⟨by omega, by omega, by omega, by omega, by omega, by omega⟩, (by intro i i0 i1; refine (eA_ti ((hF296.2.1 233 (by decide)))).trans ?_; exact (Decidable.em (i = 1)).elim (fun k319_ => by refine (eA_eqT hI263.1 ka_233 k319_ (by first | decide | omega) (by first | decide | omega)).trans ?_; (first | (rfl) | (omega))) (fun k319_ => by refine (eA_neT hI263.1 ka_233 k319_ (by first | decide | omega) (by omega)).trans ?_; (first | (refine ((q277 (i) (by omega) (by omega))).trans ?_; exact (Decidable.em (46 + 6 * a1.toInt ≤ (i) ∧ (i) < x261.toInt)).elim (fun k320_ => by refine (if_pos k320_).trans ?_; (first | rfl | exact eA_ix (by omega) | omega)) (fun k320_ => by refine (if_neg k320_).trans ?_; (first | rfl | exact eA_ix (by omega) | omega))) | (refine ((q279 (i) (by omega) (by omega))).trans ?_; (first | rfl | exact eA_ix (by omega) | omega)) | (refine ((q280 (i) (by omega) (by omega))).trans ?_; (first | rfl | exact eA_ix (by omega) | omega))))), (by intro i i0 i1; refine (eA_ti ((hF296.2.1 233 (by decide)))).trans ?_; exact (Decidable.em (i = 1)).elim (fun k321_ => by refine (eA_eqT hI263.1 ka_233 k321_ (by first | decide | omega) (by first | decide | omega)).trans ?_; (first | (rfl) | (omega))) (fun k321_ => by refine (eA_neT hI263.1 ka_233 k321_ (by first | decide | omega) (by omega)).trans ?_; (first | (refine ((q277 (i) (by omega) (by omega))).trans ?_; exact (Decidable.em (46 + 6 * a1.toInt ≤ (i) ∧ (i) < x261.toInt)).elim (fun k322_ => by refine (if_pos k322_).trans ?_; (first | rfl | exact eA_ix (by omega) | omega)) (fun k322_ => by refine (if_neg k322_).trans ?_; (first | rfl | exact eA_ix (by omega) | omega))) | (refine ((q279 (i) (by omega) (by omega))).trans ?_; (first | rfl | exact eA_ix (by omega) | omega)) | (refine ((q280 (i) (by omega) (by omega))).trans ?_; (first | rfl | exact eA_ix (by omega) | omega))))), (by intro i i0 i1; exact (Decidable.em ((0 ≤ a1.toInt ∧ a1.toInt < (eA g0 233 1).toInt) ∧ 46 + 6 * a1.toInt ≤ i ∧ i < 88)).elim (fun k323_ => by refine Eq.trans ?_ (if_pos k323_).symm; refine (eA_ti ((hF296.2.1 233 (by decide)))).trans ?_; exact (Decidable.em (i = 1)).elim (fun k324_ => by refine (eA_eqT hI263.1 ka_233 k324_ (by first | decide | omega) (by first | decide | omega)).trans ?_; (first | (rfl) | (omega))) (fun k324_ => by refine (eA_neT hI263.1 ka_233 k324_ (by first | decide | omega) (by omega)).trans ?_; (first | (refine ((q277 (i) (by omega) (by omega))).trans ?_; exact (Decidable.em (46 + 6 * a1.toInt ≤ (i) ∧ (i) < x261.toInt)).elim (fun k325_ => by refine (if_pos k325_).trans ?_; (first | rfl | exact eA_ix (by omega) | omega)) (fun k325_ => by refine (if_neg k325_).trans ?_; (first | rfl | exact eA_ix (by omega) | omega))) | (refine ((q279 (i) (by omega) (by omega))).trans ?_; (first | rfl | exact eA_ix (by omega) | omega)) | (refine ((q280 (i) (by omega) (by omega))).trans ?_; (first | rfl | exact eA_ix (by omega) | omega))))) (fun k323_ => by refine Eq.trans ?_ (if_neg k323_).symm; refine (eA_ti ((hF296.2.1 233 (by decide)))).trans ?_; exact (Decidable.em (i = 1)).elim (fun k326_ => by refine (eA_eqT hI263.1 ka_233 k326_ (by first | decide | omega) (by first | decide | omega)).trans ?_; (first | (rfl) | (omega))) (fun k326_ => by refine (eA_neT hI263.1 ka_233 k326_ (by first | decide | omega) (by omega)).trans ?_; (first | (refine ((q277 (i) (by omega) (by omega))).trans ?_; exact (Decidable.em (46 + 6 * a1.toInt ≤ (i) ∧ (i) < x261.toInt)).elim (fun k327_ => by refine (if_pos k327_).trans ?_; (first | rfl | exact eA_ix (by omega) | omega)) (fun k327_ => by refine (if_neg k327_).trans ?_; (first | rfl | exact eA_ix (by omega) | omega))) | (refine ((q279 (i) (by omega) (by omega))).trans ?_; (first | rfl | exact eA_ix (by omega) | omega)) | (refine ((q280 (i) (by omega) (by omega))).trans ?_; (first | rfl | exact eA_ix (by omega) | omega))))))⟩⟩
      · have c287_ : x261.toInt < 88 := en_i_ge_f c287
        refine At.enter rfl ?_
        refine r_aload_n e273 ?_
        refine q_getR (Sh.ref hI263.1 kx_231 rfl) ?_
        refine r_iload_n e275 ?_
        refine r_aload_n e273 ?_
        refine q_getR (Sh.ref hI263.1 kx_231 rfl) ?_
        refine r_iload_n e275 ?_
        refine r_bipush 6 rfl ?_
        refine q_iadd (x261.toInt + 6) rfl (by omega) (fun v310 hv310 => ?_)
        obtain ⟨v311, hv311⟩ : ∃ v, eA g262 233 (x261.toInt + 6) = v := ⟨_, rfl⟩
        refine q_iald (Sh.arr hI263.1 ka_233) (x261.toInt + 6) (by omega) (by omega) v311 hv311 ?_
        refine q_iast (Sh.arr hI263.1 ka_233) (x261.toInt) rfl (by omega) ?_
        have hI312 := HI.wcp hI263 (k := x261.toInt) (by omega) (by omega) hv311
        have hF313 := Fr.wA (p := 233) (j := x261.toInt) (v := v311) hF264 rfl
        refine q_iinc e275 (x261.toInt + 1) rfl (by omega) (fun v314 hv314 => ?_)
        refine r_goto ?_
        exact ih267 (88 - v314.toInt) _ _ ⟨v314, by first | rfl | omega, hI312, hF313, ((eA_sA_ne hI263.1 ka_233 (by first | decide | omega) (by first | decide | omega) (by first | decide | omega)).trans e268), ((eA_sA_ne hI263.1 ka_233 (by first | decide | omega) (by first | decide | omega) (by first | decide | omega)).trans e269), ((eA_sA_ne hI263.1 ka_233 (by first | decide | omega) (by first | decide | omega) (by first | decide | omega)).trans e270), ((eA_sA_ne hI263.1 ka_233 (by first | decide | omega) (by first | decide | omega) (by first | decide | omega)).trans e271), ((eA_sA_ne hI263.1 ka_233 (by first | decide | omega) (by first | decide | omega) (by first | decide | omega)).trans e272), (w_p1 (by decide) (Or.inr rfl) e273), (w_p1 (by decide) (Or.inr rfl) e274), (w_e1 _ _ _), by omega, (by intro i i0 i1; exact (Decidable.em (46 + 6 * a1.toInt ≤ i ∧ i < v314.toInt)).elim (fun k328_ => by refine Eq.trans ?_ (if_pos k328_).symm; exact (Decidable.em (i = x261.toInt)).elim (fun k329_ => by refine (eA_eqT hI263.1 ka_233 k329_ (by first | decide | omega) (by first | decide | omega)).trans ?_; (first | (rfl) | (omega) | (refine (congrArg Int32.toInt hv311).symm.trans ?_; (first | (refine ((q277 ((x261.toInt + 6)) (by omega) (by omega))).trans ?_; exact (Decidable.em (46 + 6 * a1.toInt ≤ ((x261.toInt + 6)) ∧ ((x261.toInt + 6)) < x261.toInt)).elim (fun k330_ => by refine (if_pos k330_).trans ?_; (first | rfl | exact eA_ix (by omega) | omega)) (fun k330_ => by refine (if_neg k330_).trans ?_; (first | rfl | exact eA_ix (by omega) | omega))) | (refine ((q279 ((x261.toInt + 6)) (by omega) (by omega))).trans ?_; (first | rfl | exact eA_ix (by omega) | omega)) | (refine ((q280 ((x261.toInt + 6)) (by omega) (by omega))).trans ?_; (first | rfl | exact eA_ix (by omega) | omega)))))) (fun k329_ => by refine (eA_neT hI263.1 ka_233 k329_ (by first | decide | omega) (by omega)).trans ?_; (first | (refine ((q277 (i) (by omega) (by omega))).trans ?_; exact (Decidable.em (46 + 6 * a1.toInt ≤ (i) ∧ (i) < x261.toInt)).elim (fun k331_ => by refine (if_pos k331_).trans ?_; (first | rfl | exact eA_ix (by omega) | omega)) (fun k331_ => by refine (if_neg k331_).trans ?_; (first | rfl | exact eA_ix (by omega) | omega))) | (refine ((q279 (i) (by omega) (by omega))).trans ?_; (first | rfl | exact eA_ix (by omega) | omega)) | (refine ((q280 (i) (by omega) (by omega))).trans ?_; (first | rfl | exact eA_ix (by omega) | omega))))) (fun k328_ => by refine Eq.trans ?_ (if_neg k328_).symm; exact (Decidable.em (i = x261.toInt)).elim (fun k332_ => by refine (eA_eqT hI263.1 ka_233 k332_ (by first | decide | omega) (by first | decide | omega)).trans ?_; (first | (rfl) | (omega) | (refine (congrArg Int32.toInt hv311).symm.trans ?_; (first | (refine ((q277 ((x261.toInt + 6)) (by omega) (by omega))).trans ?_; exact (Decidable.em (46 + 6 * a1.toInt ≤ ((x261.toInt + 6)) ∧ ((x261.toInt + 6)) < x261.toInt)).elim (fun k333_ => by refine (if_pos k333_).trans ?_; (first | rfl | exact eA_ix (by omega) | omega)) (fun k333_ => by refine (if_neg k333_).trans ?_; (first | rfl | exact eA_ix (by omega) | omega))) | (refine ((q279 ((x261.toInt + 6)) (by omega) (by omega))).trans ?_; (first | rfl | exact eA_ix (by omega) | omega)) | (refine ((q280 ((x261.toInt + 6)) (by omega) (by omega))).trans ?_; (first | rfl | exact eA_ix (by omega) | omega)))))) (fun k332_ => by refine (eA_neT hI263.1 ka_233 k332_ (by first | decide | omega) (by omega)).trans ?_; (first | (refine ((q277 (i) (by omega) (by omega))).trans ?_; exact (Decidable.em (46 + 6 * a1.toInt ≤ (i) ∧ (i) < x261.toInt)).elim (fun k334_ => by refine (if_pos k334_).trans ?_; (first | rfl | exact eA_ix (by omega) | omega)) (fun k334_ => by refine (if_neg k334_).trans ?_; (first | rfl | exact eA_ix (by omega) | omega))) | (refine ((q279 (i) (by omega) (by omega))).trans ?_; (first | rfl | exact eA_ix (by omega) | omega)) | (refine ((q280 (i) (by omega) (by omega))).trans ?_; (first | rfl | exact eA_ix (by omega) | omega)))))), by omega, (by intro i i0 i1; exact (Decidable.em (i = x261.toInt)).elim (fun k335_ => by refine (eA_eqT hI263.1 ka_233 k335_ (by first | decide | omega) (by first | decide | omega)).trans ?_; (first | (rfl) | (omega) | (refine (congrArg Int32.toInt hv311).symm.trans ?_; (first | (refine ((q277 ((x261.toInt + 6)) (by omega) (by omega))).trans ?_; exact (Decidable.em (46 + 6 * a1.toInt ≤ ((x261.toInt + 6)) ∧ ((x261.toInt + 6)) < x261.toInt)).elim (fun k336_ => by refine (if_pos k336_).trans ?_; (first | rfl | exact eA_ix (by omega) | omega)) (fun k336_ => by refine (if_neg k336_).trans ?_; (first | rfl | exact eA_ix (by omega) | omega))) | (refine ((q279 ((x261.toInt + 6)) (by omega) (by omega))).trans ?_; (first | rfl | exact eA_ix (by omega) | omega)) | (refine ((q280 ((x261.toInt + 6)) (by omega) (by omega))).trans ?_; (first | rfl | exact eA_ix (by omega) | omega)))))) (fun k335_ => by refine (eA_neT hI263.1 ka_233 k335_ (by first | decide | omega) (by omega)).trans ?_; (first | (refine ((q277 (i) (by omega) (by omega))).trans ?_; exact (Decidable.em (46 + 6 * a1.toInt ≤ (i) ∧ (i) < x261.toInt)).elim (fun k337_ => by refine (if_pos k337_).trans ?_; (first | rfl | exact eA_ix (by omega) | omega)) (fun k337_ => by refine (if_neg k337_).trans ?_; (first | rfl | exact eA_ix (by omega) | omega))) | (refine ((q279 (i) (by omega) (by omega))).trans ?_; (first | rfl | exact eA_ix (by omega) | omega)) | (refine ((q280 (i) (by omega) (by omega))).trans ?_; (first | rfl | exact eA_ix (by omega) | omega))))), (by intro i i0 i1; exact (Decidable.em (i = x261.toInt)).elim (fun k338_ => by refine (eA_eqT hI263.1 ka_233 k338_ (by first | decide | omega) (by first | decide | omega)).trans ?_; (first | (rfl) | (omega) | (refine (congrArg Int32.toInt hv311).symm.trans ?_; (first | (refine ((q277 ((x261.toInt + 6)) (by omega) (by omega))).trans ?_; exact (Decidable.em (46 + 6 * a1.toInt ≤ ((x261.toInt + 6)) ∧ ((x261.toInt + 6)) < x261.toInt)).elim (fun k339_ => by refine (if_pos k339_).trans ?_; (first | rfl | exact eA_ix (by omega) | omega)) (fun k339_ => by refine (if_neg k339_).trans ?_; (first | rfl | exact eA_ix (by omega) | omega))) | (refine ((q279 ((x261.toInt + 6)) (by omega) (by omega))).trans ?_; (first | rfl | exact eA_ix (by omega) | omega)) | (refine ((q280 ((x261.toInt + 6)) (by omega) (by omega))).trans ?_; (first | rfl | exact eA_ix (by omega) | omega)))))) (fun k338_ => by refine (eA_neT hI263.1 ka_233 k338_ (by first | decide | omega) (by omega)).trans ?_; (first | (refine ((q277 (i) (by omega) (by omega))).trans ?_; exact (Decidable.em (46 + 6 * a1.toInt ≤ (i) ∧ (i) < x261.toInt)).elim (fun k340_ => by refine (if_pos k340_).trans ?_; (first | rfl | exact eA_ix (by omega) | omega)) (fun k340_ => by refine (if_neg k340_).trans ?_; (first | rfl | exact eA_ix (by omega) | omega))) | (refine ((q279 (i) (by omega) (by omega))).trans ?_; (first | rfl | exact eA_ix (by omega) | omega)) | (refine ((q280 (i) (by omega) (by omega))).trans ?_; (first | rfl | exact eA_ix (by omega) | omega)))))⟩ ⟨by omega, by omega⟩

def F_X11_terms_231 : List (Nat × Nat) := [(231, 0), (231, 1)]
def A_X11_terms_231 : List Nat := [232, 233]
set_option maxRecDepth 100000 in
set_option maxHeartbeats 4000000 in
theorem T_X11_terms_231 (d : Nat) {N : Nat} {g0 : List en_E} (hI0 : HI g0) (a1 : Int32) (a2 : Int32) : Ev (d + 3) 181 [.ref 231, .int a1, .int a2] (g0, N) (fun w h' => ∃ g', h' = (g', N) ∧ HI g' ∧ Fr F_X11_terms_231 A_X11_terms_231 g0 g' ∧ ∃ r : Int32, w = some (.int r) ∧ ((-1) ≤ r.toInt ∧ r.toInt ≤ 99) ∧ (((((a1.toInt = 0 ∧ 0 ≤ a2.toInt ∧ a2.toInt ≤ 99) → r.toInt = (eA g0 233 5).toInt ∧ (eA g' 233 5).toInt = a2.toInt ∧ (eA g' 233 6).toInt = (eA g0 233 6).toInt) ∧ ((a1.toInt = 1 ∧ 1 ≤ a2.toInt ∧ a2.toInt ≤ 4) → r.toInt = (eA g0 233 6).toInt ∧ (eA g' 233 6).toInt = a2.toInt ∧ (eA g' 233 5).toInt = (eA g0 233 5).toInt) ∧ (¬ (a1.toInt = 0 ∧ 0 ≤ a2.toInt ∧ a2.toInt ≤ 99) ∧ ¬ (a1.toInt = 1 ∧ 1 ≤ a2.toInt ∧ a2.toInt ≤ 4) → r.toInt = -1 ∧ (eA g' 233 5).toInt = (eA g0 233 5).toInt ∧ (eA g' 233 6).toInt = (eA g0 233 6).toInt)) ∧ (eA g' 233 0).toInt = (eA g0 233 0).toInt ∧ (eA g' 233 4).toInt = (eA g0 233 4).toInt ∧ (eA g' 233 1).toInt = (eA g0 233 1).toInt) ∧ (∀ i : Int, 10 ≤ i → i < 110 → (eA g' 233 (i)).toInt = (eA g0 233 (i)).toInt))) := by
  have hF0 : Fr F_X11_terms_231 A_X11_terms_231 g0 g0 := Fr.rf
  refine Ev.mk rfl rfl ⟨Nat.le_of_ble_eq_true rfl, Or.inr (q_rc hI0.1 kx_231 rfl)⟩ ?_
  show At _ none _ _ (0, [(0, .ref 231), (1, .int a1), (2, .int a2)], [], (_, _)) _
  refine At.enter rfl ?_
  refine r_aload_n rfl ?_
  refine r_iconst 0 rfl ?_
  refine q_putI (Sh.int hI0.1 kx_231 rfl) rfl ?_
  have hI115 := HI.wI0 hI0 kx_231 rfl (p := 231) (b := 0) (v := 0) rfl
  have hF116 := Fr.wI (p := 231) (b := 0) (v := 0) hF0 rfl
  refine r_iload_n rfl ?_
  refine r_ifs 9 rfl (fun c117 => ?_) (fun c117 => ?_)
  · have c117_ : a1.toInt ≠ 0 := en_k_ne_t c117
    refine At.enter rfl ?_
    refine r_iload_n rfl ?_
    refine r_iconst 1 rfl ?_
    refine r_ics 26 rfl (fun c118 => ?_) (fun c118 => ?_)
    · have c118_ : a1.toInt ≠ 1 := en_i_ne_t c118
      refine At.enter rfl ?_
      refine r_iconst 0 rfl ?_
      refine Ar.fall 43 rfl ?_
      refine At.enter rfl ?_
      refine r_istore_n ([(3, .int 0), (0, .ref 231), (1, .int a1), (2, .int a2)]) rfl ?_
      refine r_iload_n rfl ?_
      refine r_ift (by decide) ?_
      refine At.enter rfl ?_
      refine r_aload_n rfl ?_
      refine r_iconst (-1) rfl ?_
      refine r_callV 64 rfl [.ref 231, .int (-1)] [] (Nat.le_of_ble_eq_true rfl) rfl (T_X11_tell_231 _ hI115 (-1) (by decide)) ?_
      rintro _ _ ⟨g119, rfl, hI120, hF121, v122, rfl, hr123⟩
      refine At.sti ?_
      have hF124 := Fr.tr hF116 hF121 rfl rfl
      have zv125 : ((-1) : Int32).toInt = (-1) := rfl
      refine At.enter rfl ?_
      refine r_ireti ?_
      obtain ⟨v126, hv126⟩ : ∃ v, eA g0 233 5 = v := ⟨_, rfl⟩
      have wv126 := HI.t5 hI0
      rw [hv126] at wv126
      have tv126 := congrArg Int32.toInt hv126
      have x127 := HI.eqA hI120 (p := 233) (j := 5) ((((eA_c (hF121.2.1 233 (by decide))).trans (eA_c gA_sI)).trans hv126))
      obtain ⟨v128, hv128⟩ : ∃ v, eA g0 233 6 = v := ⟨_, rfl⟩
      have wv128 := HI.t6 hI0
      rw [hv128] at wv128
      have tv128 := congrArg Int32.toInt hv128
      have x129 := HI.eqA hI120 (p := 233) (j := 6) ((((eA_c (hF121.2.1 233 (by decide))).trans (eA_c gA_sI)).trans hv128))
      obtain ⟨v130, hv130⟩ : ∃ v, eA g0 233 0 = v := ⟨_, rfl⟩
      have tv130 := congrArg Int32.toInt hv130
      have wv130 := HI.t0 hI0
      rw [hv130] at wv130
      have tv130 := congrArg Int32.toInt hv130
      have x131 := HI.eqA hI120 (p := 233) (j := 0) ((((eA_c (hF121.2.1 233 (by decide))).trans (eA_c gA_sI)).trans hv130))
      obtain ⟨v132, hv132⟩ : ∃ v, eA g0 233 4 = v := ⟨_, rfl⟩
      have wv132 := HI.t4 hI0
      rw [hv132] at wv132
      have tv132 := congrArg Int32.toInt hv132
      have x133 := HI.eqA hI120 (p := 233) (j := 4) ((((eA_c (hF121.2.1 233 (by decide))).trans (eA_c gA_sI)).trans hv132))
      obtain ⟨v134, hv134⟩ : ∃ v, eA g0 233 1 = v := ⟨_, rfl⟩
      have tv134 := congrArg Int32.toInt hv134
      have wv134 := HI.t1 hI0
      rw [hv134] at wv134
      have tv134 := congrArg Int32.toInt hv134
      have x135 := HI.eqA hI120 (p := 233) (j := 1) ((((eA_c (hF121.2.1 233 (by decide))).trans (eA_c gA_sI)).trans hv134))
      have x136 := HI.eqA hI0 (p := 233) (j := 5) (hv126)
      have x137 := HI.eqA hI0 (p := 233) (j := 6) (hv128)
      have x138 := HI.eqA hI0 (p := 233) (j := 0) (hv130)
      have x139 := HI.eqA hI0 (p := 233) (j := 4) (hv132)
      have x140 := HI.eqA hI0 (p := 233) (j := 1) (hv134)
      exact ⟨_, rfl, hI120, hF124, _, rfl, by omega, ⟨⟨by omega, by omega, by omega, by omega⟩, (by intro i i0 i1; refine (eA_ti (((hF121.2.1 233 (by decide)).trans (gA_sI)))).trans ?_; (first | rfl | exact eA_ix (by omega) | omega))⟩⟩
    · have c118_ : a1.toInt = 1 := en_i_ne_f c118
      refine At.enter rfl ?_
      refine r_iload_n rfl ?_
      refine q_i2l (fun v141 hv141 => ?_)
      refine r_lconst 1 rfl ?_
      refine r_ldc2 4 rfl ?_
      refine q_inlS 35 rfl [.long v141, .long 1, .long 4] [] (Nat.le_of_ble_eq_true rfl) rfl ?_
      refine Ev.mk rfl rfl ⟨Nat.le_of_ble_eq_true rfl, Or.inl rfl⟩ ?_
      show At _ none _ _ (0, [(0, .long v141), (2, .long 1), (4, .long 4)], [], (_, _)) _
      refine At.enter rfl ?_
      refine r_lload_n rfl ?_
      refine r_lload_n rfl ?_
      refine r_lcmp _ rfl ?_
      refine r_ifs 6 rfl (fun c142 => ?_) (fun c142 => ?_)
      · have c142_ : v141.toInt < 1 := en_j_lt_t c142
        refine At.enter rfl ?_
        refine r_iconst 0 rfl ?_
        refine Ar.fall 18 rfl ?_
        refine At.enter rfl ?_
        refine q_iretz (by decide) ?_
        refine At.enter rfl ?_
        refine r_ift (by decide) ?_
        refine At.enter rfl ?_
        refine r_iconst 0 rfl ?_
        refine Ar.fall 43 rfl ?_
        refine At.enter rfl ?_
        refine r_istore_n ([(3, .int 0), (0, .ref 231), (1, .int a1), (2, .int a2)]) rfl ?_
        refine r_iload_n rfl ?_
        refine r_ift (by decide) ?_
        refine At.enter rfl ?_
        refine r_aload_n rfl ?_
        refine r_iconst (-1) rfl ?_
        refine r_callV 64 rfl [.ref 231, .int (-1)] [] (Nat.le_of_ble_eq_true rfl) rfl (T_X11_tell_231 _ hI115 (-1) (by decide)) ?_
        rintro _ _ ⟨g143, rfl, hI144, hF145, v146, rfl, hr147⟩
        refine At.sti ?_
        have hF148 := Fr.tr hF116 hF145 rfl rfl
        have zv149 : ((-1) : Int32).toInt = (-1) := rfl
        refine At.enter rfl ?_
        refine r_ireti ?_
        obtain ⟨v150, hv150⟩ : ∃ v, eA g0 233 5 = v := ⟨_, rfl⟩
        have wv150 := HI.t5 hI0
        rw [hv150] at wv150
        have tv150 := congrArg Int32.toInt hv150
        have x151 := HI.eqA hI144 (p := 233) (j := 5) ((((eA_c (hF145.2.1 233 (by decide))).trans (eA_c gA_sI)).trans hv150))
        obtain ⟨v152, hv152⟩ : ∃ v, eA g0 233 6 = v := ⟨_, rfl⟩
        have wv152 := HI.t6 hI0
        rw [hv152] at wv152
        have tv152 := congrArg Int32.toInt hv152
        have x153 := HI.eqA hI144 (p := 233) (j := 6) ((((eA_c (hF145.2.1 233 (by decide))).trans (eA_c gA_sI)).trans hv152))
        obtain ⟨v154, hv154⟩ : ∃ v, eA g0 233 0 = v := ⟨_, rfl⟩
        have tv154 := congrArg Int32.toInt hv154
        have wv154 := HI.t0 hI0
        rw [hv154] at wv154
        have tv154 := congrArg Int32.toInt hv154
        have x155 := HI.eqA hI144 (p := 233) (j := 0) ((((eA_c (hF145.2.1 233 (by decide))).trans (eA_c gA_sI)).trans hv154))
        obtain ⟨v156, hv156⟩ : ∃ v, eA g0 233 4 = v := ⟨_, rfl⟩
        have wv156 := HI.t4 hI0
        rw [hv156] at wv156
        have tv156 := congrArg Int32.toInt hv156
        have x157 := HI.eqA hI144 (p := 233) (j := 4) ((((eA_c (hF145.2.1 233 (by decide))).trans (eA_c gA_sI)).trans hv156))
        obtain ⟨v158, hv158⟩ : ∃ v, eA g0 233 1 = v := ⟨_, rfl⟩
        have tv158 := congrArg Int32.toInt hv158
        have wv158 := HI.t1 hI0
        rw [hv158] at wv158
        have tv158 := congrArg Int32.toInt hv158
        have x159 := HI.eqA hI144 (p := 233) (j := 1) ((((eA_c (hF145.2.1 233 (by decide))).trans (eA_c gA_sI)).trans hv158))
        have x160 := HI.eqA hI0 (p := 233) (j := 5) (hv150)
        have x161 := HI.eqA hI0 (p := 233) (j := 6) (hv152)
        have x162 := HI.eqA hI0 (p := 233) (j := 0) (hv154)
        have x163 := HI.eqA hI0 (p := 233) (j := 4) (hv156)
        have x164 := HI.eqA hI0 (p := 233) (j := 1) (hv158)
        exact ⟨_, rfl, hI144, hF148, _, rfl, by omega, ⟨⟨by omega, by omega, by omega, by omega⟩, (by intro i i0 i1; refine (eA_ti (((hF145.2.1 233 (by decide)).trans (gA_sI)))).trans ?_; (first | rfl | exact eA_ix (by omega) | omega))⟩⟩
      · have c142_ : v141.toInt ≥ 1 := en_j_lt_f c142
        refine At.enter rfl ?_
        refine r_lload_n rfl ?_
        refine r_lload rfl ?_
        refine r_lcmp _ rfl ?_
        refine r_ifs 13 rfl (fun c165 => ?_) (fun c165 => ?_)
        · have c165_ : v141.toInt > 4 := en_j_gt_t c165
          refine At.enter rfl ?_
          refine r_iconst 0 rfl ?_
          refine Ar.fall 18 rfl ?_
          refine At.enter rfl ?_
          refine q_iretz (by decide) ?_
          refine At.enter rfl ?_
          refine r_ift (by decide) ?_
          refine At.enter rfl ?_
          refine r_iconst 0 rfl ?_
          refine Ar.fall 43 rfl ?_
          refine At.enter rfl ?_
          refine r_istore_n ([(3, .int 0), (0, .ref 231), (1, .int a1), (2, .int a2)]) rfl ?_
          refine r_iload_n rfl ?_
          refine r_ift (by decide) ?_
          refine At.enter rfl ?_
          refine r_aload_n rfl ?_
          refine r_iconst (-1) rfl ?_
          refine r_callV 64 rfl [.ref 231, .int (-1)] [] (Nat.le_of_ble_eq_true rfl) rfl (T_X11_tell_231 _ hI115 (-1) (by decide)) ?_
          rintro _ _ ⟨g166, rfl, hI167, hF168, v169, rfl, hr170⟩
          refine At.sti ?_
          have hF171 := Fr.tr hF116 hF168 rfl rfl
          have zv172 : ((-1) : Int32).toInt = (-1) := rfl
          refine At.enter rfl ?_
          refine r_ireti ?_
          obtain ⟨v173, hv173⟩ : ∃ v, eA g0 233 5 = v := ⟨_, rfl⟩
          have wv173 := HI.t5 hI0
          rw [hv173] at wv173
          have tv173 := congrArg Int32.toInt hv173
          have x174 := HI.eqA hI167 (p := 233) (j := 5) ((((eA_c (hF168.2.1 233 (by decide))).trans (eA_c gA_sI)).trans hv173))
          obtain ⟨v175, hv175⟩ : ∃ v, eA g0 233 6 = v := ⟨_, rfl⟩
          have wv175 := HI.t6 hI0
          rw [hv175] at wv175
          have tv175 := congrArg Int32.toInt hv175
          have x176 := HI.eqA hI167 (p := 233) (j := 6) ((((eA_c (hF168.2.1 233 (by decide))).trans (eA_c gA_sI)).trans hv175))
          obtain ⟨v177, hv177⟩ : ∃ v, eA g0 233 0 = v := ⟨_, rfl⟩
          have tv177 := congrArg Int32.toInt hv177
          have wv177 := HI.t0 hI0
          rw [hv177] at wv177
          have tv177 := congrArg Int32.toInt hv177
          have x178 := HI.eqA hI167 (p := 233) (j := 0) ((((eA_c (hF168.2.1 233 (by decide))).trans (eA_c gA_sI)).trans hv177))
          obtain ⟨v179, hv179⟩ : ∃ v, eA g0 233 4 = v := ⟨_, rfl⟩
          have wv179 := HI.t4 hI0
          rw [hv179] at wv179
          have tv179 := congrArg Int32.toInt hv179
          have x180 := HI.eqA hI167 (p := 233) (j := 4) ((((eA_c (hF168.2.1 233 (by decide))).trans (eA_c gA_sI)).trans hv179))
          obtain ⟨v181, hv181⟩ : ∃ v, eA g0 233 1 = v := ⟨_, rfl⟩
          have tv181 := congrArg Int32.toInt hv181
          have wv181 := HI.t1 hI0
          rw [hv181] at wv181
          have tv181 := congrArg Int32.toInt hv181
          have x182 := HI.eqA hI167 (p := 233) (j := 1) ((((eA_c (hF168.2.1 233 (by decide))).trans (eA_c gA_sI)).trans hv181))
          have x183 := HI.eqA hI0 (p := 233) (j := 5) (hv173)
          have x184 := HI.eqA hI0 (p := 233) (j := 6) (hv175)
          have x185 := HI.eqA hI0 (p := 233) (j := 0) (hv177)
          have x186 := HI.eqA hI0 (p := 233) (j := 4) (hv179)
          have x187 := HI.eqA hI0 (p := 233) (j := 1) (hv181)
          exact ⟨_, rfl, hI167, hF171, _, rfl, by omega, ⟨⟨by omega, by omega, by omega, by omega⟩, (by intro i i0 i1; refine (eA_ti (((hF168.2.1 233 (by decide)).trans (gA_sI)))).trans ?_; (first | rfl | exact eA_ix (by omega) | omega))⟩⟩
        · have c165_ : v141.toInt ≤ 4 := en_j_gt_f c165
          refine At.enter rfl ?_
          refine r_iconst 1 rfl ?_
          refine r_goto ?_
          refine At.enter rfl ?_
          refine q_iretz (by decide) ?_
          refine At.enter rfl ?_
          refine r_iff 38 rfl (by decide) ?_
          refine At.enter rfl ?_
          refine r_iconst 1 rfl ?_
          refine r_goto ?_
          refine At.enter rfl ?_
          refine r_istore_n ([(3, .int 1), (0, .ref 231), (1, .int a1), (2, .int a2)]) rfl ?_
          refine r_iload_n rfl ?_
          refine r_iff 48 rfl (by decide) ?_
          refine At.enter rfl ?_
          refine r_aload_n rfl ?_
          refine r_iconst 5 rfl ?_
          refine r_iload_n rfl ?_
          refine q_iadd (5 + a1.toInt) rfl (by omega) (fun v188 hv188 => ?_)
          refine r_iload_n rfl ?_
          refine q_inlV 56 rfl [.ref 231, .int v188, .int a2] [] (Nat.le_of_ble_eq_true rfl) rfl ?_
          refine Ev.mk rfl rfl ⟨Nat.le_of_ble_eq_true rfl, Or.inr (q_rc hI115.1 kx_231 rfl)⟩ ?_
          show At _ none _ _ (0, [(0, .ref 231), (1, .int v188), (2, .int a2)], [], (_, _)) _
          refine At.enter rfl ?_
          refine r_aload_n rfl ?_
          refine q_getR (Sh.ref hI115.1 kx_231 rfl) ?_
          refine r_iload_n rfl ?_
          obtain ⟨v189, hv189⟩ : ∃ v, eA g0 233 (a1.toInt + 5) = v := ⟨_, rfl⟩
          have wv189 : 1 ≤ v189.toInt ∧ v189.toInt ≤ 4 := by have z := HI.t6 hI0; rw [← hv189, show (a1.toInt + 5) = 6 by omega]; exact z
          refine q_iald (Sh.arr hI115.1 ka_233) (a1.toInt + 5) (by omega) (by omega) v189 ((eA_c (gA_sI)).trans hv189) ?_
          refine r_istore_n ([(3, .int v189), (0, .ref 231), (1, .int v188), (2, .int a2)]) rfl ?_
          refine r_aload_n rfl ?_
          refine q_getR (Sh.ref hI115.1 kx_231 rfl) ?_
          refine r_iload_n rfl ?_
          refine r_iload_n rfl ?_
          refine q_iast (Sh.arr hI115.1 ka_233) ((a1.toInt + 5)) (by omega) (by omega) ?_
          have hI190 := HI.wt hI115 (j := (a1.toInt + 5)) (v := a2) (by omega) (by omega)
          have hF191 := Fr.wA (p := 233) (j := (a1.toInt + 5)) (v := a2) hF116 rfl
          refine r_aload_n rfl ?_
          refine r_iload_n rfl ?_
          refine q_inlV 19 rfl [.ref 231, .int v189] [] (Nat.le_of_ble_eq_true rfl) rfl ?_
          refine Ev.mk rfl rfl ⟨Nat.le_of_ble_eq_true rfl, Or.inr (q_rc hI190.1 kx_231 rfl)⟩ ?_
          show At _ none _ _ (0, [(0, .ref 231), (1, .int v189)], [], (_, _)) _
          refine At.enter rfl ?_
          refine r_aload_n rfl ?_
          refine r_iconst 0 rfl ?_
          refine q_putI (Sh.int hI190.1 kx_231 rfl) rfl ?_
          have hI192 := HI.wI0 hI190 kx_231 rfl (p := 231) (b := 1) (v := 0) rfl
          have hF193 := Fr.wI (p := 231) (b := 1) (v := 0) hF191 rfl
          refine r_iload_n rfl ?_
          refine q_ireti ?_
          refine At.enter rfl ?_
          refine q_ireti ?_
          refine At.enter rfl ?_
          refine r_goto ?_
          refine At.enter rfl ?_
          refine r_ireti ?_
          obtain ⟨v194, hv194⟩ : ∃ v, eA g0 233 5 = v := ⟨_, rfl⟩
          have wv194 := HI.t5 hI0
          rw [hv194] at wv194
          have tv194 := congrArg Int32.toInt hv194
          have x195 := HI.eqA hI192 (p := 233) (j := 5) ((((eA_c gA_sI).trans ((eA_sA_ne hI115.1 ka_233 (by first | decide | omega) (by first | decide | omega) (by first | decide | omega)).trans (eA_c gA_sI))).trans hv194))
          have x196 := HI.eqA hI192 (p := 233) (j := 6) (((eA_c gA_sI).trans (eA_sA_eq hI115.1 ka_233 (by omega) (by first | decide | omega) (by first | decide | omega))))
          obtain ⟨v197, hv197⟩ : ∃ v, eA g0 233 0 = v := ⟨_, rfl⟩
          have tv197 := congrArg Int32.toInt hv197
          have wv197 := HI.t0 hI0
          rw [hv197] at wv197
          have tv197 := congrArg Int32.toInt hv197
          have x198 := HI.eqA hI192 (p := 233) (j := 0) ((((eA_c gA_sI).trans ((eA_sA_ne hI115.1 ka_233 (by first | decide | omega) (by first | decide | omega) (by first | decide | omega)).trans (eA_c gA_sI))).trans hv197))
          obtain ⟨v199, hv199⟩ : ∃ v, eA g0 233 4 = v := ⟨_, rfl⟩
          have wv199 := HI.t4 hI0
          rw [hv199] at wv199
          have tv199 := congrArg Int32.toInt hv199
          have x200 := HI.eqA hI192 (p := 233) (j := 4) ((((eA_c gA_sI).trans ((eA_sA_ne hI115.1 ka_233 (by first | decide | omega) (by first | decide | omega) (by first | decide | omega)).trans (eA_c gA_sI))).trans hv199))
          obtain ⟨v201, hv201⟩ : ∃ v, eA g0 233 1 = v := ⟨_, rfl⟩
          have tv201 := congrArg Int32.toInt hv201
          have wv201 := HI.t1 hI0
          rw [hv201] at wv201
          have tv201 := congrArg Int32.toInt hv201
          have x202 := HI.eqA hI192 (p := 233) (j := 1) ((((eA_c gA_sI).trans ((eA_sA_ne hI115.1 ka_233 (by first | decide | omega) (by first | decide | omega) (by first | decide | omega)).trans (eA_c gA_sI))).trans hv201))
          have x203 := HI.eqA hI0 (p := 233) (j := 5) (hv194)
          obtain ⟨v204, hv204⟩ : ∃ v, eA g0 233 6 = v := ⟨_, rfl⟩
          have wv204 := HI.t6 hI0
          rw [hv204] at wv204
          have tv204 := congrArg Int32.toInt hv204
          have x205 := HI.eqA hI0 (p := 233) (j := 6) (hv204)
          have y206 : (eA g0 233 6).toInt = v189.toInt := by rw [← hv189, show (a1.toInt + 5) = 6 by omega]
          have x207 := HI.eqA hI0 (p := 233) (j := 0) (hv197)
          have x208 := HI.eqA hI0 (p := 233) (j := 4) (hv199)
          have x209 := HI.eqA hI0 (p := 233) (j := 1) (hv201)
          exact ⟨_, rfl, hI192, hF193, _, rfl, by omega, ⟨⟨by omega, by omega, by omega, by omega⟩, (by intro i i0 i1; refine (eA_ti ((gA_sI))).trans ?_; exact (Decidable.em (i = (a1.toInt + 5))).elim (fun k341_ => by refine (eA_eqT hI115.1 ka_233 k341_ (by first | decide | omega) (by first | decide | omega)).trans ?_; (first | (rfl) | (omega))) (fun k341_ => by refine (eA_neT hI115.1 ka_233 k341_ (by first | decide | omega) (by omega)).trans ?_; refine (eA_ti ((gA_sI))).trans ?_; (first | rfl | exact eA_ix (by omega) | omega)))⟩⟩
  · have c117_ : a1.toInt = 0 := en_k_ne_f c117
    refine At.enter rfl ?_
    refine r_iload_n rfl ?_
    refine q_i2l (fun v210 hv210 => ?_)
    refine r_lconst 0 rfl ?_
    refine r_ldc2 99 rfl ?_
    refine q_inlS 18 rfl [.long v210, .long 0, .long 99] [] (Nat.le_of_ble_eq_true rfl) rfl ?_
    refine Ev.mk rfl rfl ⟨Nat.le_of_ble_eq_true rfl, Or.inl rfl⟩ ?_
    show At _ none _ _ (0, [(0, .long v210), (2, .long 0), (4, .long 99)], [], (_, _)) _
    refine At.enter rfl ?_
    refine r_lload_n rfl ?_
    refine r_lload_n rfl ?_
    refine r_lcmp _ rfl ?_
    refine r_ifs 6 rfl (fun c211 => ?_) (fun c211 => ?_)
    · have c211_ : v210.toInt < 0 := en_j_lt_t c211
      refine At.enter rfl ?_
      refine r_iconst 0 rfl ?_
      refine Ar.fall 18 rfl ?_
      refine At.enter rfl ?_
      refine q_iretz (by decide) ?_
      refine At.enter rfl ?_
      refine r_goto ?_
      refine At.enter rfl ?_
      refine r_istore_n ([(3, .int 0), (0, .ref 231), (1, .int a1), (2, .int a2)]) rfl ?_
      refine r_iload_n rfl ?_
      refine r_ift (by decide) ?_
      refine At.enter rfl ?_
      refine r_aload_n rfl ?_
      refine r_iconst (-1) rfl ?_
      refine r_callV 64 rfl [.ref 231, .int (-1)] [] (Nat.le_of_ble_eq_true rfl) rfl (T_X11_tell_231 _ hI115 (-1) (by decide)) ?_
      rintro _ _ ⟨g212, rfl, hI213, hF214, v215, rfl, hr216⟩
      refine At.sti ?_
      have hF217 := Fr.tr hF116 hF214 rfl rfl
      have zv218 : ((-1) : Int32).toInt = (-1) := rfl
      refine At.enter rfl ?_
      refine r_ireti ?_
      obtain ⟨v219, hv219⟩ : ∃ v, eA g0 233 5 = v := ⟨_, rfl⟩
      have wv219 := HI.t5 hI0
      rw [hv219] at wv219
      have tv219 := congrArg Int32.toInt hv219
      have x220 := HI.eqA hI213 (p := 233) (j := 5) ((((eA_c (hF214.2.1 233 (by decide))).trans (eA_c gA_sI)).trans hv219))
      obtain ⟨v221, hv221⟩ : ∃ v, eA g0 233 6 = v := ⟨_, rfl⟩
      have wv221 := HI.t6 hI0
      rw [hv221] at wv221
      have tv221 := congrArg Int32.toInt hv221
      have x222 := HI.eqA hI213 (p := 233) (j := 6) ((((eA_c (hF214.2.1 233 (by decide))).trans (eA_c gA_sI)).trans hv221))
      obtain ⟨v223, hv223⟩ : ∃ v, eA g0 233 0 = v := ⟨_, rfl⟩
      have tv223 := congrArg Int32.toInt hv223
      have wv223 := HI.t0 hI0
      rw [hv223] at wv223
      have tv223 := congrArg Int32.toInt hv223
      have x224 := HI.eqA hI213 (p := 233) (j := 0) ((((eA_c (hF214.2.1 233 (by decide))).trans (eA_c gA_sI)).trans hv223))
      obtain ⟨v225, hv225⟩ : ∃ v, eA g0 233 4 = v := ⟨_, rfl⟩
      have wv225 := HI.t4 hI0
      rw [hv225] at wv225
      have tv225 := congrArg Int32.toInt hv225
      have x226 := HI.eqA hI213 (p := 233) (j := 4) ((((eA_c (hF214.2.1 233 (by decide))).trans (eA_c gA_sI)).trans hv225))
      obtain ⟨v227, hv227⟩ : ∃ v, eA g0 233 1 = v := ⟨_, rfl⟩
      have tv227 := congrArg Int32.toInt hv227
      have wv227 := HI.t1 hI0
      rw [hv227] at wv227
      have tv227 := congrArg Int32.toInt hv227
      have x228 := HI.eqA hI213 (p := 233) (j := 1) ((((eA_c (hF214.2.1 233 (by decide))).trans (eA_c gA_sI)).trans hv227))
      have x229 := HI.eqA hI0 (p := 233) (j := 5) (hv219)
      have x230 := HI.eqA hI0 (p := 233) (j := 6) (hv221)
      have x231 := HI.eqA hI0 (p := 233) (j := 0) (hv223)
      have x232 := HI.eqA hI0 (p := 233) (j := 4) (hv225)
      have x233 := HI.eqA hI0 (p := 233) (j := 1) (hv227)
      exact ⟨_, rfl, hI213, hF217, _, rfl, by omega, ⟨⟨by omega, by omega, by omega, by omega⟩, (by intro i i0 i1; refine (eA_ti (((hF214.2.1 233 (by decide)).trans (gA_sI)))).trans ?_; (first | rfl | exact eA_ix (by omega) | omega))⟩⟩
    · have c211_ : v210.toInt ≥ 0 := en_j_lt_f c211
      refine At.enter rfl ?_
      refine r_lload_n rfl ?_
      refine r_lload rfl ?_
      refine r_lcmp _ rfl ?_
      refine r_ifs 13 rfl (fun c234 => ?_) (fun c234 => ?_)
      · have c234_ : v210.toInt > 99 := en_j_gt_t c234
        refine At.enter rfl ?_
        refine r_iconst 0 rfl ?_
        refine Ar.fall 18 rfl ?_
        refine At.enter rfl ?_
        refine q_iretz (by decide) ?_
        refine At.enter rfl ?_
        refine r_goto ?_
        refine At.enter rfl ?_
        refine r_istore_n ([(3, .int 0), (0, .ref 231), (1, .int a1), (2, .int a2)]) rfl ?_
        refine r_iload_n rfl ?_
        refine r_ift (by decide) ?_
        refine At.enter rfl ?_
        refine r_aload_n rfl ?_
        refine r_iconst (-1) rfl ?_
        refine r_callV 64 rfl [.ref 231, .int (-1)] [] (Nat.le_of_ble_eq_true rfl) rfl (T_X11_tell_231 _ hI115 (-1) (by decide)) ?_
        rintro _ _ ⟨g235, rfl, hI236, hF237, v238, rfl, hr239⟩
        refine At.sti ?_
        have hF240 := Fr.tr hF116 hF237 rfl rfl
        have zv241 : ((-1) : Int32).toInt = (-1) := rfl
        refine At.enter rfl ?_
        refine r_ireti ?_
        obtain ⟨v242, hv242⟩ : ∃ v, eA g0 233 5 = v := ⟨_, rfl⟩
        have wv242 := HI.t5 hI0
        rw [hv242] at wv242
        have tv242 := congrArg Int32.toInt hv242
        have x243 := HI.eqA hI236 (p := 233) (j := 5) ((((eA_c (hF237.2.1 233 (by decide))).trans (eA_c gA_sI)).trans hv242))
        obtain ⟨v244, hv244⟩ : ∃ v, eA g0 233 6 = v := ⟨_, rfl⟩
        have wv244 := HI.t6 hI0
        rw [hv244] at wv244
        have tv244 := congrArg Int32.toInt hv244
        have x245 := HI.eqA hI236 (p := 233) (j := 6) ((((eA_c (hF237.2.1 233 (by decide))).trans (eA_c gA_sI)).trans hv244))
        obtain ⟨v246, hv246⟩ : ∃ v, eA g0 233 0 = v := ⟨_, rfl⟩
        have tv246 := congrArg Int32.toInt hv246
        have wv246 := HI.t0 hI0
        rw [hv246] at wv246
        have tv246 := congrArg Int32.toInt hv246
        have x247 := HI.eqA hI236 (p := 233) (j := 0) ((((eA_c (hF237.2.1 233 (by decide))).trans (eA_c gA_sI)).trans hv246))
        obtain ⟨v248, hv248⟩ : ∃ v, eA g0 233 4 = v := ⟨_, rfl⟩
        have wv248 := HI.t4 hI0
        rw [hv248] at wv248
        have tv248 := congrArg Int32.toInt hv248
        have x249 := HI.eqA hI236 (p := 233) (j := 4) ((((eA_c (hF237.2.1 233 (by decide))).trans (eA_c gA_sI)).trans hv248))
        obtain ⟨v250, hv250⟩ : ∃ v, eA g0 233 1 = v := ⟨_, rfl⟩
        have tv250 := congrArg Int32.toInt hv250
        have wv250 := HI.t1 hI0
        rw [hv250] at wv250
        have tv250 := congrArg Int32.toInt hv250
        have x251 := HI.eqA hI236 (p := 233) (j := 1) ((((eA_c (hF237.2.1 233 (by decide))).trans (eA_c gA_sI)).trans hv250))
        have x252 := HI.eqA hI0 (p := 233) (j := 5) (hv242)
        have x253 := HI.eqA hI0 (p := 233) (j := 6) (hv244)
        have x254 := HI.eqA hI0 (p := 233) (j := 0) (hv246)
        have x255 := HI.eqA hI0 (p := 233) (j := 4) (hv248)
        have x256 := HI.eqA hI0 (p := 233) (j := 1) (hv250)
        exact ⟨_, rfl, hI236, hF240, _, rfl, by omega, ⟨⟨by omega, by omega, by omega, by omega⟩, (by intro i i0 i1; refine (eA_ti (((hF237.2.1 233 (by decide)).trans (gA_sI)))).trans ?_; (first | rfl | exact eA_ix (by omega) | omega))⟩⟩
      · have c234_ : v210.toInt ≤ 99 := en_j_gt_f c234
        refine At.enter rfl ?_
        refine r_iconst 1 rfl ?_
        refine r_goto ?_
        refine At.enter rfl ?_
        refine q_iretz (by decide) ?_
        refine At.enter rfl ?_
        refine r_goto ?_
        refine At.enter rfl ?_
        refine r_istore_n ([(3, .int 1), (0, .ref 231), (1, .int a1), (2, .int a2)]) rfl ?_
        refine r_iload_n rfl ?_
        refine r_iff 48 rfl (by decide) ?_
        refine At.enter rfl ?_
        refine r_aload_n rfl ?_
        refine r_iconst 5 rfl ?_
        refine r_iload_n rfl ?_
        refine q_iadd (5 + a1.toInt) rfl (by omega) (fun v257 hv257 => ?_)
        refine r_iload_n rfl ?_
        refine q_inlV 56 rfl [.ref 231, .int v257, .int a2] [] (Nat.le_of_ble_eq_true rfl) rfl ?_
        refine Ev.mk rfl rfl ⟨Nat.le_of_ble_eq_true rfl, Or.inr (q_rc hI115.1 kx_231 rfl)⟩ ?_
        show At _ none _ _ (0, [(0, .ref 231), (1, .int v257), (2, .int a2)], [], (_, _)) _
        refine At.enter rfl ?_
        refine r_aload_n rfl ?_
        refine q_getR (Sh.ref hI115.1 kx_231 rfl) ?_
        refine r_iload_n rfl ?_
        obtain ⟨v258, hv258⟩ : ∃ v, eA g0 233 (a1.toInt + 5) = v := ⟨_, rfl⟩
        have wv258 : 0 ≤ v258.toInt ∧ v258.toInt ≤ 99 := by have z := HI.t5 hI0; rw [← hv258, show (a1.toInt + 5) = 5 by omega]; exact z
        refine q_iald (Sh.arr hI115.1 ka_233) (a1.toInt + 5) (by omega) (by omega) v258 ((eA_c (gA_sI)).trans hv258) ?_
        refine r_istore_n ([(3, .int v258), (0, .ref 231), (1, .int v257), (2, .int a2)]) rfl ?_
        refine r_aload_n rfl ?_
        refine q_getR (Sh.ref hI115.1 kx_231 rfl) ?_
        refine r_iload_n rfl ?_
        refine r_iload_n rfl ?_
        refine q_iast (Sh.arr hI115.1 ka_233) ((a1.toInt + 5)) (by omega) (by omega) ?_
        have hI259 := HI.wt hI115 (j := (a1.toInt + 5)) (v := a2) (by omega) (by omega)
        have hF260 := Fr.wA (p := 233) (j := (a1.toInt + 5)) (v := a2) hF116 rfl
        refine r_aload_n rfl ?_
        refine r_iload_n rfl ?_
        refine q_inlV 19 rfl [.ref 231, .int v258] [] (Nat.le_of_ble_eq_true rfl) rfl ?_
        refine Ev.mk rfl rfl ⟨Nat.le_of_ble_eq_true rfl, Or.inr (q_rc hI259.1 kx_231 rfl)⟩ ?_
        show At _ none _ _ (0, [(0, .ref 231), (1, .int v258)], [], (_, _)) _
        refine At.enter rfl ?_
        refine r_aload_n rfl ?_
        refine r_iconst 0 rfl ?_
        refine q_putI (Sh.int hI259.1 kx_231 rfl) rfl ?_
        have hI261 := HI.wI0 hI259 kx_231 rfl (p := 231) (b := 1) (v := 0) rfl
        have hF262 := Fr.wI (p := 231) (b := 1) (v := 0) hF260 rfl
        refine r_iload_n rfl ?_
        refine q_ireti ?_
        refine At.enter rfl ?_
        refine q_ireti ?_
        refine At.enter rfl ?_
        refine r_goto ?_
        refine At.enter rfl ?_
        refine r_ireti ?_
        have x263 := HI.eqA hI261 (p := 233) (j := 5) (((eA_c gA_sI).trans (eA_sA_eq hI115.1 ka_233 (by omega) (by first | decide | omega) (by first | decide | omega))))
        obtain ⟨v264, hv264⟩ : ∃ v, eA g0 233 6 = v := ⟨_, rfl⟩
        have wv264 := HI.t6 hI0
        rw [hv264] at wv264
        have tv264 := congrArg Int32.toInt hv264
        have x265 := HI.eqA hI261 (p := 233) (j := 6) ((((eA_c gA_sI).trans ((eA_sA_ne hI115.1 ka_233 (by first | decide | omega) (by first | decide | omega) (by first | decide | omega)).trans (eA_c gA_sI))).trans hv264))
        obtain ⟨v266, hv266⟩ : ∃ v, eA g0 233 0 = v := ⟨_, rfl⟩
        have tv266 := congrArg Int32.toInt hv266
        have wv266 := HI.t0 hI0
        rw [hv266] at wv266
        have tv266 := congrArg Int32.toInt hv266
        have x267 := HI.eqA hI261 (p := 233) (j := 0) ((((eA_c gA_sI).trans ((eA_sA_ne hI115.1 ka_233 (by first | decide | omega) (by first | decide | omega) (by first | decide | omega)).trans (eA_c gA_sI))).trans hv266))
        obtain ⟨v268, hv268⟩ : ∃ v, eA g0 233 4 = v := ⟨_, rfl⟩
        have wv268 := HI.t4 hI0
        rw [hv268] at wv268
        have tv268 := congrArg Int32.toInt hv268
        have x269 := HI.eqA hI261 (p := 233) (j := 4) ((((eA_c gA_sI).trans ((eA_sA_ne hI115.1 ka_233 (by first | decide | omega) (by first | decide | omega) (by first | decide | omega)).trans (eA_c gA_sI))).trans hv268))
        obtain ⟨v270, hv270⟩ : ∃ v, eA g0 233 1 = v := ⟨_, rfl⟩
        have tv270 := congrArg Int32.toInt hv270
        have wv270 := HI.t1 hI0
        rw [hv270] at wv270
        have tv270 := congrArg Int32.toInt hv270
        have x271 := HI.eqA hI261 (p := 233) (j := 1) ((((eA_c gA_sI).trans ((eA_sA_ne hI115.1 ka_233 (by first | decide | omega) (by first | decide | omega) (by first | decide | omega)).trans (eA_c gA_sI))).trans hv270))
        obtain ⟨v272, hv272⟩ : ∃ v, eA g0 233 5 = v := ⟨_, rfl⟩
        have wv272 := HI.t5 hI0
        rw [hv272] at wv272
        have tv272 := congrArg Int32.toInt hv272
        have x273 := HI.eqA hI0 (p := 233) (j := 5) (hv272)
        have y274 : (eA g0 233 5).toInt = v258.toInt := by rw [← hv258, show (a1.toInt + 5) = 5 by omega]
        have x275 := HI.eqA hI0 (p := 233) (j := 6) (hv264)
        have x276 := HI.eqA hI0 (p := 233) (j := 0) (hv266)
        have x277 := HI.eqA hI0 (p := 233) (j := 4) (hv268)
        have x278 := HI.eqA hI0 (p := 233) (j := 1) (hv270)
        exact ⟨_, rfl, hI261, hF262, _, rfl, by omega, ⟨⟨by omega, by omega, by omega, by omega⟩, (by intro i i0 i1; refine (eA_ti ((gA_sI))).trans ?_; exact (Decidable.em (i = (a1.toInt + 5))).elim (fun k342_ => by refine (eA_eqT hI115.1 ka_233 k342_ (by first | decide | omega) (by first | decide | omega)).trans ?_; (first | (rfl) | (omega))) (fun k342_ => by refine (eA_neT hI115.1 ka_233 k342_ (by first | decide | omega) (by omega)).trans ?_; refine (eA_ti ((gA_sI))).trans ?_; (first | rfl | exact eA_ix (by omega) | omega)))⟩⟩
