def F_X11_drop_231 : List (Nat × Nat) := [(231, 0), (231, 1)]
def A_X11_drop_231 : List Nat := [232, 233]
set_option maxRecDepth 100000 in
set_option maxHeartbeats 4000000 in
theorem T_X11_drop_231 (d : Nat) {N : Nat} {g0 : List en_E} (hI0 : HI g0) (a1 : Int32) : Ev (d + 3) 180 [.ref 231, .int a1] (g0, N) (fun w h' => ∃ g', h' = (g', N) ∧ HI g' ∧ Fr F_X11_drop_231 A_X11_drop_231 g0 g' ∧ ∃ r : Int32, w = some (.int r) ∧ ((-2) ≤ r.toInt ∧ r.toInt ≤ 7) ∧ (((eA g' 233 0).toInt = (eA g0 233 0).toInt ∧ (eA g' 233 4).toInt = (eA g0 233 4).toInt ∧ (eA g' 233 5).toInt = (eA g0 233 5).toInt ∧ (eA g' 233 6).toInt = (eA g0 233 6).toInt) ∧ (∀ i : Int, 10 ≤ i → i < 46 → (eA g' 233 (i)).toInt = (eA g0 233 (i)).toInt) ∧ (∀ i : Int, 94 ≤ i → i < 110 → (eA g' 233 (i)).toInt = (eA g0 233 (i)).toInt))) := by
  have hF0 : Fr F_X11_drop_231 A_X11_drop_231 g0 g0 := Fr.rf
  refine Ev.mk rfl rfl ⟨Nat.le_of_ble_eq_true rfl, Or.inr (q_rc hI0.1 kx_231 rfl)⟩ ?_
  show At _ none _ _ (0, [(0, .ref 231), (1, .int a1)], [], (_, _)) _
  refine At.enter rfl ?_
  refine r_aload_n rfl ?_
  refine r_iconst 0 rfl ?_
  refine q_putI (Sh.int hI0.1 kx_231 rfl) rfl ?_
  have hI181 := HI.wI0 hI0 kx_231 rfl (p := 231) (b := 0) (v := 0) rfl
  have hF182 := Fr.wI (p := 231) (b := 0) (v := 0) hF0 rfl
  refine r_aload_n rfl ?_
  refine r_iload_n rfl ?_
  refine q_inlV 10 rfl [.ref 231, .int a1] [] (Nat.le_of_ble_eq_true rfl) rfl ?_
  refine Ev.mk rfl rfl ⟨Nat.le_of_ble_eq_true rfl, Or.inr (q_rc hI181.1 kx_231 rfl)⟩ ?_
  show At _ none _ _ (0, [(0, .ref 231), (1, .int a1)], [], (_, _)) _
  refine At.enter rfl ?_
  refine r_iload_n rfl ?_
  refine q_i2l (fun v183 hv183 => ?_)
  refine r_lconst 0 rfl ?_
  refine r_aload_n rfl ?_
  refine q_getR (Sh.ref hI181.1 kx_231 rfl) ?_
  refine r_iconst 1 rfl ?_
  obtain ⟨v184, hv184⟩ : ∃ v, eA g0 233 1 = v := ⟨_, rfl⟩
  have tv184 := congrArg Int32.toInt hv184
  have wv184 := HI.t1 hI0
  rw [hv184] at wv184
  refine q_iald (Sh.arr hI181.1 ka_233) 1 rfl (by decide) v184 ((eA_c (gA_sI)).trans hv184) ?_
  refine q_i2l (fun v185 hv185 => ?_)
  refine r_lconst 1 rfl ?_
  refine q_lsub (v185.toInt - 1) rfl (by omega) (fun v186 hv186 => ?_)
  refine q_inlS 15 rfl [.long v183, .long 0, .long v186] [] (Nat.le_of_ble_eq_true rfl) rfl ?_
  refine Ev.mk rfl rfl ⟨Nat.le_of_ble_eq_true rfl, Or.inl rfl⟩ ?_
  show At _ none _ _ (0, [(0, .long v183), (2, .long 0), (4, .long v186)], [], (_, _)) _
  refine At.enter rfl ?_
  refine r_lload_n rfl ?_
  refine r_lload_n rfl ?_
  refine r_lcmp _ rfl ?_
  refine r_ifs 6 rfl (fun c187 => ?_) (fun c187 => ?_)
  · have c187_ : v183.toInt < 0 := en_j_lt_t c187
    refine At.enter rfl ?_
    refine r_iconst 0 rfl ?_
    refine Ar.fall 18 rfl ?_
    refine At.enter rfl ?_
    refine q_iretz (by decide) ?_
    refine At.enter rfl ?_
    refine q_iretz (by decide) ?_
    refine At.enter rfl ?_
    refine r_iff 13 rfl (by decide) ?_
    refine At.enter rfl ?_
    refine r_aload_n rfl ?_
    refine r_bipush (-2) rfl ?_
    refine r_callV 19 rfl [.ref 231, .int (-2)] [] (Nat.le_of_ble_eq_true rfl) rfl (T_X11_tell_231 _ hI181 (-2) (by decide)) ?_
    rintro _ _ ⟨g188, rfl, hI189, hF190, v191, rfl, hr192⟩
    refine At.sti ?_
    have hF193 := Fr.tr hF182 hF190 rfl rfl
    have zv194 : ((-2) : Int32).toInt = (-2) := rfl
    refine At.enter rfl ?_
    refine r_ireti ?_
    obtain ⟨v195, hv195⟩ : ∃ v, eA g0 233 0 = v := ⟨_, rfl⟩
    have tv195 := congrArg Int32.toInt hv195
    have wv195 := HI.t0 hI0
    rw [hv195] at wv195
    have tv195 := congrArg Int32.toInt hv195
    have x196 := HI.eqA hI189 (p := 233) (j := 0) ((((eA_c (hF190.2.1 233 (by decide))).trans (eA_c gA_sI)).trans hv195))
    obtain ⟨v197, hv197⟩ : ∃ v, eA g0 233 4 = v := ⟨_, rfl⟩
    have wv197 := HI.t4 hI0
    rw [hv197] at wv197
    have tv197 := congrArg Int32.toInt hv197
    have x198 := HI.eqA hI189 (p := 233) (j := 4) ((((eA_c (hF190.2.1 233 (by decide))).trans (eA_c gA_sI)).trans hv197))
    obtain ⟨v199, hv199⟩ : ∃ v, eA g0 233 5 = v := ⟨_, rfl⟩
    have wv199 := HI.t5 hI0
    rw [hv199] at wv199
    have tv199 := congrArg Int32.toInt hv199
    have x200 := HI.eqA hI189 (p := 233) (j := 5) ((((eA_c (hF190.2.1 233 (by decide))).trans (eA_c gA_sI)).trans hv199))
    obtain ⟨v201, hv201⟩ : ∃ v, eA g0 233 6 = v := ⟨_, rfl⟩
    have wv201 := HI.t6 hI0
    rw [hv201] at wv201
    have tv201 := congrArg Int32.toInt hv201
    have x202 := HI.eqA hI189 (p := 233) (j := 6) ((((eA_c (hF190.2.1 233 (by decide))).trans (eA_c gA_sI)).trans hv201))
    have x203 := HI.eqA hI0 (p := 233) (j := 0) (hv195)
    have x204 := HI.eqA hI0 (p := 233) (j := 4) (hv197)
    have x205 := HI.eqA hI0 (p := 233) (j := 5) (hv199)
    have x206 := HI.eqA hI0 (p := 233) (j := 6) (hv201)
    exact ⟨_, rfl, hI189, hF193, _, rfl, by omega, ⟨⟨by omega, by omega, by omega, by omega⟩, (by intro i i0 i1; refine (eA_ti (((hF190.2.1 233 (by decide)).trans (gA_sI)))).trans ?_; (first | rfl | exact eA_ix (by omega) | omega)), (by intro i i0 i1; refine (eA_ti (((hF190.2.1 233 (by decide)).trans (gA_sI)))).trans ?_; (first | rfl | exact eA_ix (by omega) | omega))⟩⟩
  · have c187_ : v183.toInt ≥ 0 := en_j_lt_f c187
    refine At.enter rfl ?_
    refine r_lload_n rfl ?_
    refine r_lload rfl ?_
    refine r_lcmp _ rfl ?_
    refine r_ifs 13 rfl (fun c207 => ?_) (fun c207 => ?_)
    · have c207_ : v183.toInt > v186.toInt := en_j_gt_t c207
      refine At.enter rfl ?_
      refine r_iconst 0 rfl ?_
      refine Ar.fall 18 rfl ?_
      refine At.enter rfl ?_
      refine q_iretz (by decide) ?_
      refine At.enter rfl ?_
      refine q_iretz (by decide) ?_
      refine At.enter rfl ?_
      refine r_iff 13 rfl (by decide) ?_
      refine At.enter rfl ?_
      refine r_aload_n rfl ?_
      refine r_bipush (-2) rfl ?_
      refine r_callV 19 rfl [.ref 231, .int (-2)] [] (Nat.le_of_ble_eq_true rfl) rfl (T_X11_tell_231 _ hI181 (-2) (by decide)) ?_
      rintro _ _ ⟨g208, rfl, hI209, hF210, v211, rfl, hr212⟩
      refine At.sti ?_
      have hF213 := Fr.tr hF182 hF210 rfl rfl
      have zv214 : ((-2) : Int32).toInt = (-2) := rfl
      refine At.enter rfl ?_
      refine r_ireti ?_
      obtain ⟨v215, hv215⟩ : ∃ v, eA g0 233 0 = v := ⟨_, rfl⟩
      have tv215 := congrArg Int32.toInt hv215
      have wv215 := HI.t0 hI0
      rw [hv215] at wv215
      have tv215 := congrArg Int32.toInt hv215
      have x216 := HI.eqA hI209 (p := 233) (j := 0) ((((eA_c (hF210.2.1 233 (by decide))).trans (eA_c gA_sI)).trans hv215))
      obtain ⟨v217, hv217⟩ : ∃ v, eA g0 233 4 = v := ⟨_, rfl⟩
      have wv217 := HI.t4 hI0
      rw [hv217] at wv217
      have tv217 := congrArg Int32.toInt hv217
      have x218 := HI.eqA hI209 (p := 233) (j := 4) ((((eA_c (hF210.2.1 233 (by decide))).trans (eA_c gA_sI)).trans hv217))
      obtain ⟨v219, hv219⟩ : ∃ v, eA g0 233 5 = v := ⟨_, rfl⟩
      have wv219 := HI.t5 hI0
      rw [hv219] at wv219
      have tv219 := congrArg Int32.toInt hv219
      have x220 := HI.eqA hI209 (p := 233) (j := 5) ((((eA_c (hF210.2.1 233 (by decide))).trans (eA_c gA_sI)).trans hv219))
      obtain ⟨v221, hv221⟩ : ∃ v, eA g0 233 6 = v := ⟨_, rfl⟩
      have wv221 := HI.t6 hI0
      rw [hv221] at wv221
      have tv221 := congrArg Int32.toInt hv221
      have x222 := HI.eqA hI209 (p := 233) (j := 6) ((((eA_c (hF210.2.1 233 (by decide))).trans (eA_c gA_sI)).trans hv221))
      have x223 := HI.eqA hI0 (p := 233) (j := 0) (hv215)
      have x224 := HI.eqA hI0 (p := 233) (j := 4) (hv217)
      have x225 := HI.eqA hI0 (p := 233) (j := 5) (hv219)
      have x226 := HI.eqA hI0 (p := 233) (j := 6) (hv221)
      exact ⟨_, rfl, hI209, hF213, _, rfl, by omega, ⟨⟨by omega, by omega, by omega, by omega⟩, (by intro i i0 i1; refine (eA_ti (((hF210.2.1 233 (by decide)).trans (gA_sI)))).trans ?_; (first | rfl | exact eA_ix (by omega) | omega)), (by intro i i0 i1; refine (eA_ti (((hF210.2.1 233 (by decide)).trans (gA_sI)))).trans ?_; (first | rfl | exact eA_ix (by omega) | omega))⟩⟩
    · have c207_ : v183.toInt ≤ v186.toInt := en_j_gt_f c207
      refine At.enter rfl ?_
      refine r_iconst 1 rfl ?_
      refine r_goto ?_
      refine At.enter rfl ?_
      refine q_iretz (by decide) ?_
      refine At.enter rfl ?_
      refine q_iretz (by decide) ?_
      refine At.enter rfl ?_
      refine r_ift (by decide) ?_
      refine At.enter rfl ?_
      refine r_bipush 46 rfl ?_
      refine r_bipush 6 rfl ?_
      refine r_iload_n rfl ?_
      refine q_imul (6 * a1.toInt) rfl (by omega) (fun v227 hv227 => ?_)
      refine q_iadd (46 + v227.toInt) rfl (by omega) (fun v228 hv228 => ?_)
      refine r_istore_n ([(2, .int v228), (0, .ref 231), (1, .int a1)]) rfl ?_
      refine Ar.fall 28 rfl ?_
      obtain ⟨v229, hv229⟩ : ∃ v, eA g0 233 0 = v := ⟨_, rfl⟩
      have tv229 := congrArg Int32.toInt hv229
      have wv229 := HI.t0 hI0
      rw [hv229] at wv229
      have tv229 := congrArg Int32.toInt hv229
      obtain ⟨v230, hv230⟩ : ∃ v, eA g0 233 4 = v := ⟨_, rfl⟩
      have wv230 := HI.t4 hI0
      rw [hv230] at wv230
      have tv230 := congrArg Int32.toInt hv230
      obtain ⟨v231, hv231⟩ : ∃ v, eA g0 233 5 = v := ⟨_, rfl⟩
      have wv231 := HI.t5 hI0
      rw [hv231] at wv231
      have tv231 := congrArg Int32.toInt hv231
      obtain ⟨v232, hv232⟩ : ∃ v, eA g0 233 6 = v := ⟨_, rfl⟩
      have wv232 := HI.t6 hI0
      rw [hv232] at wv232
      have tv232 := congrArg Int32.toInt hv232
      refine w_loopI (fun n_ l_ g_ => ∃ x253 : Int32, n_ = 88 - x253.toInt ∧ HI g_ ∧ Fr F_X11_drop_231 A_X11_drop_231 g0 g_ ∧ eA g_ 233 0 = v229 ∧ eA g_ 233 1 = v184 ∧ eA g_ 233 4 = v230 ∧ eA g_ 233 5 = v231 ∧ eA g_ 233 6 = v232 ∧ en_get 0 l_ = some (.ref 231) ∧ en_get 1 l_ = some (.int a1) ∧ en_get 2 l_ = some (.int x253) ∧ (46 ≤ x253.toInt ∧ x253.toInt ≤ 88) ∧ (∀ i : Int, 10 ≤ i → i < 46 → (eA g_ 233 (i)).toInt = (eA g0 233 (i)).toInt) ∧ (∀ i : Int, 94 ≤ i → i < 110 → (eA g_ 233 (i)).toInt = (eA g0 233 (i)).toInt)) ?_ (88 - v228.toInt) ⟨v228, by first | rfl | omega, hI181, hF182, ((eA_c gA_sI).trans hv229), ((eA_c gA_sI).trans hv184), ((eA_c gA_sI).trans hv230), ((eA_c gA_sI).trans hv231), ((eA_c gA_sI).trans hv232), rfl, rfl, rfl, by omega, (by intro i i0 i1; refine (eA_ti ((gA_sI))).trans ?_; (first | rfl | exact eA_ix (by omega) | omega)), (by intro i i0 i1; refine (eA_ti ((gA_sI))).trans ?_; (first | rfl | exact eA_ix (by omega) | omega))⟩
      rintro n258 l257 g254 ⟨x253, hm271, hI255, hF256, e260, e261, e262, e263, e264, e265, e266, e267, r268, q269, q270⟩ ih259
      have tv272 := congrArg Int32.toInt e260
      have tv273 := congrArg Int32.toInt e261
      have tv274 := congrArg Int32.toInt e262
      have tv275 := congrArg Int32.toInt e263
      have tv276 := congrArg Int32.toInt e264
      refine At.enter rfl ?_
      refine r_iload_n e267 ?_
      refine r_bipush 88 rfl ?_
      refine r_ics 34 rfl (fun c277 => ?_) (fun c277 => ?_)
      · have c277_ : x253.toInt ≥ 88 := en_i_ge_t c277
        refine At.enter rfl ?_
        refine r_aload_n e265 ?_
        refine q_getR (Sh.ref hI255.1 kx_231 rfl) ?_
        refine r_iconst 1 rfl ?_
        refine r_dup2 ⟨rfl, rfl⟩ ?_
        refine q_iald (Sh.arr hI255.1 ka_233) 1 rfl (by decide) v184 e261 ?_
        refine r_iconst 1 rfl ?_
        refine q_isub (v184.toInt - 1) rfl (by omega) (fun v278 hv278 => ?_)
        refine q_iast (Sh.arr hI255.1 ka_233) (1) rfl (by decide) ?_
        have x281 := HI.eqA hI255 (p := 233) (j := 0) (e260)
        have x282 := HI.eqA hI255 (p := 233) (j := 1) (e261)
        have yv283 := HI.lt hI255
        have hI279 := HI.wt hI255 (j := 1) (v := v278) (by omega) (by omega)
        have hF280 := Fr.wA (p := 233) (j := 1) (v := v278) hF256 rfl
        refine r_aload_n e265 ?_
        refine r_aload_n e265 ?_
        refine q_getR (Sh.ref hI279.1 kx_231 rfl) ?_
        refine r_iconst 1 rfl ?_
        refine q_iald (Sh.arr hI279.1 ka_233) 1 rfl (by decide) v278 (eA_sA_eq hI255.1 ka_233 (by first | rfl | omega) (by first | decide | omega) (by first | decide | omega)) ?_
        refine r_callV 75 rfl [.ref 231, .int v278] [] (Nat.le_of_ble_eq_true rfl) rfl (T_X11_tell_231 _ hI279 v278 (by omega)) ?_
        rintro _ _ ⟨g284, rfl, hI285, hF286, v287, rfl, hr288⟩
        refine At.sti ?_
        have hF289 := Fr.tr hF280 hF286 rfl rfl
        refine At.enter rfl ?_
        refine r_ireti ?_
        have x290 := HI.eqA hI285 (p := 233) (j := 0) ((((eA_c (hF286.2.1 233 (by decide))).trans (eA_sA_ne hI255.1 ka_233 (by first | decide | omega) (by first | decide | omega) (by first | decide | omega))).trans e260))
        have x291 := HI.eqA hI285 (p := 233) (j := 4) ((((eA_c (hF286.2.1 233 (by decide))).trans (eA_sA_ne hI255.1 ka_233 (by first | decide | omega) (by first | decide | omega) (by first | decide | omega))).trans e262))
        have x292 := HI.eqA hI285 (p := 233) (j := 5) ((((eA_c (hF286.2.1 233 (by decide))).trans (eA_sA_ne hI255.1 ka_233 (by first | decide | omega) (by first | decide | omega) (by first | decide | omega))).trans e263))
        have x293 := HI.eqA hI285 (p := 233) (j := 6) ((((eA_c (hF286.2.1 233 (by decide))).trans (eA_sA_ne hI255.1 ka_233 (by first | decide | omega) (by first | decide | omega) (by first | decide | omega))).trans e264))
        have x294 := HI.eqA hI0 (p := 233) (j := 0) (hv229)
        have x295 := HI.eqA hI0 (p := 233) (j := 4) (hv230)
        have x296 := HI.eqA hI0 (p := 233) (j := 5) (hv231)
        have x297 := HI.eqA hI0 (p := 233) (j := 6) (hv232)
        exact ⟨_, rfl, hI285, hF289, _, rfl, by omega, ⟨⟨by omega, by omega, by omega, by omega⟩, (by intro i i0 i1; refine (eA_ti ((hF286.2.1 233 (by decide)))).trans ?_; exact (Decidable.em (i = 1)).elim (fun k123_ => by refine (eA_eqT hI255.1 ka_233 k123_ (by first | decide | omega) (by first | decide | omega)).trans ?_; (first | (rfl) | (omega))) (fun k123_ => by refine (eA_neT hI255.1 ka_233 k123_ (by first | decide | omega) (by omega)).trans ?_; (first | (refine ((q269 (i) (by omega) (by omega))).trans ?_; (first | rfl | exact eA_ix (by omega) | omega)) | (refine ((q270 (i) (by omega) (by omega))).trans ?_; (first | rfl | exact eA_ix (by omega) | omega))))), (by intro i i0 i1; refine (eA_ti ((hF286.2.1 233 (by decide)))).trans ?_; exact (Decidable.em (i = 1)).elim (fun k124_ => by refine (eA_eqT hI255.1 ka_233 k124_ (by first | decide | omega) (by first | decide | omega)).trans ?_; (first | (rfl) | (omega))) (fun k124_ => by refine (eA_neT hI255.1 ka_233 k124_ (by first | decide | omega) (by omega)).trans ?_; (first | (refine ((q269 (i) (by omega) (by omega))).trans ?_; (first | rfl | exact eA_ix (by omega) | omega)) | (refine ((q270 (i) (by omega) (by omega))).trans ?_; (first | rfl | exact eA_ix (by omega) | omega)))))⟩⟩
      · have c277_ : x253.toInt < 88 := en_i_ge_f c277
        refine At.enter rfl ?_
        refine r_aload_n e265 ?_
        refine q_getR (Sh.ref hI255.1 kx_231 rfl) ?_
        refine r_iload_n e267 ?_
        refine r_aload_n e265 ?_
        refine q_getR (Sh.ref hI255.1 kx_231 rfl) ?_
        refine r_iload_n e267 ?_
        refine r_bipush 6 rfl ?_
        refine q_iadd (x253.toInt + 6) rfl (by omega) (fun v298 hv298 => ?_)
        obtain ⟨v299, hv299⟩ : ∃ v, eA g254 233 (x253.toInt + 6) = v := ⟨_, rfl⟩
        refine q_iald (Sh.arr hI255.1 ka_233) (x253.toInt + 6) (by omega) (by omega) v299 hv299 ?_
        refine q_iast (Sh.arr hI255.1 ka_233) (x253.toInt) rfl (by omega) ?_
        have hI300 := HI.wcp hI255 (k := x253.toInt) (by omega) (by omega) hv299
        have hF301 := Fr.wA (p := 233) (j := x253.toInt) (v := v299) hF256 rfl
        refine q_iinc e267 (x253.toInt + 1) rfl (by omega) (fun v302 hv302 => ?_)
        refine r_goto ?_
        exact ih259 (88 - v302.toInt) _ _ ⟨v302, by first | rfl | omega, hI300, hF301, ((eA_sA_ne hI255.1 ka_233 (by first | decide | omega) (by first | decide | omega) (by first | decide | omega)).trans e260), ((eA_sA_ne hI255.1 ka_233 (by first | decide | omega) (by first | decide | omega) (by first | decide | omega)).trans e261), ((eA_sA_ne hI255.1 ka_233 (by first | decide | omega) (by first | decide | omega) (by first | decide | omega)).trans e262), ((eA_sA_ne hI255.1 ka_233 (by first | decide | omega) (by first | decide | omega) (by first | decide | omega)).trans e263), ((eA_sA_ne hI255.1 ka_233 (by first | decide | omega) (by first | decide | omega) (by first | decide | omega)).trans e264), (w_p1 (by decide) (Or.inr rfl) e265), (w_p1 (by decide) (Or.inr rfl) e266), (w_e1 _ _ _), by omega, (by intro i i0 i1; exact (Decidable.em (i = x253.toInt)).elim (fun k125_ => by refine (eA_eqT hI255.1 ka_233 k125_ (by first | decide | omega) (by first | decide | omega)).trans ?_; (first | (rfl) | (omega) | (refine (congrArg Int32.toInt hv299).symm.trans ?_; (first | (refine ((q269 ((x253.toInt + 6)) (by omega) (by omega))).trans ?_; (first | rfl | exact eA_ix (by omega) | omega)) | (refine ((q270 ((x253.toInt + 6)) (by omega) (by omega))).trans ?_; (first | rfl | exact eA_ix (by omega) | omega)))))) (fun k125_ => by refine (eA_neT hI255.1 ka_233 k125_ (by first | decide | omega) (by omega)).trans ?_; (first | (refine ((q269 (i) (by omega) (by omega))).trans ?_; (first | rfl | exact eA_ix (by omega) | omega)) | (refine ((q270 (i) (by omega) (by omega))).trans ?_; (first | rfl | exact eA_ix (by omega) | omega))))), (by intro i i0 i1; exact (Decidable.em (i = x253.toInt)).elim (fun k126_ => by refine (eA_eqT hI255.1 ka_233 k126_ (by first | decide | omega) (by first | decide | omega)).trans ?_; (first | (rfl) | (omega) | (refine (congrArg Int32.toInt hv299).symm.trans ?_; (first | (refine ((q269 ((x253.toInt + 6)) (by omega) (by omega))).trans ?_; (first | rfl | exact eA_ix (by omega) | omega)) | (refine ((q270 ((x253.toInt + 6)) (by omega) (by omega))).trans ?_; (first | rfl | exact eA_ix (by omega) | omega)))))) (fun k126_ => by refine (eA_neT hI255.1 ka_233 k126_ (by first | decide | omega) (by omega)).trans ?_; (first | (refine ((q269 (i) (by omega) (by omega))).trans ?_; (first | rfl | exact eA_ix (by omega) | omega)) | (refine ((q270 (i) (by omega) (by omega))).trans ?_; (first | rfl | exact eA_ix (by omega) | omega)))))⟩ ⟨by omega, by omega⟩

def F_X11_terms_231 : List (Nat × Nat) := [(231, 0), (231, 1)]
def A_X11_terms_231 : List Nat := [232, 233]
set_option maxRecDepth 100000 in
set_option maxHeartbeats 4000000 in
theorem T_X11_terms_231 (d : Nat) {N : Nat} {g0 : List en_E} (hI0 : HI g0) (a1 : Int32) (a2 : Int32) : Ev (d + 3) 181 [.ref 231, .int a1, .int a2] (g0, N) (fun w h' => ∃ g', h' = (g', N) ∧ HI g' ∧ Fr F_X11_terms_231 A_X11_terms_231 g0 g' ∧ ∃ r : Int32, w = some (.int r) ∧ ((-1) ≤ r.toInt ∧ r.toInt ≤ 99) ∧ (((((a1.toInt = 0 ∧ 0 ≤ a2.toInt ∧ a2.toInt ≤ 99) → r.toInt = (eA g0 233 5).toInt ∧ (eA g' 233 5).toInt = a2.toInt ∧ (eA g' 233 6).toInt = (eA g0 233 6).toInt) ∧ ((a1.toInt = 1 ∧ 1 ≤ a2.toInt ∧ a2.toInt ≤ 4) → r.toInt = (eA g0 233 6).toInt ∧ (eA g' 233 6).toInt = a2.toInt ∧ (eA g' 233 5).toInt = (eA g0 233 5).toInt) ∧ (¬ (a1.toInt = 0 ∧ 0 ≤ a2.toInt ∧ a2.toInt ≤ 99) ∧ ¬ (a1.toInt = 1 ∧ 1 ≤ a2.toInt ∧ a2.toInt ≤ 4) → r.toInt = -1 ∧ (eA g' 233 5).toInt = (eA g0 233 5).toInt ∧ (eA g' 233 6).toInt = (eA g0 233 6).toInt)) ∧ (eA g' 233 0).toInt = (eA g0 233 0).toInt ∧ (eA g' 233 4).toInt = (eA g0 233 4).toInt) ∧ (∀ i : Int, 10 ≤ i → i < 110 → (eA g' 233 (i)).toInt = (eA g0 233 (i)).toInt))) := by
  have hF0 : Fr F_X11_terms_231 A_X11_terms_231 g0 g0 := Fr.rf
  refine Ev.mk rfl rfl ⟨Nat.le_of_ble_eq_true rfl, Or.inr (q_rc hI0.1 kx_231 rfl)⟩ ?_
  show At _ none _ _ (0, [(0, .ref 231), (1, .int a1), (2, .int a2)], [], (_, _)) _
  refine At.enter rfl ?_
  refine r_aload_n rfl ?_
  refine r_iconst 0 rfl ?_
  refine q_putI (Sh.int hI0.1 kx_231 rfl) rfl ?_
  have hI115 := HI.wI0 hI0 kx_231 rfl (p := 231) (b := 0) (v := 0) rfl
  have hF116 := Fr.wI (p := 231) (b := 0) (v := 0) hF0 rfl
  refine r_iload_n rfl ?_
  refine r_ifs 9 rfl (fun c117 => ?_) (fun c117 => ?_)
  · have c117_ : a1.toInt ≠ 0 := en_k_ne_t c117
    refine At.enter rfl ?_
    refine r_iload_n rfl ?_
    refine r_iconst 1 rfl ?_
    refine r_ics 26 rfl (fun c118 => ?_) (fun c118 => ?_)
    · have c118_ : a1.toInt ≠ 1 := en_i_ne_t c118
      refine At.enter rfl ?_
      refine r_iconst 0 rfl ?_
      refine Ar.fall 43 rfl ?_
      refine At.enter rfl ?_
      refine r_istore_n ([(3, .int 0), (0, .ref 231), (1, .int a1), (2, .int a2)]) rfl ?_
      refine r_iload_n rfl ?_
      refine r_ift (by decide) ?_
      refine At.enter rfl ?_
      refine r_aload_n rfl ?_
      refine r_iconst (-1) rfl ?_
      refine r_callV 64 rfl [.ref 231, .int (-1)] [] (Nat.le_of_ble_eq_true rfl) rfl (T_X11_tell_231 _ hI115 (-1) (by decide)) ?_
      rintro _ _ ⟨g119, rfl, hI120, hF121, v122, rfl, hr123⟩
      refine At.sti ?_
      have hF124 := Fr.tr hF116 hF121 rfl rfl
      have zv125 : ((-1) : Int32).toInt = (-1) := rfl
      refine At.enter rfl ?_
      refine r_ireti ?_
      obtain ⟨v126, hv126⟩ : ∃ v, eA g0 233 5 = v := ⟨_, rfl⟩
      have wv126 := HI.t5 hI0
      rw [hv126] at wv126
      have tv126 := congrArg Int32.toInt hv126
      have x127 := HI.eqA hI120 (p := 233) (j := 5) ((((eA_c (hF121.2.1 233 (by decide))).trans (eA_c gA_sI)).trans hv126))
      obtain ⟨v128, hv128⟩ : ∃ v, eA g0 233 6 = v := ⟨_, rfl⟩
      have wv128 := HI.t6 hI0
      rw [hv128] at wv128
      have tv128 := congrArg Int32.toInt hv128
      have x129 := HI.eqA hI120 (p := 233) (j := 6) ((((eA_c (hF121.2.1 233 (by decide))).trans (eA_c gA_sI)).trans hv128))
      obtain ⟨v130, hv130⟩ : ∃ v, eA g0 233 0 = v := ⟨_, rfl⟩
      have tv130 := congrArg Int32.toInt hv130
      have wv130 := HI.t0 hI0
      rw [hv130] at wv130
      have tv130 := congrArg Int32.toInt hv130
      have x131 := HI.eqA hI120 (p := 233) (j := 0) ((((eA_c (hF121.2.1 233 (by decide))).trans (eA_c gA_sI)).trans hv130))
      obtain ⟨v132, hv132⟩ : ∃ v, eA g0 233 4 = v := ⟨_, rfl⟩
      have wv132 := HI.t4 hI0
      rw [hv132] at wv132
      have tv132 := congrArg Int32.toInt hv132
      have x133 := HI.eqA hI120 (p := 233) (j := 4) ((((eA_c (hF121.2.1 233 (by decide))).trans (eA_c gA_sI)).trans hv132))
      have x134 := HI.eqA hI0 (p := 233) (j := 5) (hv126)
      have x135 := HI.eqA hI0 (p := 233) (j := 6) (hv128)
      have x136 := HI.eqA hI0 (p := 233) (j := 0) (hv130)
      have x137 := HI.eqA hI0 (p := 233) (j := 4) (hv132)
      exact ⟨_, rfl, hI120, hF124, _, rfl, by omega, ⟨⟨by omega, by omega, by omega⟩, (by intro i i0 i1; refine (eA_ti (((hF121.2.1 233 (by decide)).trans (gA_sI)))).trans ?_; (first | rfl | exact eA_ix (by omega) | omega))⟩⟩
    · have c118_ : a1.toInt = 1 := en_i_ne_f c118
      refine At.enter rfl ?_
      refine r_iload_n rfl ?_
      refine q_i2l (fun v138 hv138 => ?_)
      refine r_lconst 1 rfl ?_
      refine r_ldc2 4 rfl ?_
      refine q_inlS 35 rfl [.long v138, .long 1, .long 4] [] (Nat.le_of_ble_eq_true rfl) rfl ?_
      refine Ev.mk rfl rfl ⟨Nat.le_of_ble_eq_true rfl, Or.inl rfl⟩ ?_
      show At _ none _ _ (0, [(0, .long v138), (2, .long 1), (4, .long 4)], [], (_, _)) _
      refine At.enter rfl ?_
      refine r_lload_n rfl ?_
      refine r_lload_n rfl ?_
      refine r_lcmp _ rfl ?_
      refine r_ifs 6 rfl (fun c139 => ?_) (fun c139 => ?_)
      · have c139_ : v138.toInt < 1 := en_j_lt_t c139
        refine At.enter rfl ?_
        refine r_iconst 0 rfl ?_
        refine Ar.fall 18 rfl ?_
        refine At.enter rfl ?_
        refine q_iretz (by decide) ?_
        refine At.enter rfl ?_
        refine r_ift (by decide) ?_
        refine At.enter rfl ?_
        refine r_iconst 0 rfl ?_
        refine Ar.fall 43 rfl ?_
        refine At.enter rfl ?_
        refine r_istore_n ([(3, .int 0), (0, .ref 231), (1, .int a1), (2, .int a2)]) rfl ?_
        refine r_iload_n rfl ?_
        refine r_ift (by decide) ?_
        refine At.enter rfl ?_
        refine r_aload_n rfl ?_
        refine r_iconst (-1) rfl ?_
        refine r_callV 64 rfl [.ref 231, .int (-1)] [] (Nat.le_of_ble_eq_true rfl) rfl (T_X11_tell_231 _ hI115 (-1) (by decide)) ?_
        rintro _ _ ⟨g140, rfl, hI141, hF142, v143, rfl, hr144⟩
        refine At.sti ?_
        have hF145 := Fr.tr hF116 hF142 rfl rfl
        have zv146 : ((-1) : Int32).toInt = (-1) := rfl
        refine At.enter rfl ?_
        refine r_ireti ?_
        obtain ⟨v147, hv147⟩ : ∃ v, eA g0 233 5 = v := ⟨_, rfl⟩
        have wv147 := HI.t5 hI0
        rw [hv147] at wv147
        have tv147 := congrArg Int32.toInt hv147
        have x148 := HI.eqA hI141 (p := 233) (j := 5) ((((eA_c (hF142.2.1 233 (by decide))).trans (eA_c gA_sI)).trans hv147))
        obtain ⟨v149, hv149⟩ : ∃ v, eA g0 233 6 = v := ⟨_, rfl⟩
        have wv149 := HI.t6 hI0
        rw [hv149] at wv149
        have tv149 := congrArg Int32.toInt hv149
        have x150 := HI.eqA hI141 (p := 233) (j := 6) ((((eA_c (hF142.2.1 233 (by decide))).trans (eA_c gA_sI)).trans hv149))
        obtain ⟨v151, hv151⟩ : ∃ v, eA g0 233 0 = v := ⟨_, rfl⟩
        have tv151 := congrArg Int32.toInt hv151
        have wv151 := HI.t0 hI0
        rw [hv151] at wv151
        have tv151 := congrArg Int32.toInt hv151
        have x152 := HI.eqA hI141 (p := 233) (j := 0) ((((eA_c (hF142.2.1 233 (by decide))).trans (eA_c gA_sI)).trans hv151))
        obtain ⟨v153, hv153⟩ : ∃ v, eA g0 233 4 = v := ⟨_, rfl⟩
        have wv153 := HI.t4 hI0
        rw [hv153] at wv153
        have tv153 := congrArg Int32.toInt hv153
        have x154 := HI.eqA hI141 (p := 233) (j := 4) ((((eA_c (hF142.2.1 233 (by decide))).trans (eA_c gA_sI)).trans hv153))
        have x155 := HI.eqA hI0 (p := 233) (j := 5) (hv147)
        have x156 := HI.eqA hI0 (p := 233) (j := 6) (hv149)
        have x157 := HI.eqA hI0 (p := 233) (j := 0) (hv151)
        have x158 := HI.eqA hI0 (p := 233) (j := 4) (hv153)
        exact ⟨_, rfl, hI141, hF145, _, rfl, by omega, ⟨⟨by omega, by omega, by omega⟩, (by intro i i0 i1; refine (eA_ti (((hF142.2.1 233 (by decide)).trans (gA_sI)))).trans ?_; (first | rfl | exact eA_ix (by omega) | omega))⟩⟩
      · have c139_ : v138.toInt ≥ 1 := en_j_lt_f c139
        refine At.enter rfl ?_
        refine r_lload_n rfl ?_
        refine r_lload rfl ?_
        refine r_lcmp _ rfl ?_
        refine r_ifs 13 rfl (fun c159 => ?_) (fun c159 => ?_)
        · have c159_ : v138.toInt > 4 := en_j_gt_t c159
          refine At.enter rfl ?_
          refine r_iconst 0 rfl ?_
          refine Ar.fall 18 rfl ?_
          refine At.enter rfl ?_
          refine q_iretz (by decide) ?_
          refine At.enter rfl ?_
          refine r_ift (by decide) ?_
          refine At.enter rfl ?_
          refine r_iconst 0 rfl ?_
          refine Ar.fall 43 rfl ?_
          refine At.enter rfl ?_
          refine r_istore_n ([(3, .int 0), (0, .ref 231), (1, .int a1), (2, .int a2)]) rfl ?_
          refine r_iload_n rfl ?_
          refine r_ift (by decide) ?_
          refine At.enter rfl ?_
          refine r_aload_n rfl ?_
          refine r_iconst (-1) rfl ?_
          refine r_callV 64 rfl [.ref 231, .int (-1)] [] (Nat.le_of_ble_eq_true rfl) rfl (T_X11_tell_231 _ hI115 (-1) (by decide)) ?_
          rintro _ _ ⟨g160, rfl, hI161, hF162, v163, rfl, hr164⟩
          refine At.sti ?_
          have hF165 := Fr.tr hF116 hF162 rfl rfl
          have zv166 : ((-1) : Int32).toInt = (-1) := rfl
          refine At.enter rfl ?_
          refine r_ireti ?_
          obtain ⟨v167, hv167⟩ : ∃ v, eA g0 233 5 = v := ⟨_, rfl⟩
          have wv167 := HI.t5 hI0
          rw [hv167] at wv167
          have tv167 := congrArg Int32.toInt hv167
          have x168 := HI.eqA hI161 (p := 233) (j := 5) ((((eA_c (hF162.2.1 233 (by decide))).trans (eA_c gA_sI)).trans hv167))
          obtain ⟨v169, hv169⟩ : ∃ v, eA g0 233 6 = v := ⟨_, rfl⟩
          have wv169 := HI.t6 hI0
          rw [hv169] at wv169
          have tv169 := congrArg Int32.toInt hv169
          have x170 := HI.eqA hI161 (p := 233) (j := 6) ((((eA_c (hF162.2.1 233 (by decide))).trans (eA_c gA_sI)).trans hv169))
          obtain ⟨v171, hv171⟩ : ∃ v, eA g0 233 0 = v := ⟨_, rfl⟩
          have tv171 := congrArg Int32.toInt hv171
          have wv171 := HI.t0 hI0
          rw [hv171] at wv171
          have tv171 := congrArg Int32.toInt hv171
          have x172 := HI.eqA hI161 (p := 233) (j := 0) ((((eA_c (hF162.2.1 233 (by decide))).trans (eA_c gA_sI)).trans hv171))
          obtain ⟨v173, hv173⟩ : ∃ v, eA g0 233 4 = v := ⟨_, rfl⟩
          have wv173 := HI.t4 hI0
          rw [hv173] at wv173
          have tv173 := congrArg Int32.toInt hv173
          have x174 := HI.eqA hI161 (p := 233) (j := 4) ((((eA_c (hF162.2.1 233 (by decide))).trans (eA_c gA_sI)).trans hv173))
          have x175 := HI.eqA hI0 (p := 233) (j := 5) (hv167)
          have x176 := HI.eqA hI0 (p := 233) (j := 6) (hv169)
          have x177 := HI.eqA hI0 (p := 233) (j := 0) (hv171)
          have x178 := HI.eqA hI0 (p := 233) (j := 4) (hv173)
          exact ⟨_, rfl, hI161, hF165, _, rfl, by omega, ⟨⟨by omega, by omega, by omega⟩, (by intro i i0 i1; refine (eA_ti (((hF162.2.1 233 (by decide)).trans (gA_sI)))).trans ?_; (first | rfl | exact eA_ix (by omega) | omega))⟩⟩
        · have c159_ : v138.toInt ≤ 4 := en_j_gt_f c159
          refine At.enter rfl ?_
          refine r_iconst 1 rfl ?_
          refine r_goto ?_
          refine At.enter rfl ?_
          refine q_iretz (by decide) ?_
          refine At.enter rfl ?_
          refine r_iff 38 rfl (by decide) ?_
          refine At.enter rfl ?_
          refine r_iconst 1 rfl ?_
          refine r_goto ?_
          refine At.enter rfl ?_
          refine r_istore_n ([(3, .int 1), (0, .ref 231), (1, .int a1), (2, .int a2)]) rfl ?_
          refine r_iload_n rfl ?_
          refine r_iff 48 rfl (by decide) ?_
          refine At.enter rfl ?_
          refine r_aload_n rfl ?_
          refine r_iconst 5 rfl ?_
          refine r_iload_n rfl ?_
          refine q_iadd (5 + a1.toInt) rfl (by omega) (fun v179 hv179 => ?_)
          refine r_iload_n rfl ?_
          refine q_inlV 56 rfl [.ref 231, .int v179, .int a2] [] (Nat.le_of_ble_eq_true rfl) rfl ?_
          refine Ev.mk rfl rfl ⟨Nat.le_of_ble_eq_true rfl, Or.inr (q_rc hI115.1 kx_231 rfl)⟩ ?_
          show At _ none _ _ (0, [(0, .ref 231), (1, .int v179), (2, .int a2)], [], (_, _)) _
          refine At.enter rfl ?_
          refine r_aload_n rfl ?_
          refine q_getR (Sh.ref hI115.1 kx_231 rfl) ?_
          refine r_iload_n rfl ?_
          obtain ⟨v180, hv180⟩ : ∃ v, eA g0 233 (a1.toInt + 5) = v := ⟨_, rfl⟩
          have wv180 : 1 ≤ v180.toInt ∧ v180.toInt ≤ 4 := by have z := HI.t6 hI0; rw [← hv180, show (a1.toInt + 5) = 6 by omega]; exact z
          refine q_iald (Sh.arr hI115.1 ka_233) (a1.toInt + 5) (by omega) (by omega) v180 ((eA_c (gA_sI)).trans hv180) ?_
          refine r_istore_n ([(3, .int v180), (0, .ref 231), (1, .int v179), (2, .int a2)]) rfl ?_
          refine r_aload_n rfl ?_
          refine q_getR (Sh.ref hI115.1 kx_231 rfl) ?_
          refine r_iload_n rfl ?_
          refine r_iload_n rfl ?_
          refine q_iast (Sh.arr hI115.1 ka_233) ((a1.toInt + 5)) (by omega) (by omega) ?_
          have hI181 := HI.wt hI115 (j := (a1.toInt + 5)) (v := a2) (by omega) (by omega)
          have hF182 := Fr.wA (p := 233) (j := (a1.toInt + 5)) (v := a2) hF116 rfl
          refine r_aload_n rfl ?_
          refine r_iload_n rfl ?_
          refine q_inlV 19 rfl [.ref 231, .int v180] [] (Nat.le_of_ble_eq_true rfl) rfl ?_
          refine Ev.mk rfl rfl ⟨Nat.le_of_ble_eq_true rfl, Or.inr (q_rc hI181.1 kx_231 rfl)⟩ ?_
          show At _ none _ _ (0, [(0, .ref 231), (1, .int v180)], [], (_, _)) _
          refine At.enter rfl ?_
          refine r_aload_n rfl ?_
          refine r_iconst 0 rfl ?_
          refine q_putI (Sh.int hI181.1 kx_231 rfl) rfl ?_
          have hI183 := HI.wI0 hI181 kx_231 rfl (p := 231) (b := 1) (v := 0) rfl
          have hF184 := Fr.wI (p := 231) (b := 1) (v := 0) hF182 rfl
          refine r_iload_n rfl ?_
          refine q_ireti ?_
          refine At.enter rfl ?_
          refine q_ireti ?_
          refine At.enter rfl ?_
          refine r_goto ?_
          refine At.enter rfl ?_
          refine r_ireti ?_
          obtain ⟨v185, hv185⟩ : ∃ v, eA g0 233 5 = v := ⟨_, rfl⟩
          have wv185 := HI.t5 hI0
          rw [hv185] at wv185
          have tv185 := congrArg Int32.toInt hv185
          have x186 := HI.eqA hI183 (p := 233) (j := 5) ((((eA_c gA_sI).trans ((eA_sA_ne hI115.1 ka_233 (by first | decide | omega) (by first | decide | omega) (by first | decide | omega)).trans (eA_c gA_sI))).trans hv185))
          have x187 := HI.eqA hI183 (p := 233) (j := 6) (((eA_c gA_sI).trans (eA_sA_eq hI115.1 ka_233 (by omega) (by first | decide | omega) (by first | decide | omega))))
          obtain ⟨v188, hv188⟩ : ∃ v, eA g0 233 0 = v := ⟨_, rfl⟩
          have tv188 := congrArg Int32.toInt hv188
          have wv188 := HI.t0 hI0
          rw [hv188] at wv188
          have tv188 := congrArg Int32.toInt hv188
          have x189 := HI.eqA hI183 (p := 233) (j := 0) ((((eA_c gA_sI).trans ((eA_sA_ne hI115.1 ka_233 (by first | decide | omega) (by first | decide | omega) (by first | decide | omega)).trans (eA_c gA_sI))).trans hv188))
          obtain ⟨v190, hv190⟩ : ∃ v, eA g0 233 4 = v := ⟨_, rfl⟩
          have wv190 := HI.t4 hI0
          rw [hv190] at wv190
          have tv190 := congrArg Int32.toInt hv190
          have x191 := HI.eqA hI183 (p := 233) (j := 4) ((((eA_c gA_sI).trans ((eA_sA_ne hI115.1 ka_233 (by first | decide | omega) (by first | decide | omega) (by first | decide | omega)).trans (eA_c gA_sI))).trans hv190))
          have x192 := HI.eqA hI0 (p := 233) (j := 5) (hv185)
          obtain ⟨v193, hv193⟩ : ∃ v, eA g0 233 6 = v := ⟨_, rfl⟩
          have wv193 := HI.t6 hI0
          rw [hv193] at wv193
          have tv193 := congrArg Int32.toInt hv193
          have x194 := HI.eqA hI0 (p := 233) (j := 6) (hv193)
          have y195 : (eA g0 233 6).toInt = v180.toInt := by rw [← hv180, show (a1.toInt + 5) = 6 by omega]
          have x196 := HI.eqA hI0 (p := 233) (j := 0) (hv188)
          have x197 := HI.eqA hI0 (p := 233) (j := 4) (hv190)
          exact ⟨_, rfl, hI183, hF184, _, rfl, by omega, ⟨⟨by omega, by omega, by omega⟩, (by intro i i0 i1; refine (eA_ti ((gA_sI))).trans ?_; exact (Decidable.em (i = (a1.toInt + 5))).elim (fun k127_ => by refine (eA_eqT hI115.1 ka_233 k127_ (by first | decide | omega) (by first | decide | omega)).trans ?_; (first | (rfl) | (omega))) (fun k127_ => by refine (eA_neT hI115.1 ka_233 k127_ (by first | decide | omega) (by omega)).trans ?_; refine (eA_ti ((gA_sI))).trans ?_; (first | rfl | exact eA_ix (by omega) | omega)))⟩⟩
  · have c117_ : a1.toInt = 0 := en_k_ne_f c117
    refine At.enter rfl ?_
    refine r_iload_n rfl ?_
    refine q_i2l (fun v198 hv198 => ?_)
    refine r_lconst 0 rfl ?_
    refine r_ldc2 99 rfl ?_
    refine q_inlS 18 rfl [.long v198, .long 0, .long 99] [] (Nat.le_of_ble_eq_true rfl) rfl ?_
    refine Ev.mk rfl rfl ⟨Nat.le_of_ble_eq_true rfl, Or.inl rfl⟩ ?_
    show At _ none _ _ (0, [(0, .long v198), (2, .long 0), (4, .long 99)], [], (_, _)) _
    refine At.enter rfl ?_
    refine r_lload_n rfl ?_
    refine r_lload_n rfl ?_
    refine r_lcmp _ rfl ?_
    refine r_ifs 6 rfl (fun c199 => ?_) (fun c199 => ?_)
    · have c199_ : v198.toInt < 0 := en_j_lt_t c199
      refine At.enter rfl ?_
      refine r_iconst 0 rfl ?_
      refine Ar.fall 18 rfl ?_
      refine At.enter rfl ?_
      refine q_iretz (by decide) ?_
      refine At.enter rfl ?_
      refine r_goto ?_
      refine At.enter rfl ?_
      refine r_istore_n ([(3, .int 0), (0, .ref 231), (1, .int a1), (2, .int a2)]) rfl ?_
      refine r_iload_n rfl ?_
      refine r_ift (by decide) ?_
      refine At.enter rfl ?_
      refine r_aload_n rfl ?_
      refine r_iconst (-1) rfl ?_
      refine r_callV 64 rfl [.ref 231, .int (-1)] [] (Nat.le_of_ble_eq_true rfl) rfl (T_X11_tell_231 _ hI115 (-1) (by decide)) ?_
      rintro _ _ ⟨g200, rfl, hI201, hF202, v203, rfl, hr204⟩
      refine At.sti ?_
      have hF205 := Fr.tr hF116 hF202 rfl rfl
      have zv206 : ((-1) : Int32).toInt = (-1) := rfl
      refine At.enter rfl ?_
      refine r_ireti ?_
      obtain ⟨v207, hv207⟩ : ∃ v, eA g0 233 5 = v := ⟨_, rfl⟩
      have wv207 := HI.t5 hI0
      rw [hv207] at wv207
      have tv207 := congrArg Int32.toInt hv207
      have x208 := HI.eqA hI201 (p := 233) (j := 5) ((((eA_c (hF202.2.1 233 (by decide))).trans (eA_c gA_sI)).trans hv207))
      obtain ⟨v209, hv209⟩ : ∃ v, eA g0 233 6 = v := ⟨_, rfl⟩
      have wv209 := HI.t6 hI0
      rw [hv209] at wv209
      have tv209 := congrArg Int32.toInt hv209
      have x210 := HI.eqA hI201 (p := 233) (j := 6) ((((eA_c (hF202.2.1 233 (by decide))).trans (eA_c gA_sI)).trans hv209))
      obtain ⟨v211, hv211⟩ : ∃ v, eA g0 233 0 = v := ⟨_, rfl⟩
      have tv211 := congrArg Int32.toInt hv211
      have wv211 := HI.t0 hI0
      rw [hv211] at wv211
      have tv211 := congrArg Int32.toInt hv211
      have x212 := HI.eqA hI201 (p := 233) (j := 0) ((((eA_c (hF202.2.1 233 (by decide))).trans (eA_c gA_sI)).trans hv211))
      obtain ⟨v213, hv213⟩ : ∃ v, eA g0 233 4 = v := ⟨_, rfl⟩
      have wv213 := HI.t4 hI0
      rw [hv213] at wv213
      have tv213 := congrArg Int32.toInt hv213
      have x214 := HI.eqA hI201 (p := 233) (j := 4) ((((eA_c (hF202.2.1 233 (by decide))).trans (eA_c gA_sI)).trans hv213))
      have x215 := HI.eqA hI0 (p := 233) (j := 5) (hv207)
      have x216 := HI.eqA hI0 (p := 233) (j := 6) (hv209)
      have x217 := HI.eqA hI0 (p := 233) (j := 0) (hv211)
      have x218 := HI.eqA hI0 (p := 233) (j := 4) (hv213)
      exact ⟨_, rfl, hI201, hF205, _, rfl, by omega, ⟨⟨by omega, by omega, by omega⟩, (by intro i i0 i1; refine (eA_ti (((hF202.2.1 233 (by decide)).trans (gA_sI)))).trans ?_; (first | rfl | exact eA_ix (by omega) | omega))⟩⟩
    · have c199_ : v198.toInt ≥ 0 := en_j_lt_f c199
      refine At.enter rfl ?_
      refine r_lload_n rfl ?_
      refine r_lload rfl ?_
      refine r_lcmp _ rfl ?_
      refine r_ifs 13 rfl (fun c219 => ?_) (fun c219 => ?_)
      · have c219_ : v198.toInt > 99 := en_j_gt_t c219
        refine At.enter rfl ?_
        refine r_iconst 0 rfl ?_
        refine Ar.fall 18 rfl ?_
        refine At.enter rfl ?_
        refine q_iretz (by decide) ?_
        refine At.enter rfl ?_
        refine r_goto ?_
        refine At.enter rfl ?_
        refine r_istore_n ([(3, .int 0), (0, .ref 231), (1, .int a1), (2, .int a2)]) rfl ?_
        refine r_iload_n rfl ?_
        refine r_ift (by decide) ?_
        refine At.enter rfl ?_
        refine r_aload_n rfl ?_
        refine r_iconst (-1) rfl ?_
        refine r_callV 64 rfl [.ref 231, .int (-1)] [] (Nat.le_of_ble_eq_true rfl) rfl (T_X11_tell_231 _ hI115 (-1) (by decide)) ?_
        rintro _ _ ⟨g220, rfl, hI221, hF222, v223, rfl, hr224⟩
        refine At.sti ?_
        have hF225 := Fr.tr hF116 hF222 rfl rfl
        have zv226 : ((-1) : Int32).toInt = (-1) := rfl
        refine At.enter rfl ?_
        refine r_ireti ?_
        obtain ⟨v227, hv227⟩ : ∃ v, eA g0 233 5 = v := ⟨_, rfl⟩
        have wv227 := HI.t5 hI0
        rw [hv227] at wv227
        have tv227 := congrArg Int32.toInt hv227
        have x228 := HI.eqA hI221 (p := 233) (j := 5) ((((eA_c (hF222.2.1 233 (by decide))).trans (eA_c gA_sI)).trans hv227))
        obtain ⟨v229, hv229⟩ : ∃ v, eA g0 233 6 = v := ⟨_, rfl⟩
        have wv229 := HI.t6 hI0
        rw [hv229] at wv229
        have tv229 := congrArg Int32.toInt hv229
        have x230 := HI.eqA hI221 (p := 233) (j := 6) ((((eA_c (hF222.2.1 233 (by decide))).trans (eA_c gA_sI)).trans hv229))
        obtain ⟨v231, hv231⟩ : ∃ v, eA g0 233 0 = v := ⟨_, rfl⟩
        have tv231 := congrArg Int32.toInt hv231
        have wv231 := HI.t0 hI0
        rw [hv231] at wv231
        have tv231 := congrArg Int32.toInt hv231
        have x232 := HI.eqA hI221 (p := 233) (j := 0) ((((eA_c (hF222.2.1 233 (by decide))).trans (eA_c gA_sI)).trans hv231))
        obtain ⟨v233, hv233⟩ : ∃ v, eA g0 233 4 = v := ⟨_, rfl⟩
        have wv233 := HI.t4 hI0
        rw [hv233] at wv233
        have tv233 := congrArg Int32.toInt hv233
        have x234 := HI.eqA hI221 (p := 233) (j := 4) ((((eA_c (hF222.2.1 233 (by decide))).trans (eA_c gA_sI)).trans hv233))
        have x235 := HI.eqA hI0 (p := 233) (j := 5) (hv227)
        have x236 := HI.eqA hI0 (p := 233) (j := 6) (hv229)
        have x237 := HI.eqA hI0 (p := 233) (j := 0) (hv231)
        have x238 := HI.eqA hI0 (p := 233) (j := 4) (hv233)
        exact ⟨_, rfl, hI221, hF225, _, rfl, by omega, ⟨⟨by omega, by omega, by omega⟩, (by intro i i0 i1; refine (eA_ti (((hF222.2.1 233 (by decide)).trans (gA_sI)))).trans ?_; (first | rfl | exact eA_ix (by omega) | omega))⟩⟩
      · have c219_ : v198.toInt ≤ 99 := en_j_gt_f c219
        refine At.enter rfl ?_
        refine r_iconst 1 rfl ?_
        refine r_goto ?_
        refine At.enter rfl ?_
        refine q_iretz (by decide) ?_
        refine At.enter rfl ?_
        refine r_goto ?_
        refine At.enter rfl ?_
        refine r_istore_n ([(3, .int 1), (0, .ref 231), (1, .int a1), (2, .int a2)]) rfl ?_
        refine r_iload_n rfl ?_
        refine r_iff 48 rfl (by decide) ?_
        refine At.enter rfl ?_
        refine r_aload_n rfl ?_
        refine r_iconst 5 rfl ?_
        refine r_iload_n rfl ?_
        refine q_iadd (5 + a1.toInt) rfl (by omega) (fun v239 hv239 => ?_)
        refine r_iload_n rfl ?_
        refine q_inlV 56 rfl [.ref 231, .int v239, .int a2] [] (Nat.le_of_ble_eq_true rfl) rfl ?_
        refine Ev.mk rfl rfl ⟨Nat.le_of_ble_eq_true rfl, Or.inr (q_rc hI115.1 kx_231 rfl)⟩ ?_
        show At _ none _ _ (0, [(0, .ref 231), (1, .int v239), (2, .int a2)], [], (_, _)) _
        refine At.enter rfl ?_
        refine r_aload_n rfl ?_
        refine q_getR (Sh.ref hI115.1 kx_231 rfl) ?_
        refine r_iload_n rfl ?_
        obtain ⟨v240, hv240⟩ : ∃ v, eA g0 233 (a1.toInt + 5) = v := ⟨_, rfl⟩
        have wv240 : 0 ≤ v240.toInt ∧ v240.toInt ≤ 99 := by have z := HI.t5 hI0; rw [← hv240, show (a1.toInt + 5) = 5 by omega]; exact z
        refine q_iald (Sh.arr hI115.1 ka_233) (a1.toInt + 5) (by omega) (by omega) v240 ((eA_c (gA_sI)).trans hv240) ?_
        refine r_istore_n ([(3, .int v240), (0, .ref 231), (1, .int v239), (2, .int a2)]) rfl ?_
        refine r_aload_n rfl ?_
        refine q_getR (Sh.ref hI115.1 kx_231 rfl) ?_
        refine r_iload_n rfl ?_
        refine r_iload_n rfl ?_
        refine q_iast (Sh.arr hI115.1 ka_233) ((a1.toInt + 5)) (by omega) (by omega) ?_
        have hI241 := HI.wt hI115 (j := (a1.toInt + 5)) (v := a2) (by omega) (by omega)
        have hF242 := Fr.wA (p := 233) (j := (a1.toInt + 5)) (v := a2) hF116 rfl
        refine r_aload_n rfl ?_
        refine r_iload_n rfl ?_
        refine q_inlV 19 rfl [.ref 231, .int v240] [] (Nat.le_of_ble_eq_true rfl) rfl ?_
        refine Ev.mk rfl rfl ⟨Nat.le_of_ble_eq_true rfl, Or.inr (q_rc hI241.1 kx_231 rfl)⟩ ?_
        show At _ none _ _ (0, [(0, .ref 231), (1, .int v240)], [], (_, _)) _
        refine At.enter rfl ?_
        refine r_aload_n rfl ?_
        refine r_iconst 0 rfl ?_
        refine q_putI (Sh.int hI241.1 kx_231 rfl) rfl ?_
        have hI243 := HI.wI0 hI241 kx_231 rfl (p := 231) (b := 1) (v := 0) rfl
        have hF244 := Fr.wI (p := 231) (b := 1) (v := 0) hF242 rfl
        refine r_iload_n rfl ?_
        refine q_ireti ?_
        refine At.enter rfl ?_
        refine q_ireti ?_
        refine At.enter rfl ?_
        refine r_goto ?_
        refine At.enter rfl ?_
        refine r_ireti ?_
        have x245 := HI.eqA hI243 (p := 233) (j := 5) (((eA_c gA_sI).trans (eA_sA_eq hI115.1 ka_233 (by omega) (by first | decide | omega) (by first | decide | omega))))
        obtain ⟨v246, hv246⟩ : ∃ v, eA g0 233 6 = v := ⟨_, rfl⟩
        have wv246 := HI.t6 hI0
        rw [hv246] at wv246
        have tv246 := congrArg Int32.toInt hv246
        have x247 := HI.eqA hI243 (p := 233) (j := 6) ((((eA_c gA_sI).trans ((eA_sA_ne hI115.1 ka_233 (by first | decide | omega) (by first | decide | omega) (by first | decide | omega)).trans (eA_c gA_sI))).trans hv246))
        obtain ⟨v248, hv248⟩ : ∃ v, eA g0 233 0 = v := ⟨_, rfl⟩
        have tv248 := congrArg Int32.toInt hv248
        have wv248 := HI.t0 hI0
        rw [hv248] at wv248
        have tv248 := congrArg Int32.toInt hv248
        have x249 := HI.eqA hI243 (p := 233) (j := 0) ((((eA_c gA_sI).trans ((eA_sA_ne hI115.1 ka_233 (by first | decide | omega) (by first | decide | omega) (by first | decide | omega)).trans (eA_c gA_sI))).trans hv248))
        obtain ⟨v250, hv250⟩ : ∃ v, eA g0 233 4 = v := ⟨_, rfl⟩
        have wv250 := HI.t4 hI0
        rw [hv250] at wv250
        have tv250 := congrArg Int32.toInt hv250
        have x251 := HI.eqA hI243 (p := 233) (j := 4) ((((eA_c gA_sI).trans ((eA_sA_ne hI115.1 ka_233 (by first | decide | omega) (by first | decide | omega) (by first | decide | omega)).trans (eA_c gA_sI))).trans hv250))
        obtain ⟨v252, hv252⟩ : ∃ v, eA g0 233 5 = v := ⟨_, rfl⟩
        have wv252 := HI.t5 hI0
        rw [hv252] at wv252
        have tv252 := congrArg Int32.toInt hv252
        have x253 := HI.eqA hI0 (p := 233) (j := 5) (hv252)
        have y254 : (eA g0 233 5).toInt = v240.toInt := by rw [← hv240, show (a1.toInt + 5) = 5 by omega]
        have x255 := HI.eqA hI0 (p := 233) (j := 6) (hv246)
        have x256 := HI.eqA hI0 (p := 233) (j := 0) (hv248)
        have x257 := HI.eqA hI0 (p := 233) (j := 4) (hv250)
        exact ⟨_, rfl, hI243, hF244, _, rfl, by omega, ⟨⟨by omega, by omega, by omega⟩, (by intro i i0 i1; refine (eA_ti ((gA_sI))).trans ?_; exact (Decidable.em (i = (a1.toInt + 5))).elim (fun k128_ => by refine (eA_eqT hI115.1 ka_233 k128_ (by first | decide | omega) (by first | decide | omega)).trans ?_; (first | (rfl) | (omega))) (fun k128_ => by refine (eA_neT hI115.1 ka_233 k128_ (by first | decide | omega) (by omega)).trans ?_; refine (eA_ti ((gA_sI))).trans ?_; (first | rfl | exact eA_ix (by omega) | omega)))⟩⟩
