def F_X11_drop_231 : List (Nat × Nat) := [(231, 0), (231, 1)]
def A_X11_drop_231 : List Nat := [232, 233]
set_option maxRecDepth 100000 in
set_option maxHeartbeats 4000000 in
theorem T_X11_drop_231 (d : Nat) {N : Nat} {g0 : List en_E} (hI0 : HI g0) (a1 : Int32) : Ev (d + 3) 180 [.ref 231, .int a1] (g0, N) (fun w h' => ∃ g', h' = (g', N) ∧ HI g' ∧ Fr F_X11_drop_231 A_X11_drop_231 g0 g' ∧ ∃ r : Int32, w = some (.int r) ∧ ((-2) ≤ r.toInt ∧ r.toInt ≤ 7) ∧ (((eA g' 233 0).toInt = (eA g0 233 0).toInt ∧ (eA g' 233 4).toInt = (eA g0 233 4).toInt ∧ (eA g' 233 5).toInt = (eA g0 233 5).toInt ∧ (eA g' 233 6).toInt = (eA g0 233 6).toInt) ∧ (∀ i : Int, 10 ≤ i → i < 46 → (eA g' 233 (i)).toInt = (eA g0 233 (i)).toInt) ∧ (∀ i : Int, 94 ≤ i → i < 110 → (eA g' 233 (i)).toInt = (eA g0 233 (i)).toInt))) := by
  have hF0 : Fr F_X11_drop_231 A_X11_drop_231 g0 g0 := Fr.rf
  refine Ev.mk rfl rfl ⟨Nat.le_of_ble_eq_true rfl, Or.inr (q_rc hI0.1 kx_231 rfl)⟩ ?_
  show At _ none _ _ (0, [(0, .ref 231), (1, .int a1)], [], (_, _)) _
  refine At.enter rfl ?_
  refine r_aload_n rfl ?_
  refine r_iconst 0 rfl ?_
  refine q_putI (Sh.int hI0.1 kx_231 rfl) rfl ?_
  have hI181 := HI.wI0 hI0 kx_231 rfl (p := 231) (b := 0) (v := 0) rfl
  have hF182 := Fr.wI (p := 231) (b := 0) (v := 0) hF0 rfl
  refine r_aload_n rfl ?_
  refine r_iload_n rfl ?_
  refine q_inlV 10 rfl [.ref 231, .int a1] [] (Nat.le_of_ble_eq_true rfl) rfl ?_
  refine Ev.mk rfl rfl ⟨Nat.le_of_ble_eq_true rfl, Or.inr (q_rc hI181.1 kx_231 rfl)⟩ ?_
  show At _ none _ _ (0, [(0, .ref 231), (1, .int a1)], [], (_, _)) _
  refine At.enter rfl ?_
  refine r_iload_n rfl ?_
  refine q_i2l (fun v183 hv183 => ?_)
  refine r_lconst 0 rfl ?_
  refine r_aload_n rfl ?_
  refine q_getR (Sh.ref hI181.1 kx_231 rfl) ?_
  refine r_iconst 1 rfl ?_
  obtain ⟨v184, hv184⟩ : ∃ v, eA g0 233 1 = v := ⟨_, rfl⟩
  have tv184 := congrArg Int32.toInt hv184
  have wv184 := HI.t1 hI0
  rw [hv184] at wv184
  refine q_iald (Sh.arr hI181.1 ka_233) 1 rfl (by decide) v184 ((eA_c (gA_sI)).trans hv184) ?_
  refine q_i2l (fun v185 hv185 => ?_)
  refine r_lconst 1 rfl ?_
  refine q_lsub (v185.toInt - 1) rfl (by omega) (fun v186 hv186 => ?_)
  refine q_inlS 15 rfl [.long v183, .long 0, .long v186] [] (Nat.le_of_ble_eq_true rfl) rfl ?_
  refine Ev.mk rfl rfl ⟨Nat.le_of_ble_eq_true rfl, Or.inl rfl⟩ ?_
  show At _ none _ _ (0, [(0, .long v183), (2, .long 0), (4, .long v186)], [], (_, _)) _
  refine At.enter rfl ?_
  refine r_lload_n rfl ?_
  refine r_lload_n rfl ?_
  refine r_lcmp _ rfl ?_
  refine r_ifs 6 rfl (fun c187 => ?_) (fun c187 => ?_)
  · have c187_ : v183.toInt < 0 := en_j_lt_t c187
    refine At.enter rfl ?_
    refine r_iconst 0 rfl ?_
    refine Ar.fall 18 rfl ?_
    refine At.enter rfl ?_
    refine q_iretz (by decide) ?_
    refine At.enter rfl ?_
    refine q_iretz (by decide) ?_
    refine At.enter rfl ?_
    refine r_iff 13 rfl (by decide) ?_
    refine At.enter rfl ?_
    refine r_aload_n rfl ?_
    refine r_bipush (-2) rfl ?_
    refine r_callV 19 rfl [.ref 231, .int (-2)] [] (Nat.le_of_ble_eq_true rfl) rfl (T_X11_tell_231 _ hI181 (-2) (by decide)) ?_
    rintro _ _ ⟨g188, rfl, hI189, hF190, v191, rfl, hr192⟩
    refine At.sti ?_
    have hF193 := Fr.tr hF182 hF190 rfl rfl
    have zv194 : ((-2) : Int32).toInt = (-2) := rfl
    refine At.enter rfl ?_
    refine r_ireti ?_
    obtain ⟨v195, hv195⟩ : ∃ v, eA g0 233 0 = v := ⟨_, rfl⟩
    have tv195 := congrArg Int32.toInt hv195
    have wv195 := HI.t0 hI0
    rw [hv195] at wv195
    have tv195 := congrArg Int32.toInt hv195
    have x196 := HI.eqA hI189 (p := 233) (j := 0) ((((eA_c (hF190.2.1 233 (by decide))).trans (eA_c gA_sI)).trans hv195))
    obtain ⟨v197, hv197⟩ : ∃ v, eA g0 233 4 = v := ⟨_, rfl⟩
    have wv197 := HI.t4 hI0
    rw [hv197] at wv197
    have tv197 := congrArg Int32.toInt hv197
    have x198 := HI.eqA hI189 (p := 233) (j := 4) ((((eA_c (hF190.2.1 233 (by decide))).trans (eA_c gA_sI)).trans hv197))
    obtain ⟨v199, hv199⟩ : ∃ v, eA g0 233 5 = v := ⟨_, rfl⟩
    have wv199 := HI.t5 hI0
    rw [hv199] at wv199
    have tv199 := congrArg Int32.toInt hv199
    have x200 := HI.eqA hI189 (p := 233) (j := 5) ((((eA_c (hF190.2.1 233 (by decide))).trans (eA_c gA_sI)).trans hv199))
    obtain ⟨v201, hv201⟩ : ∃ v, eA g0 233 6 = v := ⟨_, rfl⟩
    have wv201 := HI.t6 hI0
    rw [hv201] at wv201
    have tv201 := congrArg Int32.toInt hv201
    have x202 := HI.eqA hI189 (p := 233) (j := 6) ((((eA_c (hF190.2.1 233 (by decide))).trans (eA_c gA_sI)).trans hv201))
    have x203 := HI.eqA hI0 (p := 233) (j := 0) (hv195)
    have x204 := HI.eqA hI0 (p := 233) (j := 4) (hv197)
    have x205 := HI.eqA hI0 (p := 233) (j := 5) (hv199)
    have x206 := HI.eqA hI0 (p := 233) (j := 6) (hv201)
    exact ⟨_, rfl, hI189, hF193, _, rfl, by omega, ⟨⟨by omega, by omega, by omega, by omega⟩, (by intro i i0 i1; refine (eA_ti (((hF190.2.1 233 (by decide)).trans (gA_sI)))).trans ?_; (first | rfl | exact eA_ix (by omega) | omega)), (by intro i i0 i1; refine (eA_ti (((hF190.2.1 233 (by decide)).trans (gA_sI)))).trans ?_; (first | rfl | exact eA_ix (by omega) | omega))⟩⟩
  · have c187_ : v183.toInt ≥ 0 := en_j_lt_f c187
    refine At.enter rfl ?_
    refine r_lload_n rfl ?_
    refine r_lload rfl ?_
    refine r_lcmp _ rfl ?_
    refine r_ifs 13 rfl (fun c207 => ?_) (fun c207 => ?_)
    · have c207_ : v183.toInt > v186.toInt := en_j_gt_t c207
      refine At.enter rfl ?_
      refine r_iconst 0 rfl ?_
      refine Ar.fall 18 rfl ?_
      refine At.enter rfl ?_
      refine q_iretz (by decide) ?_
      refine At.enter rfl ?_
      refine q_iretz (by decide) ?_
      refine At.enter rfl ?_
      refine r_iff 13 rfl (by decide) ?_
      refine At.enter rfl ?_
      refine r_aload_n rfl ?_
      refine r_bipush (-2) rfl ?_
      refine r_callV 19 rfl [.ref 231, .int (-2)] [] (Nat.le_of_ble_eq_true rfl) rfl (T_X11_tell_231 _ hI181 (-2) (by decide)) ?_
      rintro _ _ ⟨g208, rfl, hI209, hF210, v211, rfl, hr212⟩
      refine At.sti ?_
      have hF213 := Fr.tr hF182 hF210 rfl rfl
      have zv214 : ((-2) : Int32).toInt = (-2) := rfl
      refine At.enter rfl ?_
      refine r_ireti ?_
      obtain ⟨v215, hv215⟩ : ∃ v, eA g0 233 0 = v := ⟨_, rfl⟩
      have tv215 := congrArg Int32.toInt hv215
      have wv215 := HI.t0 hI0
      rw [hv215] at wv215
      have tv215 := congrArg Int32.toInt hv215
      have x216 := HI.eqA hI209 (p := 233) (j := 0) ((((eA_c (hF210.2.1 233 (by decide))).trans (eA_c gA_sI)).trans hv215))
      obtain ⟨v217, hv217⟩ : ∃ v, eA g0 233 4 = v := ⟨_, rfl⟩
      have wv217 := HI.t4 hI0
      rw [hv217] at wv217
      have tv217 := congrArg Int32.toInt hv217
      have x218 := HI.eqA hI209 (p := 233) (j := 4) ((((eA_c (hF210.2.1 233 (by decide))).trans (eA_c gA_sI)).trans hv217))
      obtain ⟨v219, hv219⟩ : ∃ v, eA g0 233 5 = v := ⟨_, rfl⟩
      have wv219 := HI.t5 hI0
      rw [hv219] at wv219
      have tv219 := congrArg Int32.toInt hv219
      have x220 := HI.eqA hI209 (p := 233) (j := 5) ((((eA_c (hF210.2.1 233 (by decide))).trans (eA_c gA_sI)).trans hv219))
      obtain ⟨v221, hv221⟩ : ∃ v, eA g0 233 6 = v := ⟨_, rfl⟩
      have wv221 := HI.t6 hI0
      rw [hv221] at wv221
      have tv221 := congrArg Int32.toInt hv221
      have x222 := HI.eqA hI209 (p := 233) (j := 6) ((((eA_c (hF210.2.1 233 (by decide))).trans (eA_c gA_sI)).trans hv221))
      have x223 := HI.eqA hI0 (p := 233) (j := 0) (hv215)
      have x224 := HI.eqA hI0 (p := 233) (j := 4) (hv217)
      have x225 := HI.eqA hI0 (p := 233) (j := 5) (hv219)
      have x226 := HI.eqA hI0 (p := 233) (j := 6) (hv221)
      exact ⟨_, rfl, hI209, hF213, _, rfl, by omega, ⟨⟨by omega, by omega, by omega, by omega⟩, (by intro i i0 i1; refine (eA_ti (((hF210.2.1 233 (by decide)).trans (gA_sI)))).trans ?_; (first | rfl | exact eA_ix (by omega) | omega)), (by intro i i0 i1; refine (eA_ti (((hF210.2.1 233 (by decide)).trans (gA_sI)))).trans ?_; (first | rfl | exact eA_ix (by omega) | omega))⟩⟩
    · have c207_ : v183.toInt ≤ v186.toInt := en_j_gt_f c207
      refine At.enter rfl ?_
      refine r_iconst 1 rfl ?_
      refine r_goto ?_
      refine At.enter rfl ?_
      refine q_iretz (by decide) ?_
      refine At.enter rfl ?_
      refine q_iretz (by decide) ?_
      refine At.enter rfl ?_
      refine r_ift (by decide) ?_
      refine At.enter rfl ?_
      refine r_bipush 46 rfl ?_
      refine r_bipush 6 rfl ?_
      refine r_iload_n rfl ?_
      refine q_imul (6 * a1.toInt) rfl (by omega) (fun v227 hv227 => ?_)
      refine q_iadd (46 + v227.toInt) rfl (by omega) (fun v228 hv228 => ?_)
      refine r_istore_n ([(2, .int v228), (0, .ref 231), (1, .int a1)]) rfl ?_
      refine Ar.fall 28 rfl ?_
      obtain ⟨v229, hv229⟩ : ∃ v, eA g0 233 0 = v := ⟨_, rfl⟩
      have tv229 := congrArg Int32.toInt hv229
      have wv229 := HI.t0 hI0
      rw [hv229] at wv229
      have tv229 := congrArg Int32.toInt hv229
      obtain ⟨v230, hv230⟩ : ∃ v, eA g0 233 4 = v := ⟨_, rfl⟩
      have wv230 := HI.t4 hI0
      rw [hv230] at wv230
      have tv230 := congrArg Int32.toInt hv230
      obtain ⟨v231, hv231⟩ : ∃ v, eA g0 233 5 = v := ⟨_, rfl⟩
      have wv231 := HI.t5 hI0
      rw [hv231] at wv231
      have tv231 := congrArg Int32.toInt hv231
      obtain ⟨v232, hv232⟩ : ∃ v, eA g0 233 6 = v := ⟨_, rfl⟩
      have wv232 := HI.t6 hI0
      rw [hv232] at wv232
      have tv232 := congrArg Int32.toInt hv232
      refine w_loopI (fun n_ l_ g_ => ∃ x253 : Int32, n_ = 88 - x253.toInt ∧ HI g_ ∧ Fr F_X11_drop_231 A_X11_drop_231 g0 g_ ∧ eA g_ 233 0 = v229 ∧ eA g_ 233 1 = v184 ∧ eA g_ 233 4 = v230 ∧ eA g_ 233 5 = v231 ∧ eA g_ 233 6 = v232 ∧ en_get 0 l_ = some (.ref 231) ∧ en_get 1 l_ = some (.int a1) ∧ en_get 2 l_ = some (.int x253) ∧ (46 ≤ x253.toInt ∧ x253.toInt ≤ 88) ∧ (∀ i : Int, 10 ≤ i → i < 46 → (eA g_ 233 (i)).toInt = (eA g0 233 (i)).toInt) ∧ (∀ i : Int, 94 ≤ i → i < 110 → (eA g_ 233 (i)).toInt = (eA g0 233 (i)).toInt)) ?_ (88 - v228.toInt) ⟨v228, by first | rfl | omega, hI181, hF182, ((eA_c gA_sI).trans hv229), ((eA_c gA_sI).trans hv184), ((eA_c gA_sI).trans hv230), ((eA_c gA_sI).trans hv231), ((eA_c gA_sI).trans hv232), rfl, rfl, rfl, by omega, (by intro i i0 i1; refine (eA_ti ((gA_sI))).trans ?_; (first | rfl | exact eA_ix (by omega) | omega)), (by intro i i0 i1; refine (eA_ti ((gA_sI))).trans ?_; (first | rfl | exact eA_ix (by omega) | omega))⟩
      rintro n258 l257 g254 ⟨x253, hm271, hI255, hF256, e260, e261, e262, e263, e264, e265, e266, e267, r268, q269, q270⟩ ih259
      have tv272 := congrArg Int32.toInt e260
      have tv273 := congrArg Int32.toInt e261
      have tv274 := congrArg Int32.toInt e262
      have tv275 := congrArg Int32.toInt e263
      have tv276 := congrArg Int32.toInt e264
      refine At.enter rfl ?_
      refine r_iload_n e267 ?_
      refine r_bipush 88 rfl ?_
      refine r_ics 34 rfl (fun c277 => ?_) (fun c277 => ?_)
      · have c277_ : x253.toInt ≥ 88 := en_i_ge_t c277
        refine At.enter rfl ?_
        refine r_aload_n e265 ?_
        refine q_getR (Sh.ref hI255.1 kx_231 rfl) ?_
        refine r_iconst 1 rfl ?_
        refine r_dup2 ⟨rfl, rfl⟩ ?_
        refine q_iald (Sh.arr hI255.1 ka_233) 1 rfl (by decide) v184 e261 ?_
        refine r_iconst 1 rfl ?_
        refine q_isub (v184.toInt - 1) rfl (by omega) (fun v278 hv278 => ?_)
        refine q_iast (Sh.arr hI255.1 ka_233) (1) rfl (by decide) ?_
        have x281 := HI.eqA hI255 (p := 233) (j := 0) (e260)
        have x282 := HI.eqA hI255 (p := 233) (j := 1) (e261)
        have yv283 := HI.lt hI255
        have hI279 := HI.wt hI255 (j := 1) (v := v278) (by omega) (by omega)
        have hF280 := Fr.wA (p := 233) (j := 1) (v := v278) hF256 rfl
        refine r_aload_n e265 ?_
        refine r_aload_n e265 ?_
        refine q_getR (Sh.ref hI279.1 kx_231 rfl) ?_
        refine r_iconst 1 rfl ?_
        refine q_iald (Sh.arr hI279.1 ka_233) 1 rfl (by decide) v278 (eA_sA_eq hI255.1 ka_233 (by first | rfl | omega) (by first | decide | omega) (by first | decide | omega)) ?_
        refine r_callV 75 rfl [.ref 231, .int v278] [] (Nat.le_of_ble_eq_true rfl) rfl (T_X11_tell_231 _ hI279 v278 (by omega)) ?_
        rintro _ _ ⟨g284, rfl, hI285, hF286, v287, rfl, hr288⟩
        refine At.sti ?_
        have hF289 := Fr.tr hF280 hF286 rfl rfl
        refine At.enter rfl ?_
        refine r_ireti ?_
        have x290 := HI.eqA hI285 (p := 233) (j := 0) ((((eA_c (hF286.2.1 233 (by decide))).trans (eA_sA_ne hI255.1 ka_233 (by first | decide | omega) (by first | decide | omega) (by first | decide | omega))).trans e260))
        have x291 := HI.eqA hI285 (p := 233) (j := 4) ((((eA_c (hF286.2.1 233 (by decide))).trans (eA_sA_ne hI255.1 ka_233 (by first | decide | omega) (by first | decide | omega) (by first | decide | omega))).trans e262))
        have x292 := HI.eqA hI285 (p := 233) (j := 5) ((((eA_c (hF286.2.1 233 (by decide))).trans (eA_sA_ne hI255.1 ka_233 (by first | decide | omega) (by first | decide | omega) (by first | decide | omega))).trans e263))
        have x293 := HI.eqA hI285 (p := 233) (j := 6) ((((eA_c (hF286.2.1 233 (by decide))).trans (eA_sA_ne hI255.1 ka_233 (by first | decide | omega) (by first | decide | omega) (by first | decide | omega))).trans e264))
        have x294 := HI.eqA hI0 (p := 233) (j := 0) (hv229)
        have x295 := HI.eqA hI0 (p := 233) (j := 4) (hv230)
        have x296 := HI.eqA hI0 (p := 233) (j := 5) (hv231)
        have x297 := HI.eqA hI0 (p := 233) (j := 6) (hv232)
        exact ⟨_, rfl, hI285, hF289, _, rfl, by omega, ⟨⟨by omega, by omega, by omega, by omega⟩, (by intro i i0 i1; refine (eA_ti ((hF286.2.1 233 (by decide)))).trans ?_; exact (Decidable.em (i = 1)).elim (fun k123_ => by refine (eA_eqT hI255.1 ka_233 k123_ (by first | decide | omega) (by first | decide | omega)).trans ?_; (first | (rfl) | (omega))) (fun k123_ => by refine (eA_neT hI255.1 ka_233 k123_ (by first | decide | omega) (by omega)).trans ?_; (first | (refine ((q269 (i) (by omega) (by omega))).trans ?_; (first | rfl | exact eA_ix (by omega) | omega)) | (refine ((q270 (i) (by omega) (by omega))).trans ?_; (first | rfl | exact eA_ix (by omega) | omega))))), (by intro i i0 i1; refine (eA_ti ((hF286.2.1 233 (by decide)))).trans ?_; exact (Decidable.em (i = 1)).elim (fun k124_ => by refine (eA_eqT hI255.1 ka_233 k124_ (by first | decide | omega) (by first | decide | omega)).trans ?_; (first | (rfl) | (omega))) (fun k124_ => by refine (eA_neT hI255.1 ka_233 k124_ (by first | decide | omega) (by omega)).trans ?_; (first | (refine ((q269 (i) (by omega) (by omega))).trans ?_; (first | rfl | exact eA_ix (by omega) | omega)) | (refine ((q270 (i) (by omega) (by omega))).trans ?_; (first | rfl | exact eA_ix (by omega) | omega)))))⟩⟩
      · have c277_ : x253.toInt < 88 := en_i_ge_f c277
        refine At.enter rfl ?_
        refine r_aload_n e265 ?_
        refine q_getR (Sh.ref hI255.1 kx_231 rfl) ?_
        refine r_iload_n e267 ?_
        refine r_aload_n e265 ?_
        refine q_getR (Sh.ref hI255.1 kx_231 rfl) ?_
        refine r_iload_n e267 ?_
        refine r_bipush 6 rfl ?_
        refine q_iadd (x253.toInt + 6) rfl (by omega) (fun v298 hv298 => ?_)
        obtain ⟨v299, hv299⟩ : ∃ v, eA g254 233 (x253.toInt + 6) = v := ⟨_, rfl⟩
        refine q_iald (Sh.arr hI255.1 ka_233) (x253.toInt + 6) (by omega) (by omega) v299 hv299 ?_
        refine q_iast (Sh.arr hI255.1 ka_233) (x253.toInt) rfl (by omega) ?_
        have hI300 := HI.wcp hI255 (k := x253.toInt) (by omega) (by omega) hv299
        have hF301 := Fr.wA (p := 233) (j := x253.toInt) (v := v299) hF256 rfl
        refine q_iinc e267 (x253.toInt + 1) rfl (by omega) (fun v302 hv302 => ?_)
        refine r_goto ?_
        exact ih259 (88 - v302.toInt) _ _ ⟨v302, by first | rfl | omega, hI300, hF301, ((eA_sA_ne hI255.1 ka_233 (by first | decide | omega) (by first | decide | omega) (by first | decide | omega)).trans e260), ((eA_sA_ne hI255.1 ka_233 (by first | decide | omega) (by first | decide | omega) (by first | decide | omega)).trans e261), ((eA_sA_ne hI255.1 ka_233 (by first | decide | omega) (by first | decide | omega) (by first | decide | omega)).trans e262), ((eA_sA_ne hI255.1 ka_233 (by first | decide | omega) (by first | decide | omega) (by first | decide | omega)).trans e263), ((eA_sA_ne hI255.1 ka_233 (by first | decide | omega) (by first | decide | omega) (by first | decide | omega)).trans e264), (w_p1 (by decide) (Or.inr rfl) e265), (w_p1 (by decide) (Or.inr rfl) e266), (w_e1 _ _ _), by omega, (by intro i i0 i1; exact (Decidable.em (i = x253.toInt)).elim (fun k125_ => by refine (eA_eqT hI255.1 ka_233 k125_ (by first | decide | omega) (by first | decide | omega)).trans ?_; (first | (rfl) | (omega) | (refine (congrArg Int32.toInt hv299).symm.trans ?_; (first | (refine ((q269 ((x253.toInt + 6)) (by omega) (by omega))).trans ?_; (first | rfl | exact eA_ix (by omega) | omega)) | (refine ((q270 ((x253.toInt + 6)) (by omega) (by omega))).trans ?_; (first | rfl | exact eA_ix (by omega) | omega)))))) (fun k125_ => by refine (eA_neT hI255.1 ka_233 k125_ (by first | decide | omega) (by omega)).trans ?_; (first | (refine ((q269 (i) (by omega) (by omega))).trans ?_; (first | rfl | exact eA_ix (by omega) | omega)) | (refine ((q270 (i) (by omega) (by omega))).trans ?_; (first | rfl | exact eA_ix (by omega) | omega))))), (by intro i i0 i1; exact (Decidable.em (i = x253.toInt)).elim (fun k126_ => by refine (eA_eqT hI255.1 ka_233 k126_ (by first | decide | omega) (by first | decide | omega)).trans ?_; (first | (rfl) | (omega) | (refine (congrArg Int32.toInt hv299).symm.trans ?_; (first | (refine ((q269 ((x253.toInt + 6)) (by omega) (by omega))).trans ?_; (first | rfl | exact eA_ix (by omega) | omega)) | (refine ((q270 ((x253.toInt + 6)) (by omega) (by omega))).trans ?_; (first | rfl | exact eA_ix (by omega) | omega)))))) (fun k126_ => by refine (eA_neT hI255.1 ka_233 k126_ (by first | decide | omega) (by omega)).trans ?_; (first | (refine ((q269 (i) (by omega) (by omega))).trans ?_; (first | rfl | exact eA_ix (by omega) | omega)) | (refine ((q270 (i) (by omega) (by omega))).trans ?_; (first | rfl | exact eA_ix (by omega) | omega)))))⟩ ⟨by omega, by omega⟩

def F_X11_terms_231 : List (Nat × Nat) := [(231, 0), (231, 1)]
def A_X11_terms_231 : List Nat := [232, 233]
set_option maxRecDepth 100000 in
set_option maxHeartbeats 4000000 in
theorem T_X11_terms_231 (d : Nat) {N : Nat} {g0 : List en_E} (hI0 : HI g0) (a1 : Int32) (a2 : Int32) : Ev (d + 3) 181 [.ref 231, .int a1, .int a2] (g0, N) (fun w h' => ∃ g', h' = (g', N) ∧ HI g' ∧ Fr F_X11_terms_231 A_X11_terms_231 g0 g' ∧ ∃ r : Int32, w = some (.int r) ∧ ((-1) ≤ r.toInt ∧ r.toInt ≤ 99) ∧ (((((a1.toInt = 0 ∧ 0 ≤ a2.toInt ∧ a2.toInt ≤ 99) → r.toInt = (eA g0 233 5).toInt ∧ (eA g' 233 5).toInt = a2.toInt ∧ (eA g' 233 6).toInt = (eA g0 233 6).toInt) ∧ ((a1.toInt = 1 ∧ 1 ≤ a2.toInt ∧ a2.toInt ≤ 4) → r.toInt = (eA g0 233 6).toInt ∧ (eA g' 233 6).toInt = a2.toInt ∧ (eA g' 233 5).toInt = (eA g0 233 5).toInt) ∧ (¬ (a1.toInt = 0 ∧ 0 ≤ a2.toInt ∧ a2.toInt ≤ 99) ∧ ¬ (a1.toInt = 1 ∧ 1 ≤ a2.toInt ∧ a2.toInt ≤ 4) → r.toInt = -1 ∧ (eA g' 233 5).toInt = (eA g0 233 5).toInt ∧ (eA g' 233 6).toInt = (eA g0 233 6).toInt)) ∧ (eA g' 233 0).toInt = (eA g0 233 0).toInt ∧ (eA g' 233 4).toInt = (eA g0 233 4).toInt) ∧ (∀ i : Int, 10 ≤ i → i < 110 → (eA g' 233 (i)).toInt = (eA g0 233 (i)).toInt))) := by
  have hF0 : Fr F_X11_terms_231 A_X11_terms_231 g0 g0 := Fr.rf
  refine Ev.mk rfl rfl ⟨Nat.le_of_ble_eq_true rfl, Or.inr (q_rc hI0.1 kx_231 rfl)⟩ ?_
  show At _ none _ _ (0, [(0, .ref 231), (1, .int a1), (2, .int a2)], [], (_, _)) _
  refine At.enter rfl ?_
  refine r_aload_n rfl ?_
  refine r_iconst 0 rfl ?_
  refine q_putI (Sh.int hI0.1 kx_231 rfl) rfl ?_
  have hI115 := HI.wI0 hI0 kx_231 rfl (p := 231) (b := 0) (v := 0) rfl
  have hF116 := Fr.wI (p := 231) (b := 0) (v := 0) hF0 rfl
  refine r_iload_n rfl ?_
  refine r_ifs 9 rfl (fun c117 => ?_) (fun c117 => ?_)
  · have c117_ : a1.toInt ≠ 0 := en_k_ne_t c117
    refine At.enter rfl ?_
    refine r_iload_n rfl ?_
    refine r_iconst 1 rfl ?_
    refine r_ics 26 rfl (fun c118 => ?_) (fun c118 => ?_)
    · have c118_ : a1.toInt ≠ 1 := en_i_ne_t c118
      refine At.enter rfl ?_
      refine r_iconst 0 rfl ?_
      refine Ar.fall 43 rfl ?_
      refine At.enter rfl ?_
      refine r_istore_n ([(3, .int 0), (0, .ref 231), (1, .int a1), (2, .int a2)]) rfl ?_
      refine r_iload_n rfl ?_
      refine r_ift (by decide) ?_
      refine At.enter rfl ?_
      refine r_aload_n rfl ?_
      refine r_iconst (-1) rfl ?_
      refine r_callV 64 rfl [.ref 231, .int (-1)] [] (Nat.le_of_ble_eq_true rfl) rfl (T_X11_tell_231 _ hI115 (-1) (by decide)) ?_
      rintro _ _ ⟨g119, rfl, hI120, hF121, v122, rfl, hr123⟩
      refine At.sti ?_
      have hF124 := Fr.tr hF116 hF121 rfl rfl
      have zv125 : ((-1) : Int32).toInt = (-1) := rfl
      refine At.enter rfl ?_
      refine r_ireti ?_
      obtain ⟨v126, hv126⟩ : ∃ v, eA g0 233 5 = v := ⟨_, rfl⟩
      have wv126 := HI.t5 hI0
      rw [hv126] at wv126
      have tv126 := congrArg Int32.toInt hv126
      have x127 := HI.eqA hI120 (p := 233) (j := 5) ((((eA_c (hF121.2.1 233 (by decide))).trans (eA_c gA_sI)).trans hv126))
      obtain ⟨v128, hv128⟩ : ∃ v, eA g0 233 6 = v := ⟨_, rfl⟩
      have wv128 := HI.t6 hI0
      rw [hv128] at wv128
      have tv128 := congrArg Int32.toInt hv128
      have x129 := HI.eqA hI120 (p := 233) (j := 6) ((((eA_c (hF121.2.1 233 (by decide))).trans (eA_c gA_sI)).trans hv128))
      obtain ⟨v130, hv130⟩ : ∃ v, eA g0 233 0 = v := ⟨_, rfl⟩
      have tv130 := congrArg Int32.toInt hv130
      have wv130 := HI.t0 hI0
      rw [hv130] at wv130
      have tv130 := congrArg Int32.toInt hv130
      have x131 := HI.eqA hI120 (p := 233) (j := 0) ((((eA_c (hF121.2.1 233 (by decide))).trans (eA_c gA_sI)).trans hv130))
      obtain ⟨v132, hv132⟩ : ∃ v, eA g0 233 4 = v := ⟨_, rfl⟩
      have wv132 := HI.t4 hI0
      rw [hv132] at wv132
      have tv132 := congrArg Int32.toInt hv132
      have x133 := HI.eqA hI120 (p := 233) (j := 4) ((((eA_c (hF121.2.1 233 (by decide))).trans (eA_c gA_sI)).trans hv132))
      have x134 := HI.eqA hI0 (p := 233) (j := 5) (hv126)
      have x135 := HI.eqA hI0 (p := 233) (j := 6) (hv128)
      have x136 := HI.eqA hI0 (p := 233) (j := 0) (hv130)
      have x137 := HI.eqA hI0 (p := 233) (j := 4) (hv132)
      exact ⟨_, rfl, hI120, hF124, _, rfl, by omega, ⟨⟨by omega, by omega, by omega⟩, (by intro i i0 i1; refine (eA_ti (((hF121.2.1 233 (by decide)).trans (gA_sI)))).trans ?_; (first | rfl | exact eA_ix (by omega) | omega))⟩⟩
    · have c118_ : a1.toInt = 1 := en_i_ne_f c118
      refine At.enter rfl ?_
      refine r_iload_n rfl ?_
      refine q_i2l (fun v138 hv138 => ?_)
      refine r_lconst 1 rfl ?_
      refine r_ldc2 4 rfl ?_
      refine q_inlS 35 rfl [.long v138, .long 1, .long 4] [] (Nat.le_of_ble_eq_true rfl) rfl ?_
      refine Ev.mk rfl rfl ⟨Nat.le_of_ble_eq_true rfl, Or.inl rfl⟩ ?_
      show At _ none _ _ (0, [(0, .long v138), (2, .long 1), (4, .long 4)], [], (_, _)) _
      refine At.enter rfl ?_
      refine r_lload_n rfl ?_
      refine r_lload_n rfl ?_
      refine r_lcmp _ rfl ?_
      refine r_ifs 6 rfl (fun c139 => ?_) (fun c139 => ?_)
      · have c139_ : v138.toInt < 1 := en_j_lt_t c139
        refine At.enter rfl ?_
        refine r_iconst 0 rfl ?_
        refine Ar.fall 18 rfl ?_
        refine At.enter rfl ?_
        refine q_iretz (by decide) ?_
        refine At.enter rfl ?_
        refine r_ift (by decide) ?_
        refine At.enter rfl ?_
        refine r_iconst 0 rfl ?_
        refine Ar.fall 43 rfl ?_
        refine At.enter rfl ?_
        refine r_istore_n ([(3, .int 0), (0, .ref 231), (1, .int a1), (2, .int a2)]) rfl ?_
        refine r_iload_n rfl ?_
        refine r_ift (by decide) ?_
        refine At.enter rfl ?_
        refine r_aload_n rfl ?_
        refine r_iconst (-1) rfl ?_
        refine r_callV 64 rfl [.ref 231, .int (-1)] [] (Nat.le_of_ble_eq_true rfl) rfl (T_X11_tell_231 _ hI115 (-1) (by decide)) ?_
        rintro _ _ ⟨g140, rfl, hI141, hF142, v143, rfl, hr144⟩
        refine At.sti ?_
        have hF145 := Fr.tr hF116 hF142 rfl rfl
        have zv146 : ((-1) : Int32).toInt = (-1) := rfl
        refine At.enter rfl ?_
        refine r_ireti ?_
        obtain ⟨v147, hv147⟩ : ∃ v, eA g0 233 5 = v := ⟨_, rfl⟩
        have wv147 := HI.t5 hI0
        rw [hv147] at wv147
        have tv147 := congrArg Int32.toInt hv147
        have x148 := HI.eqA hI141 (p := 233) (j := 5) ((((eA_c (hF142.2.1 233 (by decide))).trans (eA_c gA_sI)).trans hv147))
        obtain ⟨v149, hv149⟩ : ∃ v, eA g0 233 6 = v := ⟨_, rfl⟩
        have wv149 := HI.t6 hI0
        rw [hv149] at wv149
        have tv149 := congrArg Int32.toInt hv149
        have x150 := HI.eqA hI141 (p := 233) (j := 6) ((((eA_c (hF142.2.1 233 (by decide))).trans (eA_c gA_sI)).trans hv149))
        obtain ⟨v151, hv151⟩ : ∃ v, eA g0 233 0 = v := ⟨_, rfl⟩
        have tv151 := congrArg Int32.toInt hv151
        have wv151 := HI.t0 hI0
        rw [hv151] at wv151
        have tv151 := congrArg Int32.toInt hv151
        have x152 := HI.eqA hI141 (p := 233) (j := 0) ((((eA_c (hF142.2.1 233 (by decide))).trans (eA_c gA_sI)).trans hv151))
        obtain ⟨v153, hv153⟩ : ∃ v, eA g0 233 4 = v := ⟨_, rfl⟩
        have wv153 := HI.t4 hI0
        rw [hv153] at wv153
        have tv153 := congrArg Int32.toInt hv153
        have x154 := HI.eqA hI141 (p := 233) (j := 4) ((((eA_c (hF142.2.1 233 (by decide))).trans (eA_c gA_sI)).trans hv153))
        have x155 := HI.eqA hI0 (p := 233) (j := 5) (hv147)
        have x156 := HI.eqA hI0 (p := 233) (j := 6) (hv149)
        have x157 := HI.eqA hI0 (p := 233) (j := 0) (hv151)
        have x158 := HI.eqA hI0 (p := 233) (j := 4) (hv153)
        exact ⟨_, rfl, hI141, hF145, _, rfl, by omega, ⟨⟨by omega, by omega, by omega⟩, (by intro i i0 i1; refine (eA_ti (((hF142.2.1 233 (by decide)).trans (gA_sI)))).trans ?_; (first | rfl | exact eA_ix (by omega) | omega))⟩⟩
      · have c139_ : v138.toInt ≥ 1 := en_j_lt_f c139
        refine At.enter rfl ?_
        refine r_lload_n rfl ?_
        refine r_lload rfl ?_
        refine r_lcmp _ rfl ?_
        refine r_ifs 13 rfl (fun c159 => ?_) (fun c159 => ?_)
        · have c159_ : v138.toInt > 4 := en_j_gt_t c159
          refine At.enter rfl ?_
          refine r_iconst 0 rfl ?_
          refine Ar.fall 18 rfl ?_
          refine At.enter rfl ?_
          refine q_iretz (by decide) ?_
          refine At.enter rfl ?_
          refine r_ift (by decide) ?_
          refine At.enter rfl ?_
          refine r_iconst 0 rfl ?_
          refine Ar.fall 43 rfl ?_
          refine At.enter rfl ?_
          refine r_istore_n ([(3, .int 0), (0, .ref 231), (1, .int a1), (2, .int a2)]) rfl ?_
          refine r_iload_n rfl ?_
          refine r_ift (by decide) ?_
          refine At.enter rfl ?_
          refine r_aload_n rfl ?_
          refine r_iconst (-1) rfl ?_
          refine r_callV 64 rfl [.ref 231, .int (-1)] [] (Nat.le_of_ble_eq_true rfl) rfl (T_X11_tell_231 _ hI115 (-1) (by decide)) ?_
          rintro _ _ ⟨g160, rfl, hI161, hF162, v163, rfl, hr164⟩
          refine At.sti ?_
          have hF165 := Fr.tr hF116 hF162 rfl rfl
          have zv166 : ((-1) : Int32).toInt = (-1) := rfl
          refine At.enter rfl ?_
          refine r_ireti ?_
          obtain ⟨v167, hv167⟩ : ∃ v, eA g0 233 5 = v := ⟨_, rfl⟩
          have wv167 := HI.t5 hI0
          rw [hv167] at wv167
          have tv167 := congrArg Int32.toInt hv167
          have x168 := HI.eqA hI161 (p := 233) (j := 5) ((((eA_c (hF162.2.1 233 (by decide))).trans (eA_c gA_sI)).trans hv167))
          obtain ⟨v169, hv169⟩ : ∃ v, eA g0 233 6 = v := ⟨_, rfl⟩
          have wv169 := HI.t6 hI0
          rw [hv169] at wv169
          have tv169 := congrArg Int32.toInt hv169
          have x170 := HI.eqA hI161 (p := 233) (j := 6) ((((eA_c (hF162.2.1 233 (by decide))).trans (eA_c gA_sI)).trans hv169))
          obtain ⟨v171, hv171⟩ : ∃ v, eA g0 233 0 = v := ⟨_, rfl⟩
          have tv171 := congrArg Int32.toInt hv171
          have wv171 := HI.t0 hI0
          rw [hv171] at wv171
          have tv171 := congrArg Int32.toInt hv171
          have x172 := HI.eqA hI161 (p := 233) (j := 0) ((((eA_c (hF162.2.1 233 (by decide))).trans (eA_c gA_sI)).trans hv171))
          obtain ⟨v173, hv173⟩ : ∃ v, eA g0 233 4 = v := ⟨_, rfl⟩
          have wv173 := HI.t4 hI0
          rw [hv173] at wv173
          have tv173 := congrArg Int32.toInt hv173
          have x174 := HI.eqA hI161 (p := 233) (j := 4) ((((eA_c (hF162.2.1 233 (by decide))).trans (eA_c gA_sI)).trans hv173))
          have x175 := HI.eqA hI0 (p := 233) (j := 5) (hv167)
          have x176 := HI.eqA hI0 (p := 233) (j := 6) (hv169)
          have x177 := HI.eqA hI0 (p := 233) (j := 0) (hv171)
          have x178 := HI.eqA hI0 (p := 233) (j := 4) (hv173)
          exact ⟨_, rfl, hI161, hF165, _, rfl, by omega, ⟨⟨by omega, by omega, by omega⟩, (by intro i i0 i1; refine (eA_ti (((hF162.2.1 233 (by decide)).trans (gA_sI)))).trans ?_; (first | rfl | exact eA_ix (by omega) | omega))⟩⟩
        · have c159_ : v138.toInt ≤ 4 := en_j_gt_f c159
          refine At.enter rfl ?_
          refine r_iconst 1 rfl ?_
          refine r_goto ?_
          refine At.enter rfl ?_
          refine q_iretz (by decide) ?_
          refine At.enter rfl ?_
          refine r_iff 38 rfl (by decide) ?_
          refine At.enter rfl ?_
          refine r_iconst 1 rfl ?_
          refine r_goto ?_
          refine At.enter rfl ?_
          refine r_istore_n ([(3, .int 1), (0, .ref 231), (1, .int a1), (2, .int a2)]) rfl ?_
          refine r_iload_n rfl ?_
          refine r_iff 48 rfl (by decide) ?_
          refine At.enter rfl ?_
          refine r_aload_n rfl ?_
          refine r_iconst 5 rfl ?_
          refine r_iload_n rfl ?_
          refine q_iadd (5 + a1.toInt) rfl (by omega) (fun v179 hv179 => ?_)
          refine r_iload_n rfl ?_
          refine q_inlV 56 rfl [.ref 231, .int v179, .int a2] [] (Nat.le_of_ble_eq_true rfl) rfl ?_
          refine Ev.mk rfl rfl ⟨Nat.le_of_ble_eq_true rfl, Or.inr (q_rc hI115.1 kx_231 rfl)⟩ ?_
          show At _ none _ _ (0, [(0, .ref 231), (1, .int v179), (2, .int a2)], [], (_, _)) _
          refine At.enter rfl ?_
          refine r_aload_n rfl ?_
          refine q_getR (Sh.ref hI115.1 kx_231 rfl) ?_
          refine r_iload_n rfl ?_
          obtain ⟨v180, hv180⟩ : ∃ v, eA g0 233 (a1.toInt + 5) = v := ⟨_, rfl⟩
          have wv180 : 1 ≤ v180.toInt ∧ v180.toInt ≤ 4 := by have z := HI.t6 hI0; rw [← hv180, show (a1.toInt + 5) = 6 by omega]; exact z
          refine q_iald (Sh.arr hI115.1 ka_233) (a1.toInt + 5) (by omega) (by omega) v180 ((eA_c (gA_sI)).trans hv180) ?_
          refine r_istore_n ([(3, .int v180), (0, .ref 231), (1, .int v179), (2, .int a2)]) rfl ?_
          refine r_aload_n rfl ?_
          refine q_getR (Sh.ref hI115.1 kx_231 rfl) ?_
          refine r_iload_n rfl ?_
          refine r_iload_n rfl ?_
          refine q_iast (Sh.arr hI115.1 ka_233) ((a1.toInt + 5)) (by omega) (by omega) ?_
          have hI181 := HI.wt hI115 (j := (a1.toInt + 5)) (v := a2) (by omega) (by omega)
          have hF182 := Fr.wA (p := 233) (j := (a1.toInt + 5)) (v := a2) hF116 rfl
          refine r_aload_n rfl ?_
          refine r_iload_n rfl ?_
          refine q_inlV 19 rfl [.ref 231, .int v180] [] (Nat.le_of_ble_eq_true rfl) rfl ?_
          refine Ev.mk rfl rfl ⟨Nat.le_of_ble_eq_true rfl, Or.inr (q_rc hI181.1 kx_231 rfl)⟩ ?_
          show At _ none _ _ (0, [(0, .ref 231), (1, .int v180)], [], (_, _)) _
          refine At.enter rfl ?_
          refine r_aload_n rfl ?_
          refine r_iconst 0 rfl ?_
          refine q_putI (Sh.int hI181.1 kx_231 rfl) rfl ?_
          have hI183 := HI.wI0 hI181 kx_231 rfl (p := 231) (b := 1) (v := 0) rfl
          have hF184 := Fr.wI (p := 231) (b := 1) (v := 0) hF182 rfl
          refine r_iload_n rfl ?_
          refine q_ireti ?_
          refine At.enter rfl ?_
          refine q_ireti ?_
          refine At.enter rfl ?_
          refine r_goto ?_
          refine At.enter rfl ?_
          refine r_ireti ?_
          obtain ⟨v185, hv185⟩ : ∃ v, eA g0 233 5 = v := ⟨_, rfl⟩
          have wv185 := HI.t5 hI0
          rw [hv185] at wv185
          have tv185 := congrArg Int32.toInt hv185
          have x186 := HI.eqA hI183 (p := 233) (j := 5) ((((eA_c gA_sI).trans ((eA_sA_ne hI115.1 ka_233 (by first | decide | omega) (by first | decide | omega) (by first | decide | omega)).trans (eA_c gA_sI))).trans hv185))
          have x187 := HI.eqA hI183 (p := 233) (j := 6) (((eA_c gA_sI).trans (eA_sA_eq hI115.1 ka_233 (by omega) (by first | decide | omega) (by first | decide | omega))))
          obtain ⟨v188, hv188⟩ : ∃ v, eA g0 233 0 = v := ⟨_, rfl⟩
          have tv188 := congrArg Int32.toInt hv188
          have wv188 := HI.t0 hI0
          rw [hv188] at wv188
          have tv188 := congrArg Int32.toInt hv188
          have x189 := HI.eqA hI183 (p := 233) (j := 0) ((((eA_c gA_sI).trans ((eA_sA_ne hI115.1 ka_233 (by first | decide | omega) (by first | decide | omega) (by first | decide | omega)).trans (eA_c gA_sI))).trans hv188))
          obtain ⟨v190, hv190⟩ : ∃ v, eA g0 233 4 = v := ⟨_, rfl⟩
          have wv190 := HI.t4 hI0
          rw [hv190] at wv190
          have tv190 := congrArg Int32.toInt hv190
          have x191 := HI.eqA hI183 (p := 233) (j := 4) ((((eA_c gA_sI).trans ((eA_sA_ne hI115.1 ka_233 (by first | decide | omega) (by first | decide | omega) (by first | decide | omega)).trans (eA_c gA_sI))).trans hv190))
          have x192 := HI.eqA hI0 (p := 233) (j := 5) (hv185)
          obtain ⟨v193, hv193⟩ : ∃ v, eA g0 233 6 = v := ⟨_, rfl⟩
          have wv193 := HI.t6 hI0
          rw [hv193] at wv193
          have tv193 := congrArg Int32.toInt hv193
          have x194 := HI.eqA hI0 (p := 233) (j := 6) (hv193)
          have y195 : (eA g0 233 6).toInt = v180.toInt := by rw [← hv180, show (a1.toInt + 5) = 6 by omega]
          have x196 := HI.eqA hI0 (p := 233) (j := 0) (hv188)
          have x197 := HI.eqA hI0 (p := 233) (j := 4) (hv190)
          exact ⟨_, rfl, hI183, hF184, _, rfl, by omega, ⟨⟨by omega, by omega, by omega⟩, (by intro i i0 i1; refine (eA_ti ((gA_sI))).trans ?_; exact (Decidable.em (i = (a1.toInt + 5))).elim (fun k127_ => by refine (eA_eqT hI115.1 ka_233 k127_ (by first | decide | omega) (by first | decide | omega)).trans ?_; (first | (rfl) | (omega))) (fun k127_ => by refine (eA_neT hI115.1 ka_233 k127_ (by first | decide | omega) (by omega)).trans ?_; refine (eA_ti ((gA_sI))).trans ?_; (first | rfl | exact eA_ix (by omega) | omega)))⟩⟩
  · have c117_ : a1.toInt = 0 := en_k_ne_f c117
    refine At.enter rfl ?_
    refine r_iload_n rfl ?_
    refine q_i2l (fun v198 hv198 => ?_)
    refine r_lconst 0 rfl ?_
    refine r_ldc2 99 rfl ?_
    refine q_inlS 18 rfl [.long v198, .long 0, .long 99] [] (Nat.le_of_ble_eq_true rfl) rfl ?_
    refine Ev.mk rfl rfl ⟨Nat.le_of_ble_eq_true rfl, Or.inl rfl⟩ ?_
    show At _ none _ _ (0, [(0, .long v198), (2, .long 0), (4, .long 99)], [], (_, _)) _
    refine At.enter rfl ?_
    refine r_lload_n rfl ?_
    refine r_lload_n rfl ?_
    refine r_lcmp _ rfl ?_
    refine r_ifs 6 rfl (fun c199 => ?_) (fun c199 => ?_)
    · have c199_ : v198.toInt < 0 := en_j_lt_t c199
      refine At.enter rfl ?_
      refine r_iconst 0 rfl ?_
      refine Ar.fall 18 rfl ?_
      refine At.enter rfl ?_
      refine q_iretz (by decide) ?_
      refine At.enter rfl ?_
      refine r_goto ?_
      refine At.enter rfl ?_
      refine r_istore_n ([(3, .int 0), (0, .ref 231), (1, .int a1), (2, .int a2)]) rfl ?_
      refine r_iload_n rfl ?_
      refine r_ift (by decide) ?_
      refine At.enter rfl ?_
      refine r_aload_n rfl ?_
      refine r_iconst (-1) rfl ?_
      refine r_callV 64 rfl [.ref 231, .int (-1)] [] (Nat.le_of_ble_eq_true rfl) rfl (T_X11_tell_231 _ hI115 (-1) (by decide)) ?_
      rintro _ _ ⟨g200, rfl, hI201, hF202, v203, rfl, hr204⟩
      refine At.sti ?_
      have hF205 := Fr.tr hF116 hF202 rfl rfl
      have zv206 : ((-1) : Int32).toInt = (-1) := rfl
      refine At.enter rfl ?_
      refine r_ireti ?_
      obtain ⟨v207, hv207⟩ : ∃ v, eA g0 233 5 = v := ⟨_, rfl⟩
      have wv207 := HI.t5 hI0
      rw [hv207] at wv207
      have tv207 := congrArg Int32.toInt hv207
      have x208 := HI.eqA hI201 (p := 233) (j := 5) ((((eA_c (hF202.2.1 233 (by decide))).trans (eA_c gA_sI)).trans hv207))
      obtain ⟨v209, hv209⟩ : ∃ v, eA g0 233 6 = v := ⟨_, rfl⟩
      have wv209 := HI.t6 hI0
      rw [hv209] at wv209
      have tv209 := congrArg Int32.toInt hv209
      have x210 := HI.eqA hI201 (p := 233) (j := 6) ((((eA_c (hF202.2.1 233 (by decide))).trans (eA_c gA_sI)).trans hv209))
      obtain ⟨v211, hv211⟩ : ∃ v, eA g0 233 0 = v := ⟨_, rfl⟩
      have tv211 := congrArg Int32.toInt hv211
      have wv211 := HI.t0 hI0
      rw [hv211] at wv211
      have tv211 := congrArg Int32.toInt hv211
      have x212 := HI.eqA hI201 (p := 233) (j := 0) ((((eA_c (hF202.2.1 233 (by decide))).trans (eA_c gA_sI)).trans hv211))
      obtain ⟨v213, hv213⟩ : ∃ v, eA g0 233 4 = v := ⟨_, rfl⟩
      have wv213 := HI.t4 hI0
      rw [hv213] at wv213
      have tv213 := congrArg Int32.toInt hv213
      have x214 := HI.eqA hI201 (p := 233) (j := 4) ((((eA_c (hF202.2.1 233 (by decide))).trans (eA_c gA_sI)).trans hv213))
      have x215 := HI.eqA hI0 (p := 233) (j := 5) (hv207)
      have x216 := HI.eqA hI0 (p := 233) (j := 6) (hv209)
      have x217 := HI.eqA hI0 (p := 233) (j := 0) (hv211)
      have x218 := HI.eqA hI0 (p := 233) (j := 4) (hv213)
      exact ⟨_, rfl, hI201, hF205, _, rfl, by omega, ⟨⟨by omega, by omega, by omega⟩, (by intro i i0 i1; refine (eA_ti (((hF202.2.1 233 (by decide)).trans (gA_sI)))).trans ?_; (first | rfl | exact eA_ix (by omega) | omega))⟩⟩
    · have c199_ : v198.toInt ≥ 0 := en_j_lt_f c199
      refine At.enter rfl ?_
      refine r_lload_n rfl ?_
      refine r_lload rfl ?_
      refine r_lcmp _ rfl ?_
      refine r_ifs 13 rfl (fun c219 => ?_) (fun c219 => ?_)
      · have c219_ : v198.toInt > 99 := en_j_gt_t c219
        refine At.enter rfl ?_
        refine r_iconst 0 rfl ?_
        refine Ar.fall 18 rfl ?_
        refine At.enter rfl ?_
        refine q_iretz (by decide) ?_
        refine At.enter rfl ?_
        refine r_goto ?_
        refine At.enter rfl ?_
        refine r_istore_n ([(3, .int 0), (0, .ref 231), (1, .int a1), (2, .int a2)]) rfl ?_
        refine r_iload_n rfl ?_
        refine r_ift (by decide) ?_
        refine At.enter rfl ?_
        refine r_aload_n rfl ?_
        refine r_iconst (-1) rfl ?_
        refine r_callV 64 rfl [.ref 231, .int (-1)] [] (Nat.le_of_ble_eq_true rfl) rfl (T_X11_tell_231 _ hI115 (-1) (by decide)) ?_
        rintro _ _ ⟨g220, rfl, hI221, hF222, v223, rfl, hr224⟩
        refine At.sti ?_
        have hF225 := Fr.tr hF116 hF222 rfl rfl
        have zv226 : ((-1) : Int32).toInt = (-1) := rfl
        refine At.enter rfl ?_
        refine r_ireti ?_
        obtain ⟨v227, hv227⟩ : ∃ v, eA g0 233 5 = v := ⟨_, rfl⟩
        have wv227 := HI.t5 hI0
        rw [hv227] at wv227
        have tv227 := congrArg Int32.toInt hv227
        have x228 := HI.eqA hI221 (p := 233) (j := 5) ((((eA_c (hF222.2.1 233 (by decide))).trans (eA_c gA_sI)).trans hv227))
        obtain ⟨v229, hv229⟩ : ∃ v, eA g0 233 6 = v := ⟨_, rfl⟩
        have wv229 := HI.t6 hI0
        rw [hv229] at wv229
        have tv229 := congrArg Int32.toInt hv229
        have x230 := HI.eqA hI221 (p := 233) (j := 6) ((((eA_c (hF222.2.1 233 (by decide))).trans (eA_c gA_sI)).trans hv229))
        obtain ⟨v231, hv231⟩ : ∃ v, eA g0 233 0 = v := ⟨_, rfl⟩
        have tv231 := congrArg Int32.toInt hv231
        have wv231 := HI.t0 hI0
        rw [hv231] at wv231
        have tv231 := congrArg Int32.toInt hv231
        have x232 := HI.eqA hI221 (p := 233) (j := 0) ((((eA_c (hF222.2.1 233 (by decide))).trans (eA_c gA_sI)).trans hv231))
        obtain ⟨v233, hv233⟩ : ∃ v, eA g0 233 4 = v := ⟨_, rfl⟩
        have wv233 := HI.t4 hI0
        rw [hv233] at wv233
        have tv233 := congrArg Int32.toInt hv233
        have x234 := HI.eqA hI221 (p := 233) (j := 4) ((((eA_c (hF222.2.1 233 (by decide))).trans (eA_c gA_sI)).trans hv233))
        have x235 := HI.eqA hI0 (p := 233) (j := 5) (hv227)
        have x236 := HI.eqA hI0 (p := 233) (j := 6) (hv229)
        have x237 := HI.eqA hI0 (p := 233) (j := 0) (hv231)
        have x238 := HI.eqA hI0 (p := 233) (j := 4) (hv233)
        exact ⟨_, rfl, hI221, hF225, _, rfl, by omega, ⟨⟨by omega, by omega, by omega⟩, (by intro i i0 i1; refine (eA_ti (((hF222.2.1 233 (by decide)).trans (gA_sI)))).trans ?_; (first | rfl | exact eA_ix (by omega) | omega))⟩⟩
      · have c219_ : v198.toInt ≤ 99 := en_j_gt_f c219
        refine At.enter rfl ?_
        refine r_iconst 1 rfl ?_
        refine r_goto ?_
        refine At.enter rfl ?_
        refine q_iretz (by decide) ?_
        refine At.enter rfl ?_
        refine r_goto ?_
        refine At.enter rfl ?_
        refine r_istore_n ([(3, .int 1), (0, .ref 231), (1, .int a1), (2, .int a2)]) rfl ?_
        refine r_iload_n rfl ?_
        refine r_iff 48 rfl (by decide) ?_
        refine At.enter rfl ?_
        refine r_aload_n rfl ?_
        refine r_iconst 5 rfl ?_
        refine r_iload_n rfl ?_
        refine q_iadd (5 + a1.toInt) rfl (by omega) (fun v239 hv239 => ?_)
        refine r_iload_n rfl ?_
        refine q_inlV 56 rfl [.ref 231, .int v239, .int a2] [] (Nat.le_of_ble_eq_true rfl) rfl ?_
        refine Ev.mk rfl rfl ⟨Nat.le_of_ble_eq_true rfl, Or.inr (q_rc hI115.1 kx_231 rfl)⟩ ?_
        show At _ none _ _ (0, [(0, .ref 231), (1, .int v239), (2, .int a2)], [], (_, _)) _
        refine At.enter rfl ?_
        refine r_aload_n rfl ?_
        refine q_getR (Sh.ref hI115.1 kx_231 rfl) ?_
        refine r_iload_n rfl ?_
        obtain ⟨v240, hv240⟩ : ∃ v, eA g0 233 (a1.toInt + 5) = v := ⟨_, rfl⟩
        have wv240 : 0 ≤ v240.toInt ∧ v240.toInt ≤ 99 := by have z := HI.t5 hI0; rw [← hv240, show (a1.toInt + 5) = 5 by omega]; exact z
        refine q_iald (Sh.arr hI115.1 ka_233) (a1.toInt + 5) (by omega) (by omega) v240 ((eA_c (gA_sI)).trans hv240) ?_
        refine r_istore_n ([(3, .int v240), (0, .ref 231), (1, .int v239), (2, .int a2)]) rfl ?_
        refine r_aload_n rfl ?_
        refine q_getR (Sh.ref hI115.1 kx_231 rfl) ?_
        refine r_iload_n rfl ?_
        refine r_iload_n rfl ?_
        refine q_iast (Sh.arr hI115.1 ka_233) ((a1.toInt + 5)) (by omega) (by omega) ?_
        have hI241 := HI.wt hI115 (j := (a1.toInt + 5)) (v := a2) (by omega) (by omega)
        have hF242 := Fr.wA (p := 233) (j := (a1.toInt + 5)) (v := a2) hF116 rfl
        refine r_aload_n rfl ?_
        refine r_iload_n rfl ?_
        refine q_inlV 19 rfl [.ref 231, .int v240] [] (Nat.le_of_ble_eq_true rfl) rfl ?_
        refine Ev.mk rfl rfl ⟨Nat.le_of_ble_eq_true rfl, Or.inr (q_rc hI241.1 kx_231 rfl)⟩ ?_
        show At _ none _ _ (0, [(0, .ref 231), (1, .int v240)], [], (_, _)) _
        refine At.enter rfl ?_
        refine r_aload_n rfl ?_
        refine r_iconst 0 rfl ?_
        refine q_putI (Sh.int hI241.1 kx_231 rfl) rfl ?_
        have hI243 := HI.wI0 hI241 kx_231 rfl (p := 231) (b := 1) (v := 0) rfl
        have hF244 := Fr.wI (p := 231) (b := 1) (v := 0) hF242 rfl
        refine r_iload_n rfl ?_
        refine q_ireti ?_
        refine At.enter rfl ?_
        refine q_ireti ?_
        refine At.enter rfl ?_
        refine r_goto ?_
        refine At.enter rfl ?_
        refine r_ireti ?_
        have x245 := HI.eqA hI243 (p := 233) (j := 5) (((eA_c gA_sI).trans (eA_sA_eq hI115.1 ka_233 (by omega) (by first | decide | omega) (by first | decide | omega))))
        obtain ⟨v246, hv246⟩ : ∃ v, eA g0 233 6 = v := ⟨_, rfl⟩
        have wv246 := HI.t6 hI0
        rw [hv246] at wv246
        have tv246 := congrArg Int32.toInt hv246
        have x247 := HI.eqA hI243 (p := 233) (j := 6) ((((eA_c gA_sI).trans ((eA_sA_ne hI115.1 ka_233 (by first | decide | omega) (by first | decide | omega) (by first | decide | omega)).trans (eA_c gA_sI))).trans hv246))
        obtain ⟨v248, hv248⟩ : ∃ v, eA g0 233 0 = v := ⟨_, rfl⟩
        have tv248 := congrArg Int32.toInt hv248
        have wv248 := HI.t0 hI0
        rw [hv248] at wv248
        have tv248 := congrArg Int32.toInt hv248
        have x249 := HI.eqA hI243 (p := 233) (j := 0) ((((eA_c gA_sI).trans ((eA_sA_ne hI115.1 ka_233 (by first | decide | omega) (by first | decide | omega) (by first | decide | omega)).trans (eA_c gA_sI))).trans hv248))
        obtain ⟨v250, hv250⟩ : ∃ v, eA g0 233 4 = v := ⟨_, rfl⟩
        have wv250 := HI.t4 hI0
        rw [hv250] at wv250
        have tv250 := congrArg Int32.toInt hv250
        have x251 := HI.eqA hI243 (p := 233) (j := 4) ((((eA_c gA_sI).trans ((eA_sA_ne hI115.1 ka_233 (by first | decide | omega) (by first | decide | omega) (by first | decide | omega)).trans (eA_c gA_sI))).trans hv250))
        obtain ⟨v252, hv252⟩ : ∃ v, eA g0 233 5 = v := ⟨_, rfl⟩
        have wv252 := HI.t5 hI0
        rw [hv252] at wv252
        have tv252 := congrArg Int32.toInt hv252
        have x253 := HI.eqA hI0 (p := 233) (j := 5) (hv252)
        have y254 : (eA g0 233 5).toInt = v240.toInt := by rw [← hv240, show (a1.toInt + 5) = 5 by omega]
        have x255 := HI.eqA hI0 (p := 233) (j := 6) (hv246)
        have x256 := HI.eqA hI0 (p := 233) (j := 0) (hv248)
        have x257 := HI.eqA hI0 (p := 233) (j := 4) (hv250)
        exact ⟨_, rfl, hI243, hF244, _, rfl, by omega, ⟨⟨by omega, by omega, by omega⟩, (by intro i i0 i1; refine (eA_ti ((gA_sI))).trans ?_; exact (Decidable.em (i = (a1.toInt + 5))).elim (fun k128_ => by refine (eA_eqT hI115.1 ka_233 k128_ (by first | decide | omega) (by first | decide | omega)).trans ?_; (first | (rfl) | (omega))) (fun k128_ => by refine (eA_neT hI115.1 ka_233 k128_ (by first | decide | omega) (by omega)).trans ?_; refine (eA_ti ((gA_sI))).trans ?_; (first | rfl | exact eA_ix (by omega) | omega)))⟩⟩

def F_X11_four_231 : List (Nat × Nat) := [(231, 8)]
def A_X11_four_231 : List Nat := [236]
set_option maxRecDepth 100000 in
set_option maxHeartbeats 4000000 in
theorem T_X11_four_231 (d : Nat) {N : Nat} {g0 : List en_E} (hI0 : HI g0) (a1 : Int32) (h4 : (gI g0 231 8).toInt ≤ 396) : Ev (d + 1) 184 [.ref 231, .int a1] (g0, N) (fun w h' => ∃ g', h' = (g', N) ∧ HI g' ∧ Fr F_X11_four_231 A_X11_four_231 g0 g' ∧ w = none ∧ ((gI g' 231 8).toInt = (gI g0 231 8).toInt + 4)) := by
  have hF0 : Fr F_X11_four_231 A_X11_four_231 g0 g0 := Fr.rf
  refine Ev.mk rfl rfl ⟨Nat.le_of_ble_eq_true rfl, Or.inr (q_rc hI0.1 kx_231 rfl)⟩ ?_
  show At _ none _ _ (0, [(0, .ref 231), (1, .int a1)], [], (_, _)) _
  refine At.enter rfl ?_
  refine r_bipush 24 rfl ?_
  refine r_istore_n ([(2, .int 24), (0, .ref 231), (1, .int a1)]) rfl ?_
  refine Ar.fall 3 rfl ?_
  obtain ⟨v271, hv271⟩ : ∃ v, gI g0 231 8 = v := ⟨_, rfl⟩
  have rv271 := RgF.at hI0.2.1 (p := 231) (b := 8) rfl
  rw [hv271] at rv271
  dsimp only at rv271
  have tv271 := congrArg Int32.toInt hv271
  have z_395 : (24 : Int32).toInt = 24 := rfl
  refine w_loopI (fun n_ l_ g_ => ∃ x380 : Int32, ∃ x381 : Int32, n_ = x380.toInt + 8 ∧ HI g_ ∧ Fr F_X11_four_231 A_X11_four_231 g0 g_ ∧ gI g_ 231 8 = x381 ∧ en_get 0 l_ = some (.ref 231) ∧ en_get 1 l_ = some (.int a1) ∧ en_get 2 l_ = some (.int x380) ∧ ((-8) ≤ x380.toInt ∧ x380.toInt ≤ 24) ∧ (0 ≤ x381.toInt ∧ x381.toInt ≤ 400) ∧ (8 * x381.toInt + x380.toInt = 8 * (gI g0 231 8).toInt + 24)) ?_ (24 + 8) ⟨24, v271, by first | rfl | omega, hI0, hF0, hv271, rfl, rfl, rfl, by decide, by omega, by omega⟩
  rintro n386 l385 g382 ⟨x380, x381, hm396, hI383, hF384, e388, e389, e390, e391, r392, r393, q394⟩ ih387
  refine At.enter rfl ?_
  refine r_iload_n e391 ?_
  refine r_ifs 7 rfl (fun c397 => ?_) (fun c397 => ?_)
  · have c397_ : x380.toInt < 0 := en_k_lt_t c397
    refine At.enter rfl ?_
    refine r_vret ?_
    exact ⟨_, rfl, hI383, hF384, rfl, (by rw [e388]; omega)⟩
  · have c397_ : x380.toInt ≥ 0 := en_k_lt_f c397
    refine At.enter rfl ?_
    refine r_aload_n e389 ?_
    refine q_getR (Sh.ref hI383.1 kx_231 rfl) ?_
    refine r_aload_n e389 ?_
    refine q_getI (Sh.int hI383.1 kx_231 rfl) x381 e388 ?_
    refine r_iload_n e390 ?_
    refine r_iload_n e391 ?_
    refine q_ishrO (fun v398 hv398 => ?_)
    refine r_sipush 255 rfl ?_
    refine q_iandO (fun v399 hv399 => ?_)
    refine q_iast (Sh.arr hI383.1 ka_236) (x381.toInt) rfl (by omega) ?_
    have hI400 := HI.wA0 hI383 ka_236 (p := 236) rfl rfl (x381.toInt) (v399)
    have hF401 := Fr.wA (p := 236) (j := x381.toInt) (v := v399) hF384 rfl
    refine r_aload_n e389 ?_
    refine r_dup rfl ?_
    refine q_getI (Sh.int hI400.1 kx_231 rfl) x381 ((gI_sW).trans e388) ?_
    refine r_iconst 1 rfl ?_
    refine q_iadd (x381.toInt + 1) rfl (by omega) (fun v402 hv402 => ?_)
    refine q_putI (Sh.int hI400.1 kx_231 rfl) rfl ?_
    have hI403 := HI.wI1 hI400 kx_231 rfl (p := 231) (b := 8) (v := v402) rfl (by dsimp only; omega)
    have hF404 := Fr.wI (p := 231) (b := 8) (v := v402) hF401 rfl
    refine q_iinc e391 (x380.toInt + (-8)) rfl (by omega) (fun v405 hv405 => ?_)
    refine r_goto ?_
    exact ih387 (v405.toInt + 8) _ _ ⟨v405, v402, by first | rfl | omega, hI403, hF404, (gI_sI_eq hI400.1 kx_231 rfl _), (w_p1 (by decide) (Or.inr rfl) e389), (w_p1 (by decide) (Or.inr rfl) e390), (w_e1 _ _ _), by omega, by omega, by omega⟩ ⟨by omega, by omega⟩

def F_X11_feed_231 : List (Nat × Nat) := [(231, 0), (231, 8)]
def A_X11_feed_231 : List Nat := [236]
set_option maxRecDepth 100000 in
set_option maxHeartbeats 4000000 in
theorem T_X11_feed_231 (d : Nat) {N : Nat} {g0 : List en_E} (hI0 : HI g0) (a1 : Int32) (a2 : Int32) (a3 : Int32) (a4 : Int32) (a5 : Int32) : Ev (d + 2) 185 [.ref 231, .int a1, .int a2, .int a3, .int a4, .int a5] (g0, N) (fun w h' => ∃ g', h' = (g', N) ∧ HI g' ∧ Fr F_X11_feed_231 A_X11_feed_231 g0 g' ∧ ∃ r : Int32, w = some (.int r) ∧ ((-1) ≤ r.toInt ∧ r.toInt ≤ 400) ∧ ((380 < (gI g0 231 8).toInt → r.toInt = -1 ∧ (gI g' 231 8).toInt = (gI g0 231 8).toInt) ∧ ((gI g0 231 8).toInt ≤ 380 → r.toInt = (gI g0 231 8).toInt + 20 ∧ (gI g' 231 8).toInt = (gI g0 231 8).toInt + 20))) := by
  have hF0 : Fr F_X11_feed_231 A_X11_feed_231 g0 g0 := Fr.rf
  refine Ev.mk rfl rfl ⟨Nat.le_of_ble_eq_true rfl, Or.inr (q_rc hI0.1 kx_231 rfl)⟩ ?_
  show At _ none _ _ (0, [(0, .ref 231), (1, .int a1), (2, .int a2), (3, .int a3), (4, .int a4), (5, .int a5)], [], (_, _)) _
  refine At.enter rfl ?_
  refine r_aload_n rfl ?_
  refine r_iconst 0 rfl ?_
  refine q_putI (Sh.int hI0.1 kx_231 rfl) rfl ?_
  have hI81 := HI.wI0 hI0 kx_231 rfl (p := 231) (b := 0) (v := 0) rfl
  have hF82 := Fr.wI (p := 231) (b := 0) (v := 0) hF0 rfl
  refine r_aload_n rfl ?_
  obtain ⟨v83, hv83⟩ : ∃ v, gI g0 231 8 = v := ⟨_, rfl⟩
  have rv83 := RgF.at hI0.2.1 (p := 231) (b := 8) rfl
  rw [hv83] at rv83
  dsimp only at rv83
  refine q_getI (Sh.int hI81.1 kx_231 rfl) v83 ((gI_sI_ne (by decide)).trans hv83) ?_
  refine r_bipush 20 rfl ?_
  refine q_iadd (v83.toInt + 20) rfl (by omega) (fun v84 hv84 => ?_)
  refine r_sipush 400 rfl ?_
  refine r_ics 18 rfl (fun c85 => ?_) (fun c85 => ?_)
  · have c85_ : v84.toInt ≤ 400 := en_i_le_t c85
    refine At.enter rfl ?_
    refine r_aload_n rfl ?_
    refine r_iload_n rfl ?_
    refine r_callV 25 rfl [.ref 231, .int a1] [] (Nat.le_of_ble_eq_true rfl) rfl (T_X11_four_231 _ hI81 a1 (by rw [((gI_sI_ne (by decide)).trans hv83)]; omega)) ?_
    rintro _ _ ⟨g86, rfl, hI87, hF88, rfl, hr90⟩
    refine At.stn ?_
    have hF91 := Fr.tr hF82 hF88 rfl rfl
    rw [((gI_sI_ne (by decide)).trans hv83)] at hr90
    obtain ⟨v92, hv92⟩ : ∃ v, gI g86 231 8 = v := ⟨_, rfl⟩
    rw [hv92] at hr90
    refine At.enter rfl ?_
    refine r_aload_n rfl ?_
    refine r_iload_n rfl ?_
    refine r_callV 30 rfl [.ref 231, .int a2] [] (Nat.le_of_ble_eq_true rfl) rfl (T_X11_four_231 _ hI87 a2 (by rw [hv92]; omega)) ?_
    rintro _ _ ⟨g93, rfl, hI94, hF95, rfl, hr97⟩
    refine At.stn ?_
    have hF98 := Fr.tr hF91 hF95 rfl rfl
    rw [hv92] at hr97
    obtain ⟨v99, hv99⟩ : ∃ v, gI g93 231 8 = v := ⟨_, rfl⟩
    rw [hv99] at hr97
    refine At.enter rfl ?_
    refine r_aload_n rfl ?_
    refine r_iload_n rfl ?_
    refine r_callV 35 rfl [.ref 231, .int a3] [] (Nat.le_of_ble_eq_true rfl) rfl (T_X11_four_231 _ hI94 a3 (by rw [hv99]; omega)) ?_
    rintro _ _ ⟨g100, rfl, hI101, hF102, rfl, hr104⟩
    refine At.stn ?_
    have hF105 := Fr.tr hF98 hF102 rfl rfl
    rw [hv99] at hr104
    obtain ⟨v106, hv106⟩ : ∃ v, gI g100 231 8 = v := ⟨_, rfl⟩
    rw [hv106] at hr104
    refine At.enter rfl ?_
    refine r_aload_n rfl ?_
    refine r_iload rfl ?_
    refine r_callV 41 rfl [.ref 231, .int a4] [] (Nat.le_of_ble_eq_true rfl) rfl (T_X11_four_231 _ hI101 a4 (by rw [hv106]; omega)) ?_
    rintro _ _ ⟨g107, rfl, hI108, hF109, rfl, hr111⟩
    refine At.stn ?_
    have hF112 := Fr.tr hF105 hF109 rfl rfl
    rw [hv106] at hr111
    obtain ⟨v113, hv113⟩ : ∃ v, gI g107 231 8 = v := ⟨_, rfl⟩
    rw [hv113] at hr111
    refine At.enter rfl ?_
    refine r_aload_n rfl ?_
    refine r_iload rfl ?_
    refine r_callV 47 rfl [.ref 231, .int a5] [] (Nat.le_of_ble_eq_true rfl) rfl (T_X11_four_231 _ hI108 a5 (by rw [hv113]; omega)) ?_
    rintro _ _ ⟨g114, rfl, hI115, hF116, rfl, hr118⟩
    refine At.stn ?_
    have hF119 := Fr.tr hF112 hF116 rfl rfl
    rw [hv113] at hr118
    obtain ⟨v120, hv120⟩ : ∃ v, gI g114 231 8 = v := ⟨_, rfl⟩
    rw [hv120] at hr118
    refine At.enter rfl ?_
    refine r_aload_n rfl ?_
    refine q_getI (Sh.int hI115.1 kx_231 rfl) v120 hv120 ?_
    refine r_ireti ?_
    have x121 := HI.eqI hI115 (p := 231) (b := 8) (hv120)
    have x122 := HI.eqI hI0 (p := 231) (b := 8) (hv83)
    exact ⟨_, rfl, hI115, hF119, _, rfl, by omega, (by omega)⟩
  · have c85_ : v84.toInt > 400 := en_i_le_f c85
    refine At.enter rfl ?_
    refine r_iconst (-1) rfl ?_
    refine r_ireti ?_
    have zv123 : ((-1) : Int32).toInt = (-1) := rfl
    have x124 := HI.eqI hI81 (p := 231) (b := 8) (((gI_sI_ne (by decide)).trans hv83))
    have x125 := HI.eqI hI0 (p := 231) (b := 8) (hv83)
    exact ⟨_, rfl, hI81, hF82, _, rfl, by decide, (by omega)⟩

def F_X11_force_231 : List (Nat × Nat) := [(231, 0), (231, 1)]
def A_X11_force_231 : List Nat := [232, 233]
set_option maxRecDepth 100000 in
set_option maxHeartbeats 4000000 in
theorem T_X11_force_231 (d : Nat) {N : Nat} {g0 : List en_E} (hI0 : HI g0) (a1 : Int32) : Ev (d + 3) 211 [.ref 231, .int a1] (g0, N) (fun w h' => ∃ g', h' = (g', N) ∧ HI g' ∧ Fr F_X11_force_231 A_X11_force_231 g0 g' ∧ ∃ r : Int32, w = some (.int r) ∧ ((-2) ≤ r.toInt ∧ r.toInt ≤ 5) ∧ (((eA g' 233 0).toInt = (eA g0 233 0).toInt ∧ (eA g' 233 4).toInt = (eA g0 233 4).toInt ∧ (eA g' 233 5).toInt = (eA g0 233 5).toInt ∧ (eA g' 233 6).toInt = (eA g0 233 6).toInt) ∧ (∀ i : Int, 10 ≤ i → i < 110 → (eA g' 233 (i)).toInt = (eA g0 233 (i)).toInt))) := by
  have hF0 : Fr F_X11_force_231 A_X11_force_231 g0 g0 := Fr.rf
  refine Ev.mk rfl rfl ⟨Nat.le_of_ble_eq_true rfl, Or.inr (q_rc hI0.1 kx_231 rfl)⟩ ?_
  show At _ none _ _ (0, [(0, .ref 231), (1, .int a1)], [], (_, _)) _
  refine At.enter rfl ?_
  refine r_aload_n rfl ?_
  refine r_iconst 0 rfl ?_
  refine q_putI (Sh.int hI0.1 kx_231 rfl) rfl ?_
  have hI73 := HI.wI0 hI0 kx_231 rfl (p := 231) (b := 0) (v := 0) rfl
  have hF74 := Fr.wI (p := 231) (b := 0) (v := 0) hF0 rfl
  refine r_iload_n rfl ?_
  refine r_iconst (-1) rfl ?_
  refine r_ics 10 rfl (fun c75 => ?_) (fun c75 => ?_)
  · have c75_ : a1.toInt = (-1) := en_i_eq_t c75
    refine At.enter rfl ?_
    refine r_aload_n rfl ?_
    refine r_iconst 3 rfl ?_
    refine r_iload_n rfl ?_
    refine q_inlV 34 rfl [.ref 231, .int 3, .int a1] [] (Nat.le_of_ble_eq_true rfl) rfl ?_
    refine Ev.mk rfl rfl ⟨Nat.le_of_ble_eq_true rfl, Or.inr (q_rc hI73.1 kx_231 rfl)⟩ ?_
    show At _ none _ _ (0, [(0, .ref 231), (1, .int 3), (2, .int a1)], [], (_, _)) _
    refine At.enter rfl ?_
    refine r_aload_n rfl ?_
    refine q_getR (Sh.ref hI73.1 kx_231 rfl) ?_
    refine r_iload_n rfl ?_
    obtain ⟨v76, hv76⟩ : ∃ v, eA g0 233 3 = v := ⟨_, rfl⟩
    have wv76 := HI.t3 hI0
    rw [hv76] at wv76
    refine q_iald (Sh.arr hI73.1 ka_233) 3 rfl (by decide) v76 ((eA_c (gA_sI)).trans hv76) ?_
    refine r_istore_n ([(3, .int v76), (0, .ref 231), (1, .int 3), (2, .int a1)]) rfl ?_
    refine r_aload_n rfl ?_
    refine q_getR (Sh.ref hI73.1 kx_231 rfl) ?_
    refine r_iload_n rfl ?_
    refine r_iload_n rfl ?_
    refine q_iast (Sh.arr hI73.1 ka_233) (3) rfl (by decide) ?_
    obtain ⟨v79, hv79⟩ : ∃ v, eA g0 233 2 = v := ⟨_, rfl⟩
    have tv79 := congrArg Int32.toInt hv79
    have wv79 := HI.t2 hI0
    rw [hv79] at wv79
    have tv79 := congrArg Int32.toInt hv79
    have x80 := HI.eqA hI73 (p := 233) (j := 2) (((eA_c gA_sI).trans hv79))
    have hI77 := HI.wt hI73 (j := 3) (v := a1) (by omega) (by omega)
    have hF78 := Fr.wA (p := 233) (j := 3) (v := a1) hF74 rfl
    refine r_aload_n rfl ?_
    refine r_iload_n rfl ?_
    refine q_inlV 19 rfl [.ref 231, .int v76] [] (Nat.le_of_ble_eq_true rfl) rfl ?_
    refine Ev.mk rfl rfl ⟨Nat.le_of_ble_eq_true rfl, Or.inr (q_rc hI77.1 kx_231 rfl)⟩ ?_
    show At _ none _ _ (0, [(0, .ref 231), (1, .int v76)], [], (_, _)) _
    refine At.enter rfl ?_
    refine r_aload_n rfl ?_
    refine r_iconst 0 rfl ?_
    refine q_putI (Sh.int hI77.1 kx_231 rfl) rfl ?_
    have hI81 := HI.wI0 hI77 kx_231 rfl (p := 231) (b := 1) (v := 0) rfl
    have hF82 := Fr.wI (p := 231) (b := 1) (v := 0) hF78 rfl
    refine r_iload_n rfl ?_
    refine q_ireti ?_
    refine At.enter rfl ?_
    refine q_ireti ?_
    refine At.enter rfl ?_
    refine r_goto ?_
    refine At.enter rfl ?_
    refine r_ireti ?_
    obtain ⟨v83, hv83⟩ : ∃ v, eA g0 233 0 = v := ⟨_, rfl⟩
    have tv83 := congrArg Int32.toInt hv83
    have wv83 := HI.t0 hI0
    rw [hv83] at wv83
    have tv83 := congrArg Int32.toInt hv83
    have x84 := HI.eqA hI81 (p := 233) (j := 0) ((((eA_c gA_sI).trans ((eA_sA_ne hI73.1 ka_233 (by first | decide | omega) (by first | decide | omega) (by first | decide | omega)).trans (eA_c gA_sI))).trans hv83))
    obtain ⟨v85, hv85⟩ : ∃ v, eA g0 233 4 = v := ⟨_, rfl⟩
    have wv85 := HI.t4 hI0
    rw [hv85] at wv85
    have tv85 := congrArg Int32.toInt hv85
    have x86 := HI.eqA hI81 (p := 233) (j := 4) ((((eA_c gA_sI).trans ((eA_sA_ne hI73.1 ka_233 (by first | decide | omega) (by first | decide | omega) (by first | decide | omega)).trans (eA_c gA_sI))).trans hv85))
    obtain ⟨v87, hv87⟩ : ∃ v, eA g0 233 5 = v := ⟨_, rfl⟩
    have wv87 := HI.t5 hI0
    rw [hv87] at wv87
    have tv87 := congrArg Int32.toInt hv87
    have x88 := HI.eqA hI81 (p := 233) (j := 5) ((((eA_c gA_sI).trans ((eA_sA_ne hI73.1 ka_233 (by first | decide | omega) (by first | decide | omega) (by first | decide | omega)).trans (eA_c gA_sI))).trans hv87))
    obtain ⟨v89, hv89⟩ : ∃ v, eA g0 233 6 = v := ⟨_, rfl⟩
    have wv89 := HI.t6 hI0
    rw [hv89] at wv89
    have tv89 := congrArg Int32.toInt hv89
    have x90 := HI.eqA hI81 (p := 233) (j := 6) ((((eA_c gA_sI).trans ((eA_sA_ne hI73.1 ka_233 (by first | decide | omega) (by first | decide | omega) (by first | decide | omega)).trans (eA_c gA_sI))).trans hv89))
    have x91 := HI.eqA hI0 (p := 233) (j := 0) (hv83)
    have x92 := HI.eqA hI0 (p := 233) (j := 4) (hv85)
    have x93 := HI.eqA hI0 (p := 233) (j := 5) (hv87)
    have x94 := HI.eqA hI0 (p := 233) (j := 6) (hv89)
    exact ⟨_, rfl, hI81, hF82, _, rfl, by omega, ⟨⟨by omega, by omega, by omega, by omega⟩, (by intro i i0 i1; refine (eA_ti ((gA_sI))).trans ?_; exact (Decidable.em (i = 3)).elim (fun k129_ => by refine (eA_eqT hI73.1 ka_233 k129_ (by first | decide | omega) (by first | decide | omega)).trans ?_; (first | (rfl) | (omega))) (fun k129_ => by refine (eA_neT hI73.1 ka_233 k129_ (by first | decide | omega) (by omega)).trans ?_; refine (eA_ti ((gA_sI))).trans ?_; (first | rfl | exact eA_ix (by omega) | omega)))⟩⟩
  · have c75_ : a1.toInt ≠ (-1) := en_i_eq_f c75
    refine At.enter rfl ?_
    refine r_iload_n rfl ?_
    refine q_i2l (fun v95 hv95 => ?_)
    refine r_lconst 0 rfl ?_
    refine r_aload_n rfl ?_
    refine q_getR (Sh.ref hI73.1 kx_231 rfl) ?_
    refine r_iconst 2 rfl ?_
    obtain ⟨v96, hv96⟩ : ∃ v, eA g0 233 2 = v := ⟨_, rfl⟩
    have tv96 := congrArg Int32.toInt hv96
    have wv96 := HI.t2 hI0
    rw [hv96] at wv96
    refine q_iald (Sh.arr hI73.1 ka_233) 2 rfl (by decide) v96 ((eA_c (gA_sI)).trans hv96) ?_
    refine q_i2l (fun v97 hv97 => ?_)
    refine r_lconst 1 rfl ?_
    refine q_lsub (v97.toInt - 1) rfl (by omega) (fun v98 hv98 => ?_)
    refine q_inlS 25 rfl [.long v95, .long 0, .long v98] [] (Nat.le_of_ble_eq_true rfl) rfl ?_
    refine Ev.mk rfl rfl ⟨Nat.le_of_ble_eq_true rfl, Or.inl rfl⟩ ?_
    show At _ none _ _ (0, [(0, .long v95), (2, .long 0), (4, .long v98)], [], (_, _)) _
    refine At.enter rfl ?_
    refine r_lload_n rfl ?_
    refine r_lload_n rfl ?_
    refine r_lcmp _ rfl ?_
    refine r_ifs 6 rfl (fun c99 => ?_) (fun c99 => ?_)
    · have c99_ : v95.toInt < 0 := en_j_lt_t c99
      refine At.enter rfl ?_
      refine r_iconst 0 rfl ?_
      refine Ar.fall 18 rfl ?_
      refine At.enter rfl ?_
      refine q_iretz (by decide) ?_
      refine At.enter rfl ?_
      refine r_ift (by decide) ?_
      refine At.enter rfl ?_
      refine r_aload_n rfl ?_
      refine r_bipush (-2) rfl ?_
      refine r_callV 43 rfl [.ref 231, .int (-2)] [] (Nat.le_of_ble_eq_true rfl) rfl (T_X11_tell_231 _ hI73 (-2) (by decide)) ?_
      rintro _ _ ⟨g100, rfl, hI101, hF102, v103, rfl, hr104⟩
      refine At.sti ?_
      have hF105 := Fr.tr hF74 hF102 rfl rfl
      have zv106 : ((-2) : Int32).toInt = (-2) := rfl
      refine At.enter rfl ?_
      refine r_ireti ?_
      obtain ⟨v107, hv107⟩ : ∃ v, eA g0 233 0 = v := ⟨_, rfl⟩
      have tv107 := congrArg Int32.toInt hv107
      have wv107 := HI.t0 hI0
      rw [hv107] at wv107
      have tv107 := congrArg Int32.toInt hv107
      have x108 := HI.eqA hI101 (p := 233) (j := 0) ((((eA_c (hF102.2.1 233 (by decide))).trans (eA_c gA_sI)).trans hv107))
      obtain ⟨v109, hv109⟩ : ∃ v, eA g0 233 4 = v := ⟨_, rfl⟩
      have wv109 := HI.t4 hI0
      rw [hv109] at wv109
      have tv109 := congrArg Int32.toInt hv109
      have x110 := HI.eqA hI101 (p := 233) (j := 4) ((((eA_c (hF102.2.1 233 (by decide))).trans (eA_c gA_sI)).trans hv109))
      obtain ⟨v111, hv111⟩ : ∃ v, eA g0 233 5 = v := ⟨_, rfl⟩
      have wv111 := HI.t5 hI0
      rw [hv111] at wv111
      have tv111 := congrArg Int32.toInt hv111
      have x112 := HI.eqA hI101 (p := 233) (j := 5) ((((eA_c (hF102.2.1 233 (by decide))).trans (eA_c gA_sI)).trans hv111))
      obtain ⟨v113, hv113⟩ : ∃ v, eA g0 233 6 = v := ⟨_, rfl⟩
      have wv113 := HI.t6 hI0
      rw [hv113] at wv113
      have tv113 := congrArg Int32.toInt hv113
      have x114 := HI.eqA hI101 (p := 233) (j := 6) ((((eA_c (hF102.2.1 233 (by decide))).trans (eA_c gA_sI)).trans hv113))
      have x115 := HI.eqA hI0 (p := 233) (j := 0) (hv107)
      have x116 := HI.eqA hI0 (p := 233) (j := 4) (hv109)
      have x117 := HI.eqA hI0 (p := 233) (j := 5) (hv111)
      have x118 := HI.eqA hI0 (p := 233) (j := 6) (hv113)
      exact ⟨_, rfl, hI101, hF105, _, rfl, by omega, ⟨⟨by omega, by omega, by omega, by omega⟩, (by intro i i0 i1; refine (eA_ti (((hF102.2.1 233 (by decide)).trans (gA_sI)))).trans ?_; (first | rfl | exact eA_ix (by omega) | omega))⟩⟩
    · have c99_ : v95.toInt ≥ 0 := en_j_lt_f c99
      refine At.enter rfl ?_
      refine r_lload_n rfl ?_
      refine r_lload rfl ?_
      refine r_lcmp _ rfl ?_
      refine r_ifs 13 rfl (fun c119 => ?_) (fun c119 => ?_)
      · have c119_ : v95.toInt > v98.toInt := en_j_gt_t c119
        refine At.enter rfl ?_
        refine r_iconst 0 rfl ?_
        refine Ar.fall 18 rfl ?_
        refine At.enter rfl ?_
        refine q_iretz (by decide) ?_
        refine At.enter rfl ?_
        refine r_ift (by decide) ?_
        refine At.enter rfl ?_
        refine r_aload_n rfl ?_
        refine r_bipush (-2) rfl ?_
        refine r_callV 43 rfl [.ref 231, .int (-2)] [] (Nat.le_of_ble_eq_true rfl) rfl (T_X11_tell_231 _ hI73 (-2) (by decide)) ?_
        rintro _ _ ⟨g120, rfl, hI121, hF122, v123, rfl, hr124⟩
        refine At.sti ?_
        have hF125 := Fr.tr hF74 hF122 rfl rfl
        have zv126 : ((-2) : Int32).toInt = (-2) := rfl
        refine At.enter rfl ?_
        refine r_ireti ?_
        obtain ⟨v127, hv127⟩ : ∃ v, eA g0 233 0 = v := ⟨_, rfl⟩
        have tv127 := congrArg Int32.toInt hv127
        have wv127 := HI.t0 hI0
        rw [hv127] at wv127
        have tv127 := congrArg Int32.toInt hv127
        have x128 := HI.eqA hI121 (p := 233) (j := 0) ((((eA_c (hF122.2.1 233 (by decide))).trans (eA_c gA_sI)).trans hv127))
        obtain ⟨v129, hv129⟩ : ∃ v, eA g0 233 4 = v := ⟨_, rfl⟩
        have wv129 := HI.t4 hI0
        rw [hv129] at wv129
        have tv129 := congrArg Int32.toInt hv129
        have x130 := HI.eqA hI121 (p := 233) (j := 4) ((((eA_c (hF122.2.1 233 (by decide))).trans (eA_c gA_sI)).trans hv129))
        obtain ⟨v131, hv131⟩ : ∃ v, eA g0 233 5 = v := ⟨_, rfl⟩
        have wv131 := HI.t5 hI0
        rw [hv131] at wv131
        have tv131 := congrArg Int32.toInt hv131
        have x132 := HI.eqA hI121 (p := 233) (j := 5) ((((eA_c (hF122.2.1 233 (by decide))).trans (eA_c gA_sI)).trans hv131))
        obtain ⟨v133, hv133⟩ : ∃ v, eA g0 233 6 = v := ⟨_, rfl⟩
        have wv133 := HI.t6 hI0
        rw [hv133] at wv133
        have tv133 := congrArg Int32.toInt hv133
        have x134 := HI.eqA hI121 (p := 233) (j := 6) ((((eA_c (hF122.2.1 233 (by decide))).trans (eA_c gA_sI)).trans hv133))
        have x135 := HI.eqA hI0 (p := 233) (j := 0) (hv127)
        have x136 := HI.eqA hI0 (p := 233) (j := 4) (hv129)
        have x137 := HI.eqA hI0 (p := 233) (j := 5) (hv131)
        have x138 := HI.eqA hI0 (p := 233) (j := 6) (hv133)
        exact ⟨_, rfl, hI121, hF125, _, rfl, by omega, ⟨⟨by omega, by omega, by omega, by omega⟩, (by intro i i0 i1; refine (eA_ti (((hF122.2.1 233 (by decide)).trans (gA_sI)))).trans ?_; (first | rfl | exact eA_ix (by omega) | omega))⟩⟩
      · have c119_ : v95.toInt ≤ v98.toInt := en_j_gt_f c119
        refine At.enter rfl ?_
        refine r_iconst 1 rfl ?_
        refine r_goto ?_
        refine At.enter rfl ?_
        refine q_iretz (by decide) ?_
        refine At.enter rfl ?_
        refine r_iff 28 rfl (by decide) ?_
        refine At.enter rfl ?_
        refine r_aload_n rfl ?_
        refine r_iconst 3 rfl ?_
        refine r_iload_n rfl ?_
        refine q_inlV 34 rfl [.ref 231, .int 3, .int a1] [] (Nat.le_of_ble_eq_true rfl) rfl ?_
        refine Ev.mk rfl rfl ⟨Nat.le_of_ble_eq_true rfl, Or.inr (q_rc hI73.1 kx_231 rfl)⟩ ?_
        show At _ none _ _ (0, [(0, .ref 231), (1, .int 3), (2, .int a1)], [], (_, _)) _
        refine At.enter rfl ?_
        refine r_aload_n rfl ?_
        refine q_getR (Sh.ref hI73.1 kx_231 rfl) ?_
        refine r_iload_n rfl ?_
        obtain ⟨v139, hv139⟩ : ∃ v, eA g0 233 3 = v := ⟨_, rfl⟩
        have wv139 := HI.t3 hI0
        rw [hv139] at wv139
        refine q_iald (Sh.arr hI73.1 ka_233) 3 rfl (by decide) v139 ((eA_c (gA_sI)).trans hv139) ?_
        refine r_istore_n ([(3, .int v139), (0, .ref 231), (1, .int 3), (2, .int a1)]) rfl ?_
        refine r_aload_n rfl ?_
        refine q_getR (Sh.ref hI73.1 kx_231 rfl) ?_
        refine r_iload_n rfl ?_
        refine r_iload_n rfl ?_
        refine q_iast (Sh.arr hI73.1 ka_233) (3) rfl (by decide) ?_
        have x142 := HI.eqA hI73 (p := 233) (j := 2) (((eA_c gA_sI).trans hv96))
        have hI140 := HI.wt hI73 (j := 3) (v := a1) (by omega) (by omega)
        have hF141 := Fr.wA (p := 233) (j := 3) (v := a1) hF74 rfl
        refine r_aload_n rfl ?_
        refine r_iload_n rfl ?_
        refine q_inlV 19 rfl [.ref 231, .int v139] [] (Nat.le_of_ble_eq_true rfl) rfl ?_
        refine Ev.mk rfl rfl ⟨Nat.le_of_ble_eq_true rfl, Or.inr (q_rc hI140.1 kx_231 rfl)⟩ ?_
        show At _ none _ _ (0, [(0, .ref 231), (1, .int v139)], [], (_, _)) _
        refine At.enter rfl ?_
        refine r_aload_n rfl ?_
        refine r_iconst 0 rfl ?_
        refine q_putI (Sh.int hI140.1 kx_231 rfl) rfl ?_
        have hI143 := HI.wI0 hI140 kx_231 rfl (p := 231) (b := 1) (v := 0) rfl
        have hF144 := Fr.wI (p := 231) (b := 1) (v := 0) hF141 rfl
        refine r_iload_n rfl ?_
        refine q_ireti ?_
        refine At.enter rfl ?_
        refine q_ireti ?_
        refine At.enter rfl ?_
        refine r_goto ?_
        refine At.enter rfl ?_
        refine r_ireti ?_
        obtain ⟨v145, hv145⟩ : ∃ v, eA g0 233 0 = v := ⟨_, rfl⟩
        have tv145 := congrArg Int32.toInt hv145
        have wv145 := HI.t0 hI0
        rw [hv145] at wv145
        have tv145 := congrArg Int32.toInt hv145
        have x146 := HI.eqA hI143 (p := 233) (j := 0) ((((eA_c gA_sI).trans ((eA_sA_ne hI73.1 ka_233 (by first | decide | omega) (by first | decide | omega) (by first | decide | omega)).trans (eA_c gA_sI))).trans hv145))
        obtain ⟨v147, hv147⟩ : ∃ v, eA g0 233 4 = v := ⟨_, rfl⟩
        have wv147 := HI.t4 hI0
        rw [hv147] at wv147
        have tv147 := congrArg Int32.toInt hv147
        have x148 := HI.eqA hI143 (p := 233) (j := 4) ((((eA_c gA_sI).trans ((eA_sA_ne hI73.1 ka_233 (by first | decide | omega) (by first | decide | omega) (by first | decide | omega)).trans (eA_c gA_sI))).trans hv147))
        obtain ⟨v149, hv149⟩ : ∃ v, eA g0 233 5 = v := ⟨_, rfl⟩
        have wv149 := HI.t5 hI0
        rw [hv149] at wv149
        have tv149 := congrArg Int32.toInt hv149
        have x150 := HI.eqA hI143 (p := 233) (j := 5) ((((eA_c gA_sI).trans ((eA_sA_ne hI73.1 ka_233 (by first | decide | omega) (by first | decide | omega) (by first | decide | omega)).trans (eA_c gA_sI))).trans hv149))
        obtain ⟨v151, hv151⟩ : ∃ v, eA g0 233 6 = v := ⟨_, rfl⟩
        have wv151 := HI.t6 hI0
        rw [hv151] at wv151
        have tv151 := congrArg Int32.toInt hv151
        have x152 := HI.eqA hI143 (p := 233) (j := 6) ((((eA_c gA_sI).trans ((eA_sA_ne hI73.1 ka_233 (by first | decide | omega) (by first | decide | omega) (by first | decide | omega)).trans (eA_c gA_sI))).trans hv151))
        have x153 := HI.eqA hI0 (p := 233) (j := 0) (hv145)
        have x154 := HI.eqA hI0 (p := 233) (j := 4) (hv147)
        have x155 := HI.eqA hI0 (p := 233) (j := 5) (hv149)
        have x156 := HI.eqA hI0 (p := 233) (j := 6) (hv151)
        exact ⟨_, rfl, hI143, hF144, _, rfl, by omega, ⟨⟨by omega, by omega, by omega, by omega⟩, (by intro i i0 i1; refine (eA_ti ((gA_sI))).trans ?_; exact (Decidable.em (i = 3)).elim (fun k130_ => by refine (eA_eqT hI73.1 ka_233 k130_ (by first | decide | omega) (by first | decide | omega)).trans ?_; (first | (rfl) | (omega))) (fun k130_ => by refine (eA_neT hI73.1 ka_233 k130_ (by first | decide | omega) (by omega)).trans ?_; refine (eA_ti ((gA_sI))).trans ?_; (first | rfl | exact eA_ix (by omega) | omega)))⟩⟩

def F_X11_swap_231 : List (Nat × Nat) := [(231, 0), (231, 1)]
def A_X11_swap_231 : List Nat := [232, 233]
set_option maxRecDepth 100000 in
set_option maxHeartbeats 4000000 in
theorem T_X11_swap_231 (d : Nat) {N : Nat} {g0 : List en_E} (hI0 : HI g0) (a1 : Int32) (a2 : Int32) : Ev (d + 3) 240 [.ref 231, .int a1, .int a2] (g0, N) (fun w h' => ∃ g', h' = (g', N) ∧ HI g' ∧ Fr F_X11_swap_231 A_X11_swap_231 g0 g' ∧ ∃ r : Int32, w = some (.int r) ∧ ((-3) ≤ r.toInt ∧ r.toInt ≤ 0) ∧ ((((¬ (0 ≤ a1.toInt ∧ a1.toInt < (eA g0 233 0).toInt ∧ 0 ≤ a2.toInt ∧ a2.toInt < (eA g0 233 0).toInt) → r.toInt = -2) ∧ ((0 ≤ a1.toInt ∧ a1.toInt < (eA g0 233 0).toInt ∧ 0 ≤ a2.toInt ∧ a2.toInt < (eA g0 233 0).toInt) ∧ a1.toInt = a2.toInt → r.toInt = -3) ∧ ((0 ≤ a1.toInt ∧ a1.toInt < (eA g0 233 0).toInt ∧ 0 ≤ a2.toInt ∧ a2.toInt < (eA g0 233 0).toInt) ∧ a1.toInt ≠ a2.toInt → r.toInt = 0)) ∧ (eA g' 233 0).toInt = (eA g0 233 0).toInt ∧ (eA g' 233 4).toInt = (eA g0 233 4).toInt ∧ (eA g' 233 5).toInt = (eA g0 233 5).toInt ∧ (eA g' 233 6).toInt = (eA g0 233 6).toInt) ∧ (∀ i : Int, 10 ≤ i → i < 110 → (eA g' 233 (i)).toInt = if (0 ≤ a1.toInt ∧ a1.toInt < (eA g0 233 0).toInt ∧ 0 ≤ a2.toInt ∧ a2.toInt < (eA g0 233 0).toInt ∧ a1.toInt ≠ a2.toInt) ∧ i = 10 + 3 * a1.toInt + 1 then (eA g0 233 (10 + 3 * a2.toInt + 1)).toInt else if (0 ≤ a1.toInt ∧ a1.toInt < (eA g0 233 0).toInt ∧ 0 ≤ a2.toInt ∧ a2.toInt < (eA g0 233 0).toInt ∧ a1.toInt ≠ a2.toInt) ∧ i = 10 + 3 * a1.toInt + 2 then (eA g0 233 (10 + 3 * a2.toInt + 2)).toInt else if (0 ≤ a1.toInt ∧ a1.toInt < (eA g0 233 0).toInt ∧ 0 ≤ a2.toInt ∧ a2.toInt < (eA g0 233 0).toInt ∧ a1.toInt ≠ a2.toInt) ∧ i = 10 + 3 * a2.toInt + 1 then (eA g0 233 (10 + 3 * a1.toInt + 1)).toInt else if (0 ≤ a1.toInt ∧ a1.toInt < (eA g0 233 0).toInt ∧ 0 ≤ a2.toInt ∧ a2.toInt < (eA g0 233 0).toInt ∧ a1.toInt ≠ a2.toInt) ∧ i = 10 + 3 * a2.toInt + 2 then (eA g0 233 (10 + 3 * a1.toInt + 2)).toInt else (eA g0 233 (i)).toInt))) := by
  have hF0 : Fr F_X11_swap_231 A_X11_swap_231 g0 g0 := Fr.rf
  refine Ev.mk rfl rfl ⟨Nat.le_of_ble_eq_true rfl, Or.inr (q_rc hI0.1 kx_231 rfl)⟩ ?_
  show At _ none _ _ (0, [(0, .ref 231), (1, .int a1), (2, .int a2)], [], (_, _)) _
  refine At.enter rfl ?_
  refine r_aload_n rfl ?_
  refine r_iconst 0 rfl ?_
  refine q_putI (Sh.int hI0.1 kx_231 rfl) rfl ?_
  have hI351 := HI.wI0 hI0 kx_231 rfl (p := 231) (b := 0) (v := 0) rfl
  have hF352 := Fr.wI (p := 231) (b := 0) (v := 0) hF0 rfl
  refine r_aload_n rfl ?_
  refine r_iload_n rfl ?_
  refine q_inlV 10 rfl [.ref 231, .int a1] [] (Nat.le_of_ble_eq_true rfl) rfl ?_
  refine Ev.mk rfl rfl ⟨Nat.le_of_ble_eq_true rfl, Or.inr (q_rc hI351.1 kx_231 rfl)⟩ ?_
  show At _ none _ _ (0, [(0, .ref 231), (1, .int a1)], [], (_, _)) _
  refine At.enter rfl ?_
  refine r_iload_n rfl ?_
  refine q_i2l (fun v353 hv353 => ?_)
  refine r_lconst 0 rfl ?_
  refine r_aload_n rfl ?_
  refine q_getR (Sh.ref hI351.1 kx_231 rfl) ?_
  refine r_iconst 0 rfl ?_
  obtain ⟨v354, hv354⟩ : ∃ v, eA g0 233 0 = v := ⟨_, rfl⟩
  have tv354 := congrArg Int32.toInt hv354
  have wv354 := HI.t0 hI0
  rw [hv354] at wv354
  refine q_iald (Sh.arr hI351.1 ka_233) 0 rfl (by decide) v354 ((eA_c (gA_sI)).trans hv354) ?_
  refine q_i2l (fun v355 hv355 => ?_)
  refine r_lconst 1 rfl ?_
  refine q_lsub (v355.toInt - 1) rfl (by omega) (fun v356 hv356 => ?_)
  refine q_inlS 15 rfl [.long v353, .long 0, .long v356] [] (Nat.le_of_ble_eq_true rfl) rfl ?_
  refine Ev.mk rfl rfl ⟨Nat.le_of_ble_eq_true rfl, Or.inl rfl⟩ ?_
  show At _ none _ _ (0, [(0, .long v353), (2, .long 0), (4, .long v356)], [], (_, _)) _
  refine At.enter rfl ?_
  refine r_lload_n rfl ?_
  refine r_lload_n rfl ?_
  refine r_lcmp _ rfl ?_
  refine r_ifs 6 rfl (fun c357 => ?_) (fun c357 => ?_)
  · have c357_ : v353.toInt < 0 := en_j_lt_t c357
    refine At.enter rfl ?_
    refine r_iconst 0 rfl ?_
    refine Ar.fall 18 rfl ?_
    refine At.enter rfl ?_
    refine q_iretz (by decide) ?_
    refine At.enter rfl ?_
    refine q_iretz (by decide) ?_
    refine At.enter rfl ?_
    refine r_ift (by decide) ?_
    refine At.enter rfl ?_
    refine r_aload_n rfl ?_
    refine r_bipush (-2) rfl ?_
    refine r_callV 27 rfl [.ref 231, .int (-2)] [] (Nat.le_of_ble_eq_true rfl) rfl (T_X11_tell_231 _ hI351 (-2) (by decide)) ?_
    rintro _ _ ⟨g358, rfl, hI359, hF360, v361, rfl, hr362⟩
    refine At.sti ?_
    have hF363 := Fr.tr hF352 hF360 rfl rfl
    have zv364 : ((-2) : Int32).toInt = (-2) := rfl
    refine At.enter rfl ?_
    refine r_ireti ?_
    have x365 := HI.eqA hI359 (p := 233) (j := 0) ((((eA_c (hF360.2.1 233 (by decide))).trans (eA_c gA_sI)).trans hv354))
    obtain ⟨v366, hv366⟩ : ∃ v, eA g0 233 4 = v := ⟨_, rfl⟩
    have wv366 := HI.t4 hI0
    rw [hv366] at wv366
    have tv366 := congrArg Int32.toInt hv366
    have x367 := HI.eqA hI359 (p := 233) (j := 4) ((((eA_c (hF360.2.1 233 (by decide))).trans (eA_c gA_sI)).trans hv366))
    obtain ⟨v368, hv368⟩ : ∃ v, eA g0 233 5 = v := ⟨_, rfl⟩
    have wv368 := HI.t5 hI0
    rw [hv368] at wv368
    have tv368 := congrArg Int32.toInt hv368
    have x369 := HI.eqA hI359 (p := 233) (j := 5) ((((eA_c (hF360.2.1 233 (by decide))).trans (eA_c gA_sI)).trans hv368))
    obtain ⟨v370, hv370⟩ : ∃ v, eA g0 233 6 = v := ⟨_, rfl⟩
    have wv370 := HI.t6 hI0
    rw [hv370] at wv370
    have tv370 := congrArg Int32.toInt hv370
    have x371 := HI.eqA hI359 (p := 233) (j := 6) ((((eA_c (hF360.2.1 233 (by decide))).trans (eA_c gA_sI)).trans hv370))
    have x372 := HI.eqA hI0 (p := 233) (j := 0) (hv354)
    have x373 := HI.eqA hI0 (p := 233) (j := 0) (hv354)
    have x374 := HI.eqA hI0 (p := 233) (j := 4) (hv366)
    have x375 := HI.eqA hI0 (p := 233) (j := 5) (hv368)
    have x376 := HI.eqA hI0 (p := 233) (j := 6) (hv370)
    have x377 := HI.eqA hI0 (p := 233) (j := 0) (hv354)
    exact ⟨_, rfl, hI359, hF363, _, rfl, by omega, ⟨⟨by omega, by omega, by omega, by omega, by omega⟩, (by intro i i0 i1; refine Eq.trans ?_ (if_neg (show ¬ ((0 ≤ a1.toInt ∧ a1.toInt < (eA g0 233 0).toInt ∧ 0 ≤ a2.toInt ∧ a2.toInt < (eA g0 233 0).toInt ∧ a1.toInt ≠ a2.toInt) ∧ i = 10 + 3 * a1.toInt + 1) from by omega)).symm; refine Eq.trans ?_ (if_neg (show ¬ ((0 ≤ a1.toInt ∧ a1.toInt < (eA g0 233 0).toInt ∧ 0 ≤ a2.toInt ∧ a2.toInt < (eA g0 233 0).toInt ∧ a1.toInt ≠ a2.toInt) ∧ i = 10 + 3 * a1.toInt + 2) from by omega)).symm; refine Eq.trans ?_ (if_neg (show ¬ ((0 ≤ a1.toInt ∧ a1.toInt < (eA g0 233 0).toInt ∧ 0 ≤ a2.toInt ∧ a2.toInt < (eA g0 233 0).toInt ∧ a1.toInt ≠ a2.toInt) ∧ i = 10 + 3 * a2.toInt + 1) from by omega)).symm; refine Eq.trans ?_ (if_neg (show ¬ ((0 ≤ a1.toInt ∧ a1.toInt < (eA g0 233 0).toInt ∧ 0 ≤ a2.toInt ∧ a2.toInt < (eA g0 233 0).toInt ∧ a1.toInt ≠ a2.toInt) ∧ i = 10 + 3 * a2.toInt + 2) from by omega)).symm; refine (eA_ti (((hF360.2.1 233 (by decide)).trans (gA_sI)))).trans ?_; (first | rfl | exact eA_ix (by omega) | omega))⟩⟩
  · have c357_ : v353.toInt ≥ 0 := en_j_lt_f c357
    refine At.enter rfl ?_
    refine r_lload_n rfl ?_
    refine r_lload rfl ?_
    refine r_lcmp _ rfl ?_
    refine r_ifs 13 rfl (fun c378 => ?_) (fun c378 => ?_)
    · have c378_ : v353.toInt > v356.toInt := en_j_gt_t c378
      refine At.enter rfl ?_
      refine r_iconst 0 rfl ?_
      refine Ar.fall 18 rfl ?_
      refine At.enter rfl ?_
      refine q_iretz (by decide) ?_
      refine At.enter rfl ?_
      refine q_iretz (by decide) ?_
      refine At.enter rfl ?_
      refine r_ift (by decide) ?_
      refine At.enter rfl ?_
      refine r_aload_n rfl ?_
      refine r_bipush (-2) rfl ?_
      refine r_callV 27 rfl [.ref 231, .int (-2)] [] (Nat.le_of_ble_eq_true rfl) rfl (T_X11_tell_231 _ hI351 (-2) (by decide)) ?_
      rintro _ _ ⟨g379, rfl, hI380, hF381, v382, rfl, hr383⟩
      refine At.sti ?_
      have hF384 := Fr.tr hF352 hF381 rfl rfl
      have zv385 : ((-2) : Int32).toInt = (-2) := rfl
      refine At.enter rfl ?_
      refine r_ireti ?_
      have x386 := HI.eqA hI380 (p := 233) (j := 0) ((((eA_c (hF381.2.1 233 (by decide))).trans (eA_c gA_sI)).trans hv354))
      obtain ⟨v387, hv387⟩ : ∃ v, eA g0 233 4 = v := ⟨_, rfl⟩
      have wv387 := HI.t4 hI0
      rw [hv387] at wv387
      have tv387 := congrArg Int32.toInt hv387
      have x388 := HI.eqA hI380 (p := 233) (j := 4) ((((eA_c (hF381.2.1 233 (by decide))).trans (eA_c gA_sI)).trans hv387))
      obtain ⟨v389, hv389⟩ : ∃ v, eA g0 233 5 = v := ⟨_, rfl⟩
      have wv389 := HI.t5 hI0
      rw [hv389] at wv389
      have tv389 := congrArg Int32.toInt hv389
      have x390 := HI.eqA hI380 (p := 233) (j := 5) ((((eA_c (hF381.2.1 233 (by decide))).trans (eA_c gA_sI)).trans hv389))
      obtain ⟨v391, hv391⟩ : ∃ v, eA g0 233 6 = v := ⟨_, rfl⟩
      have wv391 := HI.t6 hI0
      rw [hv391] at wv391
      have tv391 := congrArg Int32.toInt hv391
      have x392 := HI.eqA hI380 (p := 233) (j := 6) ((((eA_c (hF381.2.1 233 (by decide))).trans (eA_c gA_sI)).trans hv391))
      have x393 := HI.eqA hI0 (p := 233) (j := 0) (hv354)
      have x394 := HI.eqA hI0 (p := 233) (j := 0) (hv354)
      have x395 := HI.eqA hI0 (p := 233) (j := 4) (hv387)
      have x396 := HI.eqA hI0 (p := 233) (j := 5) (hv389)
      have x397 := HI.eqA hI0 (p := 233) (j := 6) (hv391)
      have x398 := HI.eqA hI0 (p := 233) (j := 0) (hv354)
      exact ⟨_, rfl, hI380, hF384, _, rfl, by omega, ⟨⟨by omega, by omega, by omega, by omega, by omega⟩, (by intro i i0 i1; refine Eq.trans ?_ (if_neg (show ¬ ((0 ≤ a1.toInt ∧ a1.toInt < (eA g0 233 0).toInt ∧ 0 ≤ a2.toInt ∧ a2.toInt < (eA g0 233 0).toInt ∧ a1.toInt ≠ a2.toInt) ∧ i = 10 + 3 * a1.toInt + 1) from by omega)).symm; refine Eq.trans ?_ (if_neg (show ¬ ((0 ≤ a1.toInt ∧ a1.toInt < (eA g0 233 0).toInt ∧ 0 ≤ a2.toInt ∧ a2.toInt < (eA g0 233 0).toInt ∧ a1.toInt ≠ a2.toInt) ∧ i = 10 + 3 * a1.toInt + 2) from by omega)).symm; refine Eq.trans ?_ (if_neg (show ¬ ((0 ≤ a1.toInt ∧ a1.toInt < (eA g0 233 0).toInt ∧ 0 ≤ a2.toInt ∧ a2.toInt < (eA g0 233 0).toInt ∧ a1.toInt ≠ a2.toInt) ∧ i = 10 + 3 * a2.toInt + 1) from by omega)).symm; refine Eq.trans ?_ (if_neg (show ¬ ((0 ≤ a1.toInt ∧ a1.toInt < (eA g0 233 0).toInt ∧ 0 ≤ a2.toInt ∧ a2.toInt < (eA g0 233 0).toInt ∧ a1.toInt ≠ a2.toInt) ∧ i = 10 + 3 * a2.toInt + 2) from by omega)).symm; refine (eA_ti (((hF381.2.1 233 (by decide)).trans (gA_sI)))).trans ?_; (first | rfl | exact eA_ix (by omega) | omega))⟩⟩
    · have c378_ : v353.toInt ≤ v356.toInt := en_j_gt_f c378
      refine At.enter rfl ?_
      refine r_iconst 1 rfl ?_
      refine r_goto ?_
      refine At.enter rfl ?_
      refine q_iretz (by decide) ?_
      refine At.enter rfl ?_
      refine q_iretz (by decide) ?_
      refine At.enter rfl ?_
      refine r_iff 13 rfl (by decide) ?_
      refine At.enter rfl ?_
      refine r_aload_n rfl ?_
      refine r_iload_n rfl ?_
      refine q_inlV 18 rfl [.ref 231, .int a2] [] (Nat.le_of_ble_eq_true rfl) rfl ?_
      refine Ev.mk rfl rfl ⟨Nat.le_of_ble_eq_true rfl, Or.inr (q_rc hI351.1 kx_231 rfl)⟩ ?_
      show At _ none _ _ (0, [(0, .ref 231), (1, .int a2)], [], (_, _)) _
      refine At.enter rfl ?_
      refine r_iload_n rfl ?_
      refine q_i2l (fun v399 hv399 => ?_)
      refine r_lconst 0 rfl ?_
      refine r_aload_n rfl ?_
      refine q_getR (Sh.ref hI351.1 kx_231 rfl) ?_
      refine r_iconst 0 rfl ?_
      refine q_iald (Sh.arr hI351.1 ka_233) 0 rfl (by decide) v354 ((eA_c (gA_sI)).trans hv354) ?_
      refine q_i2l (fun v400 hv400 => ?_)
      refine r_lconst 1 rfl ?_
      refine q_lsub (v400.toInt - 1) rfl (by omega) (fun v401 hv401 => ?_)
      refine q_inlS 15 rfl [.long v399, .long 0, .long v401] [] (Nat.le_of_ble_eq_true rfl) rfl ?_
      refine Ev.mk rfl rfl ⟨Nat.le_of_ble_eq_true rfl, Or.inl rfl⟩ ?_
      show At _ none _ _ (0, [(0, .long v399), (2, .long 0), (4, .long v401)], [], (_, _)) _
      refine At.enter rfl ?_
      refine r_lload_n rfl ?_
      refine r_lload_n rfl ?_
      refine r_lcmp _ rfl ?_
      refine r_ifs 6 rfl (fun c402 => ?_) (fun c402 => ?_)
      · have c402_ : v399.toInt < 0 := en_j_lt_t c402
        refine At.enter rfl ?_
        refine r_iconst 0 rfl ?_
        refine Ar.fall 18 rfl ?_
        refine At.enter rfl ?_
        refine q_iretz (by decide) ?_
        refine At.enter rfl ?_
        refine q_iretz (by decide) ?_
        refine At.enter rfl ?_
        refine r_iff 21 rfl (by decide) ?_
        refine At.enter rfl ?_
        refine r_aload_n rfl ?_
        refine r_bipush (-2) rfl ?_
        refine r_callV 27 rfl [.ref 231, .int (-2)] [] (Nat.le_of_ble_eq_true rfl) rfl (T_X11_tell_231 _ hI351 (-2) (by decide)) ?_
        rintro _ _ ⟨g403, rfl, hI404, hF405, v406, rfl, hr407⟩
        refine At.sti ?_
        have hF408 := Fr.tr hF352 hF405 rfl rfl
        have zv409 : ((-2) : Int32).toInt = (-2) := rfl
        refine At.enter rfl ?_
        refine r_ireti ?_
        have x410 := HI.eqA hI404 (p := 233) (j := 0) ((((eA_c (hF405.2.1 233 (by decide))).trans (eA_c gA_sI)).trans hv354))
        obtain ⟨v411, hv411⟩ : ∃ v, eA g0 233 4 = v := ⟨_, rfl⟩
        have wv411 := HI.t4 hI0
        rw [hv411] at wv411
        have tv411 := congrArg Int32.toInt hv411
        have x412 := HI.eqA hI404 (p := 233) (j := 4) ((((eA_c (hF405.2.1 233 (by decide))).trans (eA_c gA_sI)).trans hv411))
        obtain ⟨v413, hv413⟩ : ∃ v, eA g0 233 5 = v := ⟨_, rfl⟩
        have wv413 := HI.t5 hI0
        rw [hv413] at wv413
        have tv413 := congrArg Int32.toInt hv413
        have x414 := HI.eqA hI404 (p := 233) (j := 5) ((((eA_c (hF405.2.1 233 (by decide))).trans (eA_c gA_sI)).trans hv413))
        obtain ⟨v415, hv415⟩ : ∃ v, eA g0 233 6 = v := ⟨_, rfl⟩
        have wv415 := HI.t6 hI0
        rw [hv415] at wv415
        have tv415 := congrArg Int32.toInt hv415
        have x416 := HI.eqA hI404 (p := 233) (j := 6) ((((eA_c (hF405.2.1 233 (by decide))).trans (eA_c gA_sI)).trans hv415))
        have x417 := HI.eqA hI0 (p := 233) (j := 0) (hv354)
        have x418 := HI.eqA hI0 (p := 233) (j := 0) (hv354)
        have x419 := HI.eqA hI0 (p := 233) (j := 4) (hv411)
        have x420 := HI.eqA hI0 (p := 233) (j := 5) (hv413)
        have x421 := HI.eqA hI0 (p := 233) (j := 6) (hv415)
        have x422 := HI.eqA hI0 (p := 233) (j := 0) (hv354)
        exact ⟨_, rfl, hI404, hF408, _, rfl, by omega, ⟨⟨by omega, by omega, by omega, by omega, by omega⟩, (by intro i i0 i1; refine Eq.trans ?_ (if_neg (show ¬ ((0 ≤ a1.toInt ∧ a1.toInt < (eA g0 233 0).toInt ∧ 0 ≤ a2.toInt ∧ a2.toInt < (eA g0 233 0).toInt ∧ a1.toInt ≠ a2.toInt) ∧ i = 10 + 3 * a1.toInt + 1) from by omega)).symm; refine Eq.trans ?_ (if_neg (show ¬ ((0 ≤ a1.toInt ∧ a1.toInt < (eA g0 233 0).toInt ∧ 0 ≤ a2.toInt ∧ a2.toInt < (eA g0 233 0).toInt ∧ a1.toInt ≠ a2.toInt) ∧ i = 10 + 3 * a1.toInt + 2) from by omega)).symm; refine Eq.trans ?_ (if_neg (show ¬ ((0 ≤ a1.toInt ∧ a1.toInt < (eA g0 233 0).toInt ∧ 0 ≤ a2.toInt ∧ a2.toInt < (eA g0 233 0).toInt ∧ a1.toInt ≠ a2.toInt) ∧ i = 10 + 3 * a2.toInt + 1) from by omega)).symm; refine Eq.trans ?_ (if_neg (show ¬ ((0 ≤ a1.toInt ∧ a1.toInt < (eA g0 233 0).toInt ∧ 0 ≤ a2.toInt ∧ a2.toInt < (eA g0 233 0).toInt ∧ a1.toInt ≠ a2.toInt) ∧ i = 10 + 3 * a2.toInt + 2) from by omega)).symm; refine (eA_ti (((hF405.2.1 233 (by decide)).trans (gA_sI)))).trans ?_; (first | rfl | exact eA_ix (by omega) | omega))⟩⟩
      · have c402_ : v399.toInt ≥ 0 := en_j_lt_f c402
        refine At.enter rfl ?_
        refine r_lload_n rfl ?_
        refine r_lload rfl ?_
        refine r_lcmp _ rfl ?_
        refine r_ifs 13 rfl (fun c423 => ?_) (fun c423 => ?_)
        · have c423_ : v399.toInt > v401.toInt := en_j_gt_t c423
          refine At.enter rfl ?_
          refine r_iconst 0 rfl ?_
          refine Ar.fall 18 rfl ?_
          refine At.enter rfl ?_
          refine q_iretz (by decide) ?_
          refine At.enter rfl ?_
          refine q_iretz (by decide) ?_
          refine At.enter rfl ?_
          refine r_iff 21 rfl (by decide) ?_
          refine At.enter rfl ?_
          refine r_aload_n rfl ?_
          refine r_bipush (-2) rfl ?_
          refine r_callV 27 rfl [.ref 231, .int (-2)] [] (Nat.le_of_ble_eq_true rfl) rfl (T_X11_tell_231 _ hI351 (-2) (by decide)) ?_
          rintro _ _ ⟨g424, rfl, hI425, hF426, v427, rfl, hr428⟩
          refine At.sti ?_
          have hF429 := Fr.tr hF352 hF426 rfl rfl
          have zv430 : ((-2) : Int32).toInt = (-2) := rfl
          refine At.enter rfl ?_
          refine r_ireti ?_
          have x431 := HI.eqA hI425 (p := 233) (j := 0) ((((eA_c (hF426.2.1 233 (by decide))).trans (eA_c gA_sI)).trans hv354))
          obtain ⟨v432, hv432⟩ : ∃ v, eA g0 233 4 = v := ⟨_, rfl⟩
          have wv432 := HI.t4 hI0
          rw [hv432] at wv432
          have tv432 := congrArg Int32.toInt hv432
          have x433 := HI.eqA hI425 (p := 233) (j := 4) ((((eA_c (hF426.2.1 233 (by decide))).trans (eA_c gA_sI)).trans hv432))
          obtain ⟨v434, hv434⟩ : ∃ v, eA g0 233 5 = v := ⟨_, rfl⟩
          have wv434 := HI.t5 hI0
          rw [hv434] at wv434
          have tv434 := congrArg Int32.toInt hv434
          have x435 := HI.eqA hI425 (p := 233) (j := 5) ((((eA_c (hF426.2.1 233 (by decide))).trans (eA_c gA_sI)).trans hv434))
          obtain ⟨v436, hv436⟩ : ∃ v, eA g0 233 6 = v := ⟨_, rfl⟩
          have wv436 := HI.t6 hI0
          rw [hv436] at wv436
          have tv436 := congrArg Int32.toInt hv436
          have x437 := HI.eqA hI425 (p := 233) (j := 6) ((((eA_c (hF426.2.1 233 (by decide))).trans (eA_c gA_sI)).trans hv436))
          have x438 := HI.eqA hI0 (p := 233) (j := 0) (hv354)
          have x439 := HI.eqA hI0 (p := 233) (j := 0) (hv354)
          have x440 := HI.eqA hI0 (p := 233) (j := 4) (hv432)
          have x441 := HI.eqA hI0 (p := 233) (j := 5) (hv434)
          have x442 := HI.eqA hI0 (p := 233) (j := 6) (hv436)
          have x443 := HI.eqA hI0 (p := 233) (j := 0) (hv354)
          exact ⟨_, rfl, hI425, hF429, _, rfl, by omega, ⟨⟨by omega, by omega, by omega, by omega, by omega⟩, (by intro i i0 i1; refine Eq.trans ?_ (if_neg (show ¬ ((0 ≤ a1.toInt ∧ a1.toInt < (eA g0 233 0).toInt ∧ 0 ≤ a2.toInt ∧ a2.toInt < (eA g0 233 0).toInt ∧ a1.toInt ≠ a2.toInt) ∧ i = 10 + 3 * a1.toInt + 1) from by omega)).symm; refine Eq.trans ?_ (if_neg (show ¬ ((0 ≤ a1.toInt ∧ a1.toInt < (eA g0 233 0).toInt ∧ 0 ≤ a2.toInt ∧ a2.toInt < (eA g0 233 0).toInt ∧ a1.toInt ≠ a2.toInt) ∧ i = 10 + 3 * a1.toInt + 2) from by omega)).symm; refine Eq.trans ?_ (if_neg (show ¬ ((0 ≤ a1.toInt ∧ a1.toInt < (eA g0 233 0).toInt ∧ 0 ≤ a2.toInt ∧ a2.toInt < (eA g0 233 0).toInt ∧ a1.toInt ≠ a2.toInt) ∧ i = 10 + 3 * a2.toInt + 1) from by omega)).symm; refine Eq.trans ?_ (if_neg (show ¬ ((0 ≤ a1.toInt ∧ a1.toInt < (eA g0 233 0).toInt ∧ 0 ≤ a2.toInt ∧ a2.toInt < (eA g0 233 0).toInt ∧ a1.toInt ≠ a2.toInt) ∧ i = 10 + 3 * a2.toInt + 2) from by omega)).symm; refine (eA_ti (((hF426.2.1 233 (by decide)).trans (gA_sI)))).trans ?_; (first | rfl | exact eA_ix (by omega) | omega))⟩⟩
        · have c423_ : v399.toInt ≤ v401.toInt := en_j_gt_f c423
          refine At.enter rfl ?_
          refine r_iconst 1 rfl ?_
          refine r_goto ?_
          refine At.enter rfl ?_
          refine q_iretz (by decide) ?_
          refine At.enter rfl ?_
          refine q_iretz (by decide) ?_
          refine At.enter rfl ?_
          refine r_ift (by decide) ?_
          refine At.enter rfl ?_
          refine r_iload_n rfl ?_
          refine r_iload_n rfl ?_
          refine r_ics 33 rfl (fun c444 => ?_) (fun c444 => ?_)
          · have c444_ : a1.toInt ≠ a2.toInt := en_i_ne_t c444
            refine At.enter rfl ?_
            refine r_iconst 1 rfl ?_
            refine r_istore_n ([(3, .int 1), (0, .ref 231), (1, .int a1), (2, .int a2)]) rfl ?_
            refine Ar.fall 42 rfl ?_
            obtain ⟨v445, hv445⟩ : ∃ v, eA g0 233 4 = v := ⟨_, rfl⟩
            have wv445 := HI.t4 hI0
            rw [hv445] at wv445
            have tv445 := congrArg Int32.toInt hv445
            obtain ⟨v446, hv446⟩ : ∃ v, eA g0 233 5 = v := ⟨_, rfl⟩
            have wv446 := HI.t5 hI0
            rw [hv446] at wv446
            have tv446 := congrArg Int32.toInt hv446
            obtain ⟨v447, hv447⟩ : ∃ v, eA g0 233 6 = v := ⟨_, rfl⟩
            have wv447 := HI.t6 hI0
            rw [hv447] at wv447
            have tv447 := congrArg Int32.toInt hv447
            have z_538 : (1 : Int32).toInt = 1 := rfl
            refine w_loopI (fun n_ l_ g_ => ∃ x521 : Int32, n_ = 3 - x521.toInt ∧ HI g_ ∧ Fr F_X11_swap_231 A_X11_swap_231 g0 g_ ∧ eA g_ 233 0 = v354 ∧ eA g_ 233 4 = v445 ∧ eA g_ 233 5 = v446 ∧ eA g_ 233 6 = v447 ∧ en_get 0 l_ = some (.ref 231) ∧ en_get 1 l_ = some (.int a1) ∧ en_get 2 l_ = some (.int a2) ∧ en_get 3 l_ = some (.int x521) ∧ (1 ≤ x521.toInt ∧ x521.toInt ≤ 3) ∧ (∀ i : Int, 10 ≤ i → i < 110 → (eA g_ 233 (i)).toInt = if 10 + 3 * a1.toInt + 1 ≤ i ∧ i < 10 + 3 * a1.toInt + x521.toInt then (eA g0 233 (i + 3 * a2.toInt - 3 * a1.toInt)).toInt else if 10 + 3 * a2.toInt + 1 ≤ i ∧ i < 10 + 3 * a2.toInt + x521.toInt then (eA g0 233 (i + 3 * a1.toInt - 3 * a2.toInt)).toInt else (eA g0 233 (i)).toInt)) ?_ (3 - 1) ⟨1, by first | rfl | omega, hI351, hF352, ((eA_c gA_sI).trans hv354), ((eA_c gA_sI).trans hv445), ((eA_c gA_sI).trans hv446), ((eA_c gA_sI).trans hv447), rfl, rfl, rfl, rfl, by decide, (by intro i i0 i1; refine Eq.trans ?_ (if_neg (show ¬ (10 + 3 * a1.toInt + 1 ≤ i ∧ i < 10 + 3 * a1.toInt + 1) from by omega)).symm; refine Eq.trans ?_ (if_neg (show ¬ (10 + 3 * a2.toInt + 1 ≤ i ∧ i < 10 + 3 * a2.toInt + 1) from by omega)).symm; refine (eA_ti ((gA_sI))).trans ?_; (first | rfl | exact eA_ix (by omega) | omega))⟩
            rintro n526 l525 g522 ⟨x521, hm539, hI523, hF524, e528, e529, e530, e531, e532, e533, e534, e535, r536, q537⟩ ih527
            have tv540 := congrArg Int32.toInt e528
            have tv541 := congrArg Int32.toInt e529
            have tv542 := congrArg Int32.toInt e530
            have tv543 := congrArg Int32.toInt e531
            refine At.enter rfl ?_
            refine r_iload_n e535 ?_
            refine r_iconst 3 rfl ?_
            refine r_ics 47 rfl (fun c544 => ?_) (fun c544 => ?_)
            · have c544_ : x521.toInt ≥ 3 := en_i_ge_t c544
              refine At.enter rfl ?_
              refine r_aload_n e532 ?_
              refine r_iconst 0 rfl ?_
              refine r_callV 114 rfl [.ref 231, .int 0] [] (Nat.le_of_ble_eq_true rfl) rfl (T_X11_tell_231 _ hI523 0 (by decide)) ?_
              rintro _ _ ⟨g545, rfl, hI546, hF547, v548, rfl, hr549⟩
              refine At.sti ?_
              have hF550 := Fr.tr hF524 hF547 rfl rfl
              have zv551 : (0 : Int32).toInt = 0 := rfl
              refine At.enter rfl ?_
              refine r_ireti ?_
              have x552 := HI.eqA hI546 (p := 233) (j := 0) (((eA_c (hF547.2.1 233 (by decide))).trans e528))
              have x553 := HI.eqA hI546 (p := 233) (j := 4) (((eA_c (hF547.2.1 233 (by decide))).trans e529))
              have x554 := HI.eqA hI546 (p := 233) (j := 5) (((eA_c (hF547.2.1 233 (by decide))).trans e530))
              have x555 := HI.eqA hI546 (p := 233) (j := 6) (((eA_c (hF547.2.1 233 (by decide))).trans e531))
              have x556 := HI.eqA hI0 (p := 233) (j := 0) (hv354)
              have x557 := HI.eqA hI0 (p := 233) (j := 0) (hv354)
              have x558 := HI.eqA hI0 (p := 233) (j := 4) (hv445)
              have x559 := HI.eqA hI0 (p := 233) (j := 5) (hv446)
              have x560 := HI.eqA hI0 (p := 233) (j := 6) (hv447)
              have x561 := HI.eqA hI0 (p := 233) (j := 0) (hv354)
              exact ⟨_, rfl, hI546, hF550, _, rfl, by omega, ⟨⟨by omega, by omega, by omega, by omega, by omega⟩, (by intro i i0 i1; exact (Decidable.em ((0 ≤ a1.toInt ∧ a1.toInt < (eA g0 233 0).toInt ∧ 0 ≤ a2.toInt ∧ a2.toInt < (eA g0 233 0).toInt ∧ a1.toInt ≠ a2.toInt) ∧ i = 10 + 3 * a1.toInt + 1)).elim (fun k131_ => by refine Eq.trans ?_ (if_pos k131_).symm; refine (eA_ti ((hF547.2.1 233 (by decide)))).trans ?_; refine ((q537 (i) (by omega) (by omega))).trans ?_; exact (Decidable.em (10 + 3 * a1.toInt + 1 ≤ (i) ∧ (i) < 10 + 3 * a1.toInt + x521.toInt)).elim (fun k132_ => by refine (if_pos k132_).trans ?_; (first | rfl | exact eA_ix (by omega) | omega)) (fun k132_ => by refine (if_neg k132_).trans ?_; exact (Decidable.em (10 + 3 * a2.toInt + 1 ≤ (i) ∧ (i) < 10 + 3 * a2.toInt + x521.toInt)).elim (fun k133_ => by refine (if_pos k133_).trans ?_; (first | rfl | exact eA_ix (by omega) | omega)) (fun k133_ => by refine (if_neg k133_).trans ?_; (first | rfl | exact eA_ix (by omega) | omega)))) (fun k131_ => by refine Eq.trans ?_ (if_neg k131_).symm; exact (Decidable.em ((0 ≤ a1.toInt ∧ a1.toInt < (eA g0 233 0).toInt ∧ 0 ≤ a2.toInt ∧ a2.toInt < (eA g0 233 0).toInt ∧ a1.toInt ≠ a2.toInt) ∧ i = 10 + 3 * a1.toInt + 2)).elim (fun k134_ => by refine Eq.trans ?_ (if_pos k134_).symm; refine (eA_ti ((hF547.2.1 233 (by decide)))).trans ?_; refine ((q537 (i) (by omega) (by omega))).trans ?_; exact (Decidable.em (10 + 3 * a1.toInt + 1 ≤ (i) ∧ (i) < 10 + 3 * a1.toInt + x521.toInt)).elim (fun k135_ => by refine (if_pos k135_).trans ?_; (first | rfl | exact eA_ix (by omega) | omega)) (fun k135_ => by refine (if_neg k135_).trans ?_; exact (Decidable.em (10 + 3 * a2.toInt + 1 ≤ (i) ∧ (i) < 10 + 3 * a2.toInt + x521.toInt)).elim (fun k136_ => by refine (if_pos k136_).trans ?_; (first | rfl | exact eA_ix (by omega) | omega)) (fun k136_ => by refine (if_neg k136_).trans ?_; (first | rfl | exact eA_ix (by omega) | omega)))) (fun k134_ => by refine Eq.trans ?_ (if_neg k134_).symm; exact (Decidable.em ((0 ≤ a1.toInt ∧ a1.toInt < (eA g0 233 0).toInt ∧ 0 ≤ a2.toInt ∧ a2.toInt < (eA g0 233 0).toInt ∧ a1.toInt ≠ a2.toInt) ∧ i = 10 + 3 * a2.toInt + 1)).elim (fun k137_ => by refine Eq.trans ?_ (if_pos k137_).symm; refine (eA_ti ((hF547.2.1 233 (by decide)))).trans ?_; refine ((q537 (i) (by omega) (by omega))).trans ?_; exact (Decidable.em (10 + 3 * a1.toInt + 1 ≤ (i) ∧ (i) < 10 + 3 * a1.toInt + x521.toInt)).elim (fun k138_ => by refine (if_pos k138_).trans ?_; (first | rfl | exact eA_ix (by omega) | omega)) (fun k138_ => by refine (if_neg k138_).trans ?_; exact (Decidable.em (10 + 3 * a2.toInt + 1 ≤ (i) ∧ (i) < 10 + 3 * a2.toInt + x521.toInt)).elim (fun k139_ => by refine (if_pos k139_).trans ?_; (first | rfl | exact eA_ix (by omega) | omega)) (fun k139_ => by refine (if_neg k139_).trans ?_; (first | rfl | exact eA_ix (by omega) | omega)))) (fun k137_ => by refine Eq.trans ?_ (if_neg k137_).symm; exact (Decidable.em ((0 ≤ a1.toInt ∧ a1.toInt < (eA g0 233 0).toInt ∧ 0 ≤ a2.toInt ∧ a2.toInt < (eA g0 233 0).toInt ∧ a1.toInt ≠ a2.toInt) ∧ i = 10 + 3 * a2.toInt + 2)).elim (fun k140_ => by refine Eq.trans ?_ (if_pos k140_).symm; refine (eA_ti ((hF547.2.1 233 (by decide)))).trans ?_; refine ((q537 (i) (by omega) (by omega))).trans ?_; exact (Decidable.em (10 + 3 * a1.toInt + 1 ≤ (i) ∧ (i) < 10 + 3 * a1.toInt + x521.toInt)).elim (fun k141_ => by refine (if_pos k141_).trans ?_; (first | rfl | exact eA_ix (by omega) | omega)) (fun k141_ => by refine (if_neg k141_).trans ?_; exact (Decidable.em (10 + 3 * a2.toInt + 1 ≤ (i) ∧ (i) < 10 + 3 * a2.toInt + x521.toInt)).elim (fun k142_ => by refine (if_pos k142_).trans ?_; (first | rfl | exact eA_ix (by omega) | omega)) (fun k142_ => by refine (if_neg k142_).trans ?_; (first | rfl | exact eA_ix (by omega) | omega)))) (fun k140_ => by refine Eq.trans ?_ (if_neg k140_).symm; refine (eA_ti ((hF547.2.1 233 (by decide)))).trans ?_; refine ((q537 (i) (by omega) (by omega))).trans ?_; exact (Decidable.em (10 + 3 * a1.toInt + 1 ≤ (i) ∧ (i) < 10 + 3 * a1.toInt + x521.toInt)).elim (fun k143_ => by refine (if_pos k143_).trans ?_; (first | rfl | exact eA_ix (by omega) | omega)) (fun k143_ => by refine (if_neg k143_).trans ?_; exact (Decidable.em (10 + 3 * a2.toInt + 1 ≤ (i) ∧ (i) < 10 + 3 * a2.toInt + x521.toInt)).elim (fun k144_ => by refine (if_pos k144_).trans ?_; (first | rfl | exact eA_ix (by omega) | omega)) (fun k144_ => by refine (if_neg k144_).trans ?_; (first | rfl | exact eA_ix (by omega) | omega))))))))⟩⟩
            · have c544_ : x521.toInt < 3 := en_i_ge_f c544
              refine At.enter rfl ?_
              refine r_aload_n e532 ?_
              refine q_getR (Sh.ref hI523.1 kx_231 rfl) ?_
              refine r_bipush 10 rfl ?_
              refine r_iconst 3 rfl ?_
              refine r_iload_n e533 ?_
              refine q_imul (3 * a1.toInt) rfl (by omega) (fun v562 hv562 => ?_)
              refine q_iadd (10 + v562.toInt) rfl (by omega) (fun v563 hv563 => ?_)
              refine r_iload_n e535 ?_
              refine q_iadd (v563.toInt + x521.toInt) rfl (by omega) (fun v564 hv564 => ?_)
              obtain ⟨v565, hv565⟩ : ∃ v, eA g522 233 (3 * a1.toInt + x521.toInt + 10) = v := ⟨_, rfl⟩
              have wv565 := HI.s12 hI523 (j := (3 * a1.toInt + x521.toInt + 10)) a1.toInt x521.toInt (by omega) (by omega) (by omega)
              rw [hv565] at wv565
              refine q_iald (Sh.arr hI523.1 ka_233) (3 * a1.toInt + x521.toInt + 10) (by omega) (by omega) v565 hv565 ?_
              refine r_istore _ rfl ?_
              refine r_aload_n (w_p1 (by decide) (Or.inr rfl) e532) ?_
              refine q_getR (Sh.ref hI523.1 kx_231 rfl) ?_
              refine r_bipush 10 rfl ?_
              refine r_iconst 3 rfl ?_
              refine r_iload_n (w_p1 (by decide) (Or.inr rfl) e533) ?_
              refine q_imul (3 * a1.toInt) rfl (by omega) (fun v566 hv566 => ?_)
              refine q_iadd (10 + v566.toInt) rfl (by omega) (fun v567 hv567 => ?_)
              refine r_iload_n (w_p1 (by decide) (Or.inr rfl) e535) ?_
              refine q_iadd (v567.toInt + x521.toInt) rfl (by omega) (fun v568 hv568 => ?_)
              refine r_aload_n (w_p1 (by decide) (Or.inr rfl) e532) ?_
              refine q_getR (Sh.ref hI523.1 kx_231 rfl) ?_
              refine r_bipush 10 rfl ?_
              refine r_iconst 3 rfl ?_
              refine r_iload_n (w_p1 (by decide) (Or.inr rfl) e534) ?_
              refine q_imul (3 * a2.toInt) rfl (by omega) (fun v569 hv569 => ?_)
              refine q_iadd (10 + v569.toInt) rfl (by omega) (fun v570 hv570 => ?_)
              refine r_iload_n (w_p1 (by decide) (Or.inr rfl) e535) ?_
              refine q_iadd (v570.toInt + x521.toInt) rfl (by omega) (fun v571 hv571 => ?_)
              obtain ⟨v572, hv572⟩ : ∃ v, eA g522 233 (3 * a2.toInt + x521.toInt + 10) = v := ⟨_, rfl⟩
              have wv572 := HI.s12 hI523 (j := (3 * a2.toInt + x521.toInt + 10)) a2.toInt x521.toInt (by omega) (by omega) (by omega)
              rw [hv572] at wv572
              refine q_iald (Sh.arr hI523.1 ka_233) (3 * a2.toInt + x521.toInt + 10) (by omega) (by omega) v572 hv572 ?_
              refine q_iast (Sh.arr hI523.1 ka_233) ((3 * a1.toInt + x521.toInt + 10)) (by omega) (by omega) ?_
              have hI573 := HI.ws hI523 (j := (3 * a1.toInt + x521.toInt + 10)) (v := v572) a1.toInt x521.toInt (by omega) (by omega) (by omega) (by omega)
              have hF574 := Fr.wA (p := 233) (j := (3 * a1.toInt + x521.toInt + 10)) (v := v572) hF524 rfl
              refine r_aload_n (w_p1 (by decide) (Or.inr rfl) e532) ?_
              refine q_getR (Sh.ref hI573.1 kx_231 rfl) ?_
              refine r_bipush 10 rfl ?_
              refine r_iconst 3 rfl ?_
              refine r_iload_n (w_p1 (by decide) (Or.inr rfl) e534) ?_
              refine q_imul (3 * a2.toInt) rfl (by omega) (fun v575 hv575 => ?_)
              refine q_iadd (10 + v575.toInt) rfl (by omega) (fun v576 hv576 => ?_)
              refine r_iload_n (w_p1 (by decide) (Or.inr rfl) e535) ?_
              refine q_iadd (v576.toInt + x521.toInt) rfl (by omega) (fun v577 hv577 => ?_)
              refine r_iload (w_e1 _ _ _) ?_
              refine q_iast (Sh.arr hI573.1 ka_233) ((3 * a2.toInt + x521.toInt + 10)) (by omega) (by omega) ?_
              have hI578 := HI.ws hI573 (j := (3 * a2.toInt + x521.toInt + 10)) (v := v565) a2.toInt x521.toInt (by omega) (by omega) (by omega) (by omega)
              have hF579 := Fr.wA (p := 233) (j := (3 * a2.toInt + x521.toInt + 10)) (v := v565) hF574 rfl
              refine q_iinc (w_p1 (by decide) (Or.inr rfl) e535) (x521.toInt + 1) rfl (by omega) (fun v580 hv580 => ?_)
              refine r_goto ?_
              exact ih527 (3 - v580.toInt) _ _ ⟨v580, by first | rfl | omega, hI578, hF579, (((eA_sA_ne hI573.1 ka_233 (by first | decide | omega) (by first | decide | omega) (by first | decide | omega)).trans (eA_sA_ne hI523.1 ka_233 (by first | decide | omega) (by first | decide | omega) (by first | decide | omega))).trans e528), (((eA_sA_ne hI573.1 ka_233 (by first | decide | omega) (by first | decide | omega) (by first | decide | omega)).trans (eA_sA_ne hI523.1 ka_233 (by first | decide | omega) (by first | decide | omega) (by first | decide | omega))).trans e529), (((eA_sA_ne hI573.1 ka_233 (by first | decide | omega) (by first | decide | omega) (by first | decide | omega)).trans (eA_sA_ne hI523.1 ka_233 (by first | decide | omega) (by first | decide | omega) (by first | decide | omega))).trans e530), (((eA_sA_ne hI573.1 ka_233 (by first | decide | omega) (by first | decide | omega) (by first | decide | omega)).trans (eA_sA_ne hI523.1 ka_233 (by first | decide | omega) (by first | decide | omega) (by first | decide | omega))).trans e531), (w_p1 (by decide) (Or.inr rfl) (w_p1 (by decide) (Or.inr rfl) e532)), (w_p1 (by decide) (Or.inr rfl) (w_p1 (by decide) (Or.inr rfl) e533)), (w_p1 (by decide) (Or.inr rfl) (w_p1 (by decide) (Or.inr rfl) e534)), (w_e1 _ _ _), by omega, (by intro i i0 i1; exact (Decidable.em (10 + 3 * a1.toInt + 1 ≤ i ∧ i < 10 + 3 * a1.toInt + v580.toInt)).elim (fun k145_ => by refine Eq.trans ?_ (if_pos k145_).symm; exact (Decidable.em (i = (3 * a2.toInt + x521.toInt + 10))).elim (fun k146_ => by refine (eA_eqT hI573.1 ka_233 k146_ (by first | decide | omega) (by first | decide | omega)).trans ?_; (first | (rfl) | (omega) | (refine (congrArg Int32.toInt hv565).symm.trans ?_; refine ((q537 ((3 * a1.toInt + x521.toInt + 10)) (by omega) (by omega))).trans ?_; exact (Decidable.em (10 + 3 * a1.toInt + 1 ≤ ((3 * a1.toInt + x521.toInt + 10)) ∧ ((3 * a1.toInt + x521.toInt + 10)) < 10 + 3 * a1.toInt + x521.toInt)).elim (fun k147_ => by refine (if_pos k147_).trans ?_; (first | rfl | exact eA_ix (by omega) | omega)) (fun k147_ => by refine (if_neg k147_).trans ?_; exact (Decidable.em (10 + 3 * a2.toInt + 1 ≤ ((3 * a1.toInt + x521.toInt + 10)) ∧ ((3 * a1.toInt + x521.toInt + 10)) < 10 + 3 * a2.toInt + x521.toInt)).elim (fun k148_ => by refine (if_pos k148_).trans ?_; (first | rfl | exact eA_ix (by omega) | omega)) (fun k148_ => by refine (if_neg k148_).trans ?_; (first | rfl | exact eA_ix (by omega) | omega)))))) (fun k146_ => by refine (eA_neT hI573.1 ka_233 k146_ (by first | decide | omega) (by omega)).trans ?_; exact (Decidable.em (i = (3 * a1.toInt + x521.toInt + 10))).elim (fun k149_ => by refine (eA_eqT hI523.1 ka_233 k149_ (by first | decide | omega) (by first | decide | omega)).trans ?_; (first | (rfl) | (omega) | (refine (congrArg Int32.toInt hv572).symm.trans ?_; refine ((q537 ((3 * a2.toInt + x521.toInt + 10)) (by omega) (by omega))).trans ?_; exact (Decidable.em (10 + 3 * a1.toInt + 1 ≤ ((3 * a2.toInt + x521.toInt + 10)) ∧ ((3 * a2.toInt + x521.toInt + 10)) < 10 + 3 * a1.toInt + x521.toInt)).elim (fun k150_ => by refine (if_pos k150_).trans ?_; (first | rfl | exact eA_ix (by omega) | omega)) (fun k150_ => by refine (if_neg k150_).trans ?_; exact (Decidable.em (10 + 3 * a2.toInt + 1 ≤ ((3 * a2.toInt + x521.toInt + 10)) ∧ ((3 * a2.toInt + x521.toInt + 10)) < 10 + 3 * a2.toInt + x521.toInt)).elim (fun k151_ => by refine (if_pos k151_).trans ?_; (first | rfl | exact eA_ix (by omega) | omega)) (fun k151_ => by refine (if_neg k151_).trans ?_; (first | rfl | exact eA_ix (by omega) | omega)))))) (fun k149_ => by refine (eA_neT hI523.1 ka_233 k149_ (by first | decide | omega) (by omega)).trans ?_; refine ((q537 (i) (by omega) (by omega))).trans ?_; exact (Decidable.em (10 + 3 * a1.toInt + 1 ≤ (i) ∧ (i) < 10 + 3 * a1.toInt + x521.toInt)).elim (fun k152_ => by refine (if_pos k152_).trans ?_; (first | rfl | exact eA_ix (by omega) | omega)) (fun k152_ => by refine (if_neg k152_).trans ?_; exact (Decidable.em (10 + 3 * a2.toInt + 1 ≤ (i) ∧ (i) < 10 + 3 * a2.toInt + x521.toInt)).elim (fun k153_ => by refine (if_pos k153_).trans ?_; (first | rfl | exact eA_ix (by omega) | omega)) (fun k153_ => by refine (if_neg k153_).trans ?_; (first | rfl | exact eA_ix (by omega) | omega)))))) (fun k145_ => by refine Eq.trans ?_ (if_neg k145_).symm; exact (Decidable.em (10 + 3 * a2.toInt + 1 ≤ i ∧ i < 10 + 3 * a2.toInt + v580.toInt)).elim (fun k154_ => by refine Eq.trans ?_ (if_pos k154_).symm; exact (Decidable.em (i = (3 * a2.toInt + x521.toInt + 10))).elim (fun k155_ => by refine (eA_eqT hI573.1 ka_233 k155_ (by first | decide | omega) (by first | decide | omega)).trans ?_; (first | (rfl) | (omega) | (refine (congrArg Int32.toInt hv565).symm.trans ?_; refine ((q537 ((3 * a1.toInt + x521.toInt + 10)) (by omega) (by omega))).trans ?_; exact (Decidable.em (10 + 3 * a1.toInt + 1 ≤ ((3 * a1.toInt + x521.toInt + 10)) ∧ ((3 * a1.toInt + x521.toInt + 10)) < 10 + 3 * a1.toInt + x521.toInt)).elim (fun k156_ => by refine (if_pos k156_).trans ?_; (first | rfl | exact eA_ix (by omega) | omega)) (fun k156_ => by refine (if_neg k156_).trans ?_; exact (Decidable.em (10 + 3 * a2.toInt + 1 ≤ ((3 * a1.toInt + x521.toInt + 10)) ∧ ((3 * a1.toInt + x521.toInt + 10)) < 10 + 3 * a2.toInt + x521.toInt)).elim (fun k157_ => by refine (if_pos k157_).trans ?_; (first | rfl | exact eA_ix (by omega) | omega)) (fun k157_ => by refine (if_neg k157_).trans ?_; (first | rfl | exact eA_ix (by omega) | omega)))))) (fun k155_ => by refine (eA_neT hI573.1 ka_233 k155_ (by first | decide | omega) (by omega)).trans ?_; exact (Decidable.em (i = (3 * a1.toInt + x521.toInt + 10))).elim (fun k158_ => by refine (eA_eqT hI523.1 ka_233 k158_ (by first | decide | omega) (by first | decide | omega)).trans ?_; (first | (rfl) | (omega) | (refine (congrArg Int32.toInt hv572).symm.trans ?_; refine ((q537 ((3 * a2.toInt + x521.toInt + 10)) (by omega) (by omega))).trans ?_; exact (Decidable.em (10 + 3 * a1.toInt + 1 ≤ ((3 * a2.toInt + x521.toInt + 10)) ∧ ((3 * a2.toInt + x521.toInt + 10)) < 10 + 3 * a1.toInt + x521.toInt)).elim (fun k159_ => by refine (if_pos k159_).trans ?_; (first | rfl | exact eA_ix (by omega) | omega)) (fun k159_ => by refine (if_neg k159_).trans ?_; exact (Decidable.em (10 + 3 * a2.toInt + 1 ≤ ((3 * a2.toInt + x521.toInt + 10)) ∧ ((3 * a2.toInt + x521.toInt + 10)) < 10 + 3 * a2.toInt + x521.toInt)).elim (fun k160_ => by refine (if_pos k160_).trans ?_; (first | rfl | exact eA_ix (by omega) | omega)) (fun k160_ => by refine (if_neg k160_).trans ?_; (first | rfl | exact eA_ix (by omega) | omega)))))) (fun k158_ => by refine (eA_neT hI523.1 ka_233 k158_ (by first | decide | omega) (by omega)).trans ?_; refine ((q537 (i) (by omega) (by omega))).trans ?_; exact (Decidable.em (10 + 3 * a1.toInt + 1 ≤ (i) ∧ (i) < 10 + 3 * a1.toInt + x521.toInt)).elim (fun k161_ => by refine (if_pos k161_).trans ?_; (first | rfl | exact eA_ix (by omega) | omega)) (fun k161_ => by refine (if_neg k161_).trans ?_; exact (Decidable.em (10 + 3 * a2.toInt + 1 ≤ (i) ∧ (i) < 10 + 3 * a2.toInt + x521.toInt)).elim (fun k162_ => by refine (if_pos k162_).trans ?_; (first | rfl | exact eA_ix (by omega) | omega)) (fun k162_ => by refine (if_neg k162_).trans ?_; (first | rfl | exact eA_ix (by omega) | omega)))))) (fun k154_ => by refine Eq.trans ?_ (if_neg k154_).symm; exact (Decidable.em (i = (3 * a2.toInt + x521.toInt + 10))).elim (fun k163_ => by refine (eA_eqT hI573.1 ka_233 k163_ (by first | decide | omega) (by first | decide | omega)).trans ?_; (first | (rfl) | (omega) | (refine (congrArg Int32.toInt hv565).symm.trans ?_; refine ((q537 ((3 * a1.toInt + x521.toInt + 10)) (by omega) (by omega))).trans ?_; exact (Decidable.em (10 + 3 * a1.toInt + 1 ≤ ((3 * a1.toInt + x521.toInt + 10)) ∧ ((3 * a1.toInt + x521.toInt + 10)) < 10 + 3 * a1.toInt + x521.toInt)).elim (fun k164_ => by refine (if_pos k164_).trans ?_; (first | rfl | exact eA_ix (by omega) | omega)) (fun k164_ => by refine (if_neg k164_).trans ?_; exact (Decidable.em (10 + 3 * a2.toInt + 1 ≤ ((3 * a1.toInt + x521.toInt + 10)) ∧ ((3 * a1.toInt + x521.toInt + 10)) < 10 + 3 * a2.toInt + x521.toInt)).elim (fun k165_ => by refine (if_pos k165_).trans ?_; (first | rfl | exact eA_ix (by omega) | omega)) (fun k165_ => by refine (if_neg k165_).trans ?_; (first | rfl | exact eA_ix (by omega) | omega)))))) (fun k163_ => by refine (eA_neT hI573.1 ka_233 k163_ (by first | decide | omega) (by omega)).trans ?_; exact (Decidable.em (i = (3 * a1.toInt + x521.toInt + 10))).elim (fun k166_ => by refine (eA_eqT hI523.1 ka_233 k166_ (by first | decide | omega) (by first | decide | omega)).trans ?_; (first | (rfl) | (omega) | (refine (congrArg Int32.toInt hv572).symm.trans ?_; refine ((q537 ((3 * a2.toInt + x521.toInt + 10)) (by omega) (by omega))).trans ?_; exact (Decidable.em (10 + 3 * a1.toInt + 1 ≤ ((3 * a2.toInt + x521.toInt + 10)) ∧ ((3 * a2.toInt + x521.toInt + 10)) < 10 + 3 * a1.toInt + x521.toInt)).elim (fun k167_ => by refine (if_pos k167_).trans ?_; (first | rfl | exact eA_ix (by omega) | omega)) (fun k167_ => by refine (if_neg k167_).trans ?_; exact (Decidable.em (10 + 3 * a2.toInt + 1 ≤ ((3 * a2.toInt + x521.toInt + 10)) ∧ ((3 * a2.toInt + x521.toInt + 10)) < 10 + 3 * a2.toInt + x521.toInt)).elim (fun k168_ => by refine (if_pos k168_).trans ?_; (first | rfl | exact eA_ix (by omega) | omega)) (fun k168_ => by refine (if_neg k168_).trans ?_; (first | rfl | exact eA_ix (by omega) | omega)))))) (fun k166_ => by refine (eA_neT hI523.1 ka_233 k166_ (by first | decide | omega) (by omega)).trans ?_; refine ((q537 (i) (by omega) (by omega))).trans ?_; exact (Decidable.em (10 + 3 * a1.toInt + 1 ≤ (i) ∧ (i) < 10 + 3 * a1.toInt + x521.toInt)).elim (fun k169_ => by refine (if_pos k169_).trans ?_; (first | rfl | exact eA_ix (by omega) | omega)) (fun k169_ => by refine (if_neg k169_).trans ?_; exact (Decidable.em (10 + 3 * a2.toInt + 1 ≤ (i) ∧ (i) < 10 + 3 * a2.toInt + x521.toInt)).elim (fun k170_ => by refine (if_pos k170_).trans ?_; (first | rfl | exact eA_ix (by omega) | omega)) (fun k170_ => by refine (if_neg k170_).trans ?_; (first | rfl | exact eA_ix (by omega) | omega))))))))⟩ ⟨by omega, by omega⟩
          · have c444_ : a1.toInt = a2.toInt := en_i_ne_f c444
            refine At.enter rfl ?_
            refine r_aload_n rfl ?_
            refine r_bipush (-3) rfl ?_
            refine r_callV 39 rfl [.ref 231, .int (-3)] [] (Nat.le_of_ble_eq_true rfl) rfl (T_X11_tell_231 _ hI351 (-3) (by decide)) ?_
            rintro _ _ ⟨g581, rfl, hI582, hF583, v584, rfl, hr585⟩
            refine At.sti ?_
            have hF586 := Fr.tr hF352 hF583 rfl rfl
            have zv587 : ((-3) : Int32).toInt = (-3) := rfl
            refine At.enter rfl ?_
            refine r_ireti ?_
            have x588 := HI.eqA hI582 (p := 233) (j := 0) ((((eA_c (hF583.2.1 233 (by decide))).trans (eA_c gA_sI)).trans hv354))
            obtain ⟨v589, hv589⟩ : ∃ v, eA g0 233 4 = v := ⟨_, rfl⟩
            have wv589 := HI.t4 hI0
            rw [hv589] at wv589
            have tv589 := congrArg Int32.toInt hv589
            have x590 := HI.eqA hI582 (p := 233) (j := 4) ((((eA_c (hF583.2.1 233 (by decide))).trans (eA_c gA_sI)).trans hv589))
            obtain ⟨v591, hv591⟩ : ∃ v, eA g0 233 5 = v := ⟨_, rfl⟩
            have wv591 := HI.t5 hI0
            rw [hv591] at wv591
            have tv591 := congrArg Int32.toInt hv591
            have x592 := HI.eqA hI582 (p := 233) (j := 5) ((((eA_c (hF583.2.1 233 (by decide))).trans (eA_c gA_sI)).trans hv591))
            obtain ⟨v593, hv593⟩ : ∃ v, eA g0 233 6 = v := ⟨_, rfl⟩
            have wv593 := HI.t6 hI0
            rw [hv593] at wv593
            have tv593 := congrArg Int32.toInt hv593
            have x594 := HI.eqA hI582 (p := 233) (j := 6) ((((eA_c (hF583.2.1 233 (by decide))).trans (eA_c gA_sI)).trans hv593))
            have x595 := HI.eqA hI0 (p := 233) (j := 0) (hv354)
            have x596 := HI.eqA hI0 (p := 233) (j := 0) (hv354)
            have x597 := HI.eqA hI0 (p := 233) (j := 4) (hv589)
            have x598 := HI.eqA hI0 (p := 233) (j := 5) (hv591)
            have x599 := HI.eqA hI0 (p := 233) (j := 6) (hv593)
            have x600 := HI.eqA hI0 (p := 233) (j := 0) (hv354)
            exact ⟨_, rfl, hI582, hF586, _, rfl, by omega, ⟨⟨by omega, by omega, by omega, by omega, by omega⟩, (by intro i i0 i1; refine Eq.trans ?_ (if_neg (show ¬ ((0 ≤ a1.toInt ∧ a1.toInt < (eA g0 233 0).toInt ∧ 0 ≤ a2.toInt ∧ a2.toInt < (eA g0 233 0).toInt ∧ a1.toInt ≠ a2.toInt) ∧ i = 10 + 3 * a1.toInt + 1) from by omega)).symm; refine Eq.trans ?_ (if_neg (show ¬ ((0 ≤ a1.toInt ∧ a1.toInt < (eA g0 233 0).toInt ∧ 0 ≤ a2.toInt ∧ a2.toInt < (eA g0 233 0).toInt ∧ a1.toInt ≠ a2.toInt) ∧ i = 10 + 3 * a1.toInt + 2) from by omega)).symm; refine Eq.trans ?_ (if_neg (show ¬ ((0 ≤ a1.toInt ∧ a1.toInt < (eA g0 233 0).toInt ∧ 0 ≤ a2.toInt ∧ a2.toInt < (eA g0 233 0).toInt ∧ a1.toInt ≠ a2.toInt) ∧ i = 10 + 3 * a2.toInt + 1) from by omega)).symm; refine Eq.trans ?_ (if_neg (show ¬ ((0 ≤ a1.toInt ∧ a1.toInt < (eA g0 233 0).toInt ∧ 0 ≤ a2.toInt ∧ a2.toInt < (eA g0 233 0).toInt ∧ a1.toInt ≠ a2.toInt) ∧ i = 10 + 3 * a2.toInt + 2) from by omega)).symm; refine (eA_ti (((hF583.2.1 233 (by decide)).trans (gA_sI)))).trans ?_; (first | rfl | exact eA_ix (by omega) | omega))⟩⟩

def F_X11_sign_231 : List (Nat × Nat) := [(231, 0), (231, 1)]
def A_X11_sign_231 : List Nat := [232, 233]
set_option maxRecDepth 100000 in
set_option maxHeartbeats 4000000 in
theorem T_X11_sign_231 (d : Nat) {N : Nat} {g0 : List en_E} (hI0 : HI g0) (a1 : Int32) (a2 : Int32) : Ev (d + 3) 254 [.ref 231, .int a1, .int a2] (g0, N) (fun w h' => ∃ g', h' = (g', N) ∧ HI g' ∧ Fr F_X11_sign_231 A_X11_sign_231 g0 g' ∧ ∃ r : Int32, w = some (.int r) ∧ ((-5) ≤ r.toInt ∧ r.toInt ≤ 8) ∧ ((((¬ (0 ≤ a2.toInt ∧ a2.toInt ≤ 99) → r.toInt = -1 ∧ (eA g' 233 4).toInt = (eA g0 233 4).toInt) ∧ ((0 ≤ a2.toInt ∧ a2.toInt ≤ 99) ∧ ¬ (0 ≤ a1.toInt ∧ a1.toInt < (eA g0 233 0).toInt) → r.toInt = -2 ∧ (eA g' 233 4).toInt = (eA g0 233 4).toInt) ∧ ((0 ≤ a2.toInt ∧ a2.toInt ≤ 99) ∧ (0 ≤ a1.toInt ∧ a1.toInt < (eA g0 233 0).toInt) ∧ 8 ≤ (eA g0 233 4).toInt → r.toInt = -5 ∧ (eA g' 233 4).toInt = (eA g0 233 4).toInt) ∧ ((0 ≤ a2.toInt ∧ a2.toInt ≤ 99) ∧ (0 ≤ a1.toInt ∧ a1.toInt < (eA g0 233 0).toInt) ∧ (eA g0 233 4).toInt < 8 → r.toInt = (eA g0 233 4).toInt + 1 ∧ (eA g' 233 4).toInt = (eA g0 233 4).toInt + 1)) ∧ (eA g' 233 0).toInt = (eA g0 233 0).toInt ∧ (eA g' 233 5).toInt = (eA g0 233 5).toInt ∧ (eA g' 233 6).toInt = (eA g0 233 6).toInt) ∧ (∀ i : Int, 10 ≤ i → i < 110 → (eA g' 233 (i)).toInt = if (0 ≤ a2.toInt ∧ a2.toInt ≤ 99 ∧ 0 ≤ a1.toInt ∧ a1.toInt < (eA g0 233 0).toInt ∧ (eA g0 233 4).toInt < 8) ∧ i = 94 + 2 * (eA g0 233 4).toInt + 0 then a1.toInt else if (0 ≤ a2.toInt ∧ a2.toInt ≤ 99 ∧ 0 ≤ a1.toInt ∧ a1.toInt < (eA g0 233 0).toInt ∧ (eA g0 233 4).toInt < 8) ∧ i = 94 + 2 * (eA g0 233 4).toInt + 1 then a2.toInt else (eA g0 233 (i)).toInt))) := by
  have hF0 : Fr F_X11_sign_231 A_X11_sign_231 g0 g0 := Fr.rf
  refine Ev.mk rfl rfl ⟨Nat.le_of_ble_eq_true rfl, Or.inr (q_rc hI0.1 kx_231 rfl)⟩ ?_
  show At _ none _ _ (0, [(0, .ref 231), (1, .int a1), (2, .int a2)], [], (_, _)) _
  refine At.enter rfl ?_
  refine r_aload_n rfl ?_
  refine r_iconst 0 rfl ?_
  refine q_putI (Sh.int hI0.1 kx_231 rfl) rfl ?_
  have hI135 := HI.wI0 hI0 kx_231 rfl (p := 231) (b := 0) (v := 0) rfl
  have hF136 := Fr.wI (p := 231) (b := 0) (v := 0) hF0 rfl
  refine r_iload_n rfl ?_
  refine q_i2l (fun v137 hv137 => ?_)
  refine r_lconst 0 rfl ?_
  refine r_ldc2 99 rfl ?_
  refine q_inlS 14 rfl [.long v137, .long 0, .long 99] [] (Nat.le_of_ble_eq_true rfl) rfl ?_
  refine Ev.mk rfl rfl ⟨Nat.le_of_ble_eq_true rfl, Or.inl rfl⟩ ?_
  show At _ none _ _ (0, [(0, .long v137), (2, .long 0), (4, .long 99)], [], (_, _)) _
  refine At.enter rfl ?_
  refine r_lload_n rfl ?_
  refine r_lload_n rfl ?_
  refine r_lcmp _ rfl ?_
  refine r_ifs 6 rfl (fun c138 => ?_) (fun c138 => ?_)
  · have c138_ : v137.toInt < 0 := en_j_lt_t c138
    refine At.enter rfl ?_
    refine r_iconst 0 rfl ?_
    refine Ar.fall 18 rfl ?_
    refine At.enter rfl ?_
    refine q_iretz (by decide) ?_
    refine At.enter rfl ?_
    refine r_iff 17 rfl (by decide) ?_
    refine At.enter rfl ?_
    refine r_aload_n rfl ?_
    refine r_iconst (-1) rfl ?_
    refine r_callV 22 rfl [.ref 231, .int (-1)] [] (Nat.le_of_ble_eq_true rfl) rfl (T_X11_tell_231 _ hI135 (-1) (by decide)) ?_
    rintro _ _ ⟨g139, rfl, hI140, hF141, v142, rfl, hr143⟩
    refine At.sti ?_
    have hF144 := Fr.tr hF136 hF141 rfl rfl
    have zv145 : ((-1) : Int32).toInt = (-1) := rfl
    refine At.enter rfl ?_
    refine r_ireti ?_
    obtain ⟨v146, hv146⟩ : ∃ v, eA g0 233 4 = v := ⟨_, rfl⟩
    have wv146 := HI.t4 hI0
    rw [hv146] at wv146
    have tv146 := congrArg Int32.toInt hv146
    have x147 := HI.eqA hI140 (p := 233) (j := 4) ((((eA_c (hF141.2.1 233 (by decide))).trans (eA_c gA_sI)).trans hv146))
    obtain ⟨v148, hv148⟩ : ∃ v, eA g0 233 0 = v := ⟨_, rfl⟩
    have tv148 := congrArg Int32.toInt hv148
    have wv148 := HI.t0 hI0
    rw [hv148] at wv148
    have tv148 := congrArg Int32.toInt hv148
    have x149 := HI.eqA hI140 (p := 233) (j := 0) ((((eA_c (hF141.2.1 233 (by decide))).trans (eA_c gA_sI)).trans hv148))
    obtain ⟨v150, hv150⟩ : ∃ v, eA g0 233 5 = v := ⟨_, rfl⟩
    have wv150 := HI.t5 hI0
    rw [hv150] at wv150
    have tv150 := congrArg Int32.toInt hv150
    have x151 := HI.eqA hI140 (p := 233) (j := 5) ((((eA_c (hF141.2.1 233 (by decide))).trans (eA_c gA_sI)).trans hv150))
    obtain ⟨v152, hv152⟩ : ∃ v, eA g0 233 6 = v := ⟨_, rfl⟩
    have wv152 := HI.t6 hI0
    rw [hv152] at wv152
    have tv152 := congrArg Int32.toInt hv152
    have x153 := HI.eqA hI140 (p := 233) (j := 6) ((((eA_c (hF141.2.1 233 (by decide))).trans (eA_c gA_sI)).trans hv152))
    have x154 := HI.eqA hI0 (p := 233) (j := 4) (hv146)
    have x155 := HI.eqA hI0 (p := 233) (j := 0) (hv148)
    have x156 := HI.eqA hI0 (p := 233) (j := 0) (hv148)
    have x157 := HI.eqA hI0 (p := 233) (j := 5) (hv150)
    have x158 := HI.eqA hI0 (p := 233) (j := 6) (hv152)
    have x159 := HI.eqA hI0 (p := 233) (j := 0) (hv148)
    have x160 := HI.eqA hI0 (p := 233) (j := 4) (hv146)
    exact ⟨_, rfl, hI140, hF144, _, rfl, by omega, ⟨⟨by omega, by omega, by omega, by omega⟩, (by intro i i0 i1; refine Eq.trans ?_ (if_neg (show ¬ ((0 ≤ a2.toInt ∧ a2.toInt ≤ 99 ∧ 0 ≤ a1.toInt ∧ a1.toInt < (eA g0 233 0).toInt ∧ (eA g0 233 4).toInt < 8) ∧ i = 94 + 2 * (eA g0 233 4).toInt + 0) from by omega)).symm; refine Eq.trans ?_ (if_neg (show ¬ ((0 ≤ a2.toInt ∧ a2.toInt ≤ 99 ∧ 0 ≤ a1.toInt ∧ a1.toInt < (eA g0 233 0).toInt ∧ (eA g0 233 4).toInt < 8) ∧ i = 94 + 2 * (eA g0 233 4).toInt + 1) from by omega)).symm; refine (eA_ti (((hF141.2.1 233 (by decide)).trans (gA_sI)))).trans ?_; (first | rfl | exact eA_ix (by omega) | omega))⟩⟩
  · have c138_ : v137.toInt ≥ 0 := en_j_lt_f c138
    refine At.enter rfl ?_
    refine r_lload_n rfl ?_
    refine r_lload rfl ?_
    refine r_lcmp _ rfl ?_
    refine r_ifs 13 rfl (fun c161 => ?_) (fun c161 => ?_)
    · have c161_ : v137.toInt > 99 := en_j_gt_t c161
      refine At.enter rfl ?_
      refine r_iconst 0 rfl ?_
      refine Ar.fall 18 rfl ?_
      refine At.enter rfl ?_
      refine q_iretz (by decide) ?_
      refine At.enter rfl ?_
      refine r_iff 17 rfl (by decide) ?_
      refine At.enter rfl ?_
      refine r_aload_n rfl ?_
      refine r_iconst (-1) rfl ?_
      refine r_callV 22 rfl [.ref 231, .int (-1)] [] (Nat.le_of_ble_eq_true rfl) rfl (T_X11_tell_231 _ hI135 (-1) (by decide)) ?_
      rintro _ _ ⟨g162, rfl, hI163, hF164, v165, rfl, hr166⟩
      refine At.sti ?_
      have hF167 := Fr.tr hF136 hF164 rfl rfl
      have zv168 : ((-1) : Int32).toInt = (-1) := rfl
      refine At.enter rfl ?_
      refine r_ireti ?_
      obtain ⟨v169, hv169⟩ : ∃ v, eA g0 233 4 = v := ⟨_, rfl⟩
      have wv169 := HI.t4 hI0
      rw [hv169] at wv169
      have tv169 := congrArg Int32.toInt hv169
      have x170 := HI.eqA hI163 (p := 233) (j := 4) ((((eA_c (hF164.2.1 233 (by decide))).trans (eA_c gA_sI)).trans hv169))
      obtain ⟨v171, hv171⟩ : ∃ v, eA g0 233 0 = v := ⟨_, rfl⟩
      have tv171 := congrArg Int32.toInt hv171
      have wv171 := HI.t0 hI0
      rw [hv171] at wv171
      have tv171 := congrArg Int32.toInt hv171
      have x172 := HI.eqA hI163 (p := 233) (j := 0) ((((eA_c (hF164.2.1 233 (by decide))).trans (eA_c gA_sI)).trans hv171))
      obtain ⟨v173, hv173⟩ : ∃ v, eA g0 233 5 = v := ⟨_, rfl⟩
      have wv173 := HI.t5 hI0
      rw [hv173] at wv173
      have tv173 := congrArg Int32.toInt hv173
      have x174 := HI.eqA hI163 (p := 233) (j := 5) ((((eA_c (hF164.2.1 233 (by decide))).trans (eA_c gA_sI)).trans hv173))
      obtain ⟨v175, hv175⟩ : ∃ v, eA g0 233 6 = v := ⟨_, rfl⟩
      have wv175 := HI.t6 hI0
      rw [hv175] at wv175
      have tv175 := congrArg Int32.toInt hv175
      have x176 := HI.eqA hI163 (p := 233) (j := 6) ((((eA_c (hF164.2.1 233 (by decide))).trans (eA_c gA_sI)).trans hv175))
      have x177 := HI.eqA hI0 (p := 233) (j := 4) (hv169)
      have x178 := HI.eqA hI0 (p := 233) (j := 0) (hv171)
      have x179 := HI.eqA hI0 (p := 233) (j := 0) (hv171)
      have x180 := HI.eqA hI0 (p := 233) (j := 5) (hv173)
      have x181 := HI.eqA hI0 (p := 233) (j := 6) (hv175)
      have x182 := HI.eqA hI0 (p := 233) (j := 0) (hv171)
      have x183 := HI.eqA hI0 (p := 233) (j := 4) (hv169)
      exact ⟨_, rfl, hI163, hF167, _, rfl, by omega, ⟨⟨by omega, by omega, by omega, by omega⟩, (by intro i i0 i1; refine Eq.trans ?_ (if_neg (show ¬ ((0 ≤ a2.toInt ∧ a2.toInt ≤ 99 ∧ 0 ≤ a1.toInt ∧ a1.toInt < (eA g0 233 0).toInt ∧ (eA g0 233 4).toInt < 8) ∧ i = 94 + 2 * (eA g0 233 4).toInt + 0) from by omega)).symm; refine Eq.trans ?_ (if_neg (show ¬ ((0 ≤ a2.toInt ∧ a2.toInt ≤ 99 ∧ 0 ≤ a1.toInt ∧ a1.toInt < (eA g0 233 0).toInt ∧ (eA g0 233 4).toInt < 8) ∧ i = 94 + 2 * (eA g0 233 4).toInt + 1) from by omega)).symm; refine (eA_ti (((hF164.2.1 233 (by decide)).trans (gA_sI)))).trans ?_; (first | rfl | exact eA_ix (by omega) | omega))⟩⟩
    · have c161_ : v137.toInt ≤ 99 := en_j_gt_f c161
      refine At.enter rfl ?_
      refine r_iconst 1 rfl ?_
      refine r_goto ?_
      refine At.enter rfl ?_
      refine q_iretz (by decide) ?_
      refine At.enter rfl ?_
      refine r_ift (by decide) ?_
      refine At.enter rfl ?_
      refine r_aload_n rfl ?_
      refine r_iload_n rfl ?_
      refine q_inlV 28 rfl [.ref 231, .int a1] [] (Nat.le_of_ble_eq_true rfl) rfl ?_
      refine Ev.mk rfl rfl ⟨Nat.le_of_ble_eq_true rfl, Or.inr (q_rc hI135.1 kx_231 rfl)⟩ ?_
      show At _ none _ _ (0, [(0, .ref 231), (1, .int a1)], [], (_, _)) _
      refine At.enter rfl ?_
      refine r_iload_n rfl ?_
      refine q_i2l (fun v184 hv184 => ?_)
      refine r_lconst 0 rfl ?_
      refine r_aload_n rfl ?_
      refine q_getR (Sh.ref hI135.1 kx_231 rfl) ?_
      refine r_iconst 0 rfl ?_
      obtain ⟨v185, hv185⟩ : ∃ v, eA g0 233 0 = v := ⟨_, rfl⟩
      have tv185 := congrArg Int32.toInt hv185
      have wv185 := HI.t0 hI0
      rw [hv185] at wv185
      refine q_iald (Sh.arr hI135.1 ka_233) 0 rfl (by decide) v185 ((eA_c (gA_sI)).trans hv185) ?_
      refine q_i2l (fun v186 hv186 => ?_)
      refine r_lconst 1 rfl ?_
      refine q_lsub (v186.toInt - 1) rfl (by omega) (fun v187 hv187 => ?_)
      refine q_inlS 15 rfl [.long v184, .long 0, .long v187] [] (Nat.le_of_ble_eq_true rfl) rfl ?_
      refine Ev.mk rfl rfl ⟨Nat.le_of_ble_eq_true rfl, Or.inl rfl⟩ ?_
      show At _ none _ _ (0, [(0, .long v184), (2, .long 0), (4, .long v187)], [], (_, _)) _
      refine At.enter rfl ?_
      refine r_lload_n rfl ?_
      refine r_lload_n rfl ?_
      refine r_lcmp _ rfl ?_
      refine r_ifs 6 rfl (fun c188 => ?_) (fun c188 => ?_)
      · have c188_ : v184.toInt < 0 := en_j_lt_t c188
        refine At.enter rfl ?_
        refine r_iconst 0 rfl ?_
        refine Ar.fall 18 rfl ?_
        refine At.enter rfl ?_
        refine q_iretz (by decide) ?_
        refine At.enter rfl ?_
        refine q_iretz (by decide) ?_
        refine At.enter rfl ?_
        refine r_iff 31 rfl (by decide) ?_
        refine At.enter rfl ?_
        refine r_aload_n rfl ?_
        refine r_bipush (-2) rfl ?_
        refine r_callV 37 rfl [.ref 231, .int (-2)] [] (Nat.le_of_ble_eq_true rfl) rfl (T_X11_tell_231 _ hI135 (-2) (by decide)) ?_
        rintro _ _ ⟨g189, rfl, hI190, hF191, v192, rfl, hr193⟩
        refine At.sti ?_
        have hF194 := Fr.tr hF136 hF191 rfl rfl
        have zv195 : ((-2) : Int32).toInt = (-2) := rfl
        refine At.enter rfl ?_
        refine r_ireti ?_
        obtain ⟨v196, hv196⟩ : ∃ v, eA g0 233 4 = v := ⟨_, rfl⟩
        have wv196 := HI.t4 hI0
        rw [hv196] at wv196
        have tv196 := congrArg Int32.toInt hv196
        have x197 := HI.eqA hI190 (p := 233) (j := 4) ((((eA_c (hF191.2.1 233 (by decide))).trans (eA_c gA_sI)).trans hv196))
        have x198 := HI.eqA hI190 (p := 233) (j := 0) ((((eA_c (hF191.2.1 233 (by decide))).trans (eA_c gA_sI)).trans hv185))
        obtain ⟨v199, hv199⟩ : ∃ v, eA g0 233 5 = v := ⟨_, rfl⟩
        have wv199 := HI.t5 hI0
        rw [hv199] at wv199
        have tv199 := congrArg Int32.toInt hv199
        have x200 := HI.eqA hI190 (p := 233) (j := 5) ((((eA_c (hF191.2.1 233 (by decide))).trans (eA_c gA_sI)).trans hv199))
        obtain ⟨v201, hv201⟩ : ∃ v, eA g0 233 6 = v := ⟨_, rfl⟩
        have wv201 := HI.t6 hI0
        rw [hv201] at wv201
        have tv201 := congrArg Int32.toInt hv201
        have x202 := HI.eqA hI190 (p := 233) (j := 6) ((((eA_c (hF191.2.1 233 (by decide))).trans (eA_c gA_sI)).trans hv201))
        have x203 := HI.eqA hI0 (p := 233) (j := 4) (hv196)
        have x204 := HI.eqA hI0 (p := 233) (j := 0) (hv185)
        have x205 := HI.eqA hI0 (p := 233) (j := 0) (hv185)
        have x206 := HI.eqA hI0 (p := 233) (j := 5) (hv199)
        have x207 := HI.eqA hI0 (p := 233) (j := 6) (hv201)
        have x208 := HI.eqA hI0 (p := 233) (j := 0) (hv185)
        have x209 := HI.eqA hI0 (p := 233) (j := 4) (hv196)
        exact ⟨_, rfl, hI190, hF194, _, rfl, by omega, ⟨⟨by omega, by omega, by omega, by omega⟩, (by intro i i0 i1; refine Eq.trans ?_ (if_neg (show ¬ ((0 ≤ a2.toInt ∧ a2.toInt ≤ 99 ∧ 0 ≤ a1.toInt ∧ a1.toInt < (eA g0 233 0).toInt ∧ (eA g0 233 4).toInt < 8) ∧ i = 94 + 2 * (eA g0 233 4).toInt + 0) from by omega)).symm; refine Eq.trans ?_ (if_neg (show ¬ ((0 ≤ a2.toInt ∧ a2.toInt ≤ 99 ∧ 0 ≤ a1.toInt ∧ a1.toInt < (eA g0 233 0).toInt ∧ (eA g0 233 4).toInt < 8) ∧ i = 94 + 2 * (eA g0 233 4).toInt + 1) from by omega)).symm; refine (eA_ti (((hF191.2.1 233 (by decide)).trans (gA_sI)))).trans ?_; (first | rfl | exact eA_ix (by omega) | omega))⟩⟩
      · have c188_ : v184.toInt ≥ 0 := en_j_lt_f c188
        refine At.enter rfl ?_
        refine r_lload_n rfl ?_
        refine r_lload rfl ?_
        refine r_lcmp _ rfl ?_
        refine r_ifs 13 rfl (fun c210 => ?_) (fun c210 => ?_)
        · have c210_ : v184.toInt > v187.toInt := en_j_gt_t c210
          refine At.enter rfl ?_
          refine r_iconst 0 rfl ?_
          refine Ar.fall 18 rfl ?_
          refine At.enter rfl ?_
          refine q_iretz (by decide) ?_
          refine At.enter rfl ?_
          refine q_iretz (by decide) ?_
          refine At.enter rfl ?_
          refine r_iff 31 rfl (by decide) ?_
          refine At.enter rfl ?_
          refine r_aload_n rfl ?_
          refine r_bipush (-2) rfl ?_
          refine r_callV 37 rfl [.ref 231, .int (-2)] [] (Nat.le_of_ble_eq_true rfl) rfl (T_X11_tell_231 _ hI135 (-2) (by decide)) ?_
          rintro _ _ ⟨g211, rfl, hI212, hF213, v214, rfl, hr215⟩
          refine At.sti ?_
          have hF216 := Fr.tr hF136 hF213 rfl rfl
          have zv217 : ((-2) : Int32).toInt = (-2) := rfl
          refine At.enter rfl ?_
          refine r_ireti ?_
          obtain ⟨v218, hv218⟩ : ∃ v, eA g0 233 4 = v := ⟨_, rfl⟩
          have wv218 := HI.t4 hI0
          rw [hv218] at wv218
          have tv218 := congrArg Int32.toInt hv218
          have x219 := HI.eqA hI212 (p := 233) (j := 4) ((((eA_c (hF213.2.1 233 (by decide))).trans (eA_c gA_sI)).trans hv218))
          have x220 := HI.eqA hI212 (p := 233) (j := 0) ((((eA_c (hF213.2.1 233 (by decide))).trans (eA_c gA_sI)).trans hv185))
          obtain ⟨v221, hv221⟩ : ∃ v, eA g0 233 5 = v := ⟨_, rfl⟩
          have wv221 := HI.t5 hI0
          rw [hv221] at wv221
          have tv221 := congrArg Int32.toInt hv221
          have x222 := HI.eqA hI212 (p := 233) (j := 5) ((((eA_c (hF213.2.1 233 (by decide))).trans (eA_c gA_sI)).trans hv221))
          obtain ⟨v223, hv223⟩ : ∃ v, eA g0 233 6 = v := ⟨_, rfl⟩
          have wv223 := HI.t6 hI0
          rw [hv223] at wv223
          have tv223 := congrArg Int32.toInt hv223
          have x224 := HI.eqA hI212 (p := 233) (j := 6) ((((eA_c (hF213.2.1 233 (by decide))).trans (eA_c gA_sI)).trans hv223))
          have x225 := HI.eqA hI0 (p := 233) (j := 4) (hv218)
          have x226 := HI.eqA hI0 (p := 233) (j := 0) (hv185)
          have x227 := HI.eqA hI0 (p := 233) (j := 0) (hv185)
          have x228 := HI.eqA hI0 (p := 233) (j := 5) (hv221)
          have x229 := HI.eqA hI0 (p := 233) (j := 6) (hv223)
          have x230 := HI.eqA hI0 (p := 233) (j := 0) (hv185)
          have x231 := HI.eqA hI0 (p := 233) (j := 4) (hv218)
          exact ⟨_, rfl, hI212, hF216, _, rfl, by omega, ⟨⟨by omega, by omega, by omega, by omega⟩, (by intro i i0 i1; refine Eq.trans ?_ (if_neg (show ¬ ((0 ≤ a2.toInt ∧ a2.toInt ≤ 99 ∧ 0 ≤ a1.toInt ∧ a1.toInt < (eA g0 233 0).toInt ∧ (eA g0 233 4).toInt < 8) ∧ i = 94 + 2 * (eA g0 233 4).toInt + 0) from by omega)).symm; refine Eq.trans ?_ (if_neg (show ¬ ((0 ≤ a2.toInt ∧ a2.toInt ≤ 99 ∧ 0 ≤ a1.toInt ∧ a1.toInt < (eA g0 233 0).toInt ∧ (eA g0 233 4).toInt < 8) ∧ i = 94 + 2 * (eA g0 233 4).toInt + 1) from by omega)).symm; refine (eA_ti (((hF213.2.1 233 (by decide)).trans (gA_sI)))).trans ?_; (first | rfl | exact eA_ix (by omega) | omega))⟩⟩
        · have c210_ : v184.toInt ≤ v187.toInt := en_j_gt_f c210
          refine At.enter rfl ?_
          refine r_iconst 1 rfl ?_
          refine r_goto ?_
          refine At.enter rfl ?_
          refine q_iretz (by decide) ?_
          refine At.enter rfl ?_
          refine q_iretz (by decide) ?_
          refine At.enter rfl ?_
          refine r_ift (by decide) ?_
          refine At.enter rfl ?_
          refine r_aload_n rfl ?_
          refine q_getR (Sh.ref hI135.1 kx_231 rfl) ?_
          refine r_iconst 4 rfl ?_
          obtain ⟨v232, hv232⟩ : ∃ v, eA g0 233 4 = v := ⟨_, rfl⟩
          have wv232 := HI.t4 hI0
          rw [hv232] at wv232
          refine q_iald (Sh.arr hI135.1 ka_233) 4 rfl (by decide) v232 ((eA_c (gA_sI)).trans hv232) ?_
          refine r_istore_n ([(3, .int v232), (0, .ref 231), (1, .int a1), (2, .int a2)]) rfl ?_
          refine r_iload_n rfl ?_
          refine r_bipush 8 rfl ?_
          refine r_ics 51 rfl (fun c233 => ?_) (fun c233 => ?_)
          · have c233_ : v232.toInt ≠ 8 := en_i_ne_t c233
            refine At.enter rfl ?_
            refine r_aload_n rfl ?_
            refine q_getR (Sh.ref hI135.1 kx_231 rfl) ?_
            refine r_bipush 94 rfl ?_
            refine r_iconst 2 rfl ?_
            refine r_iload_n rfl ?_
            refine q_imul (2 * v232.toInt) rfl (by omega) (fun v234 hv234 => ?_)
            refine q_iadd (94 + v234.toInt) rfl (by omega) (fun v235 hv235 => ?_)
            refine r_iload_n rfl ?_
            refine q_iast (Sh.arr hI135.1 ka_233) ((2 * v232.toInt + 94)) (by omega) (by omega) ?_
            have hI236 := HI.wg hI135 (j := (2 * v232.toInt + 94)) (v := a1) (v232.toInt) 0 (by omega) (by decide) (by omega) (by omega)
            have hF237 := Fr.wA (p := 233) (j := (2 * v232.toInt + 94)) (v := a1) hF136 rfl
            refine r_aload_n rfl ?_
            refine q_getR (Sh.ref hI236.1 kx_231 rfl) ?_
            refine r_bipush 94 rfl ?_
            refine r_iconst 2 rfl ?_
            refine r_iload_n rfl ?_
            refine q_imul (2 * v232.toInt) rfl (by omega) (fun v238 hv238 => ?_)
            refine q_iadd (94 + v238.toInt) rfl (by omega) (fun v239 hv239 => ?_)
            refine r_iconst 1 rfl ?_
            refine q_iadd (v239.toInt + 1) rfl (by omega) (fun v240 hv240 => ?_)
            refine r_iload_n rfl ?_
            refine q_iast (Sh.arr hI236.1 ka_233) ((2 * v232.toInt + 95)) (by omega) (by omega) ?_
            have hI241 := HI.wg hI236 (j := (2 * v232.toInt + 95)) (v := a2) (v232.toInt) 1 (by omega) (by decide) (by omega) (by omega)
            have hF242 := Fr.wA (p := 233) (j := (2 * v232.toInt + 95)) (v := a2) hF237 rfl
            refine r_aload_n rfl ?_
            refine q_getR (Sh.ref hI241.1 kx_231 rfl) ?_
            refine r_iconst 4 rfl ?_
            refine r_dup2 ⟨rfl, rfl⟩ ?_
            refine q_iald (Sh.arr hI241.1 ka_233) 4 rfl (by decide) v232 (((eA_sA_ne hI236.1 ka_233 (by first | decide | omega) (by first | decide | omega) (by first | decide | omega)).trans ((eA_sA_ne hI135.1 ka_233 (by first | decide | omega) (by first | decide | omega) (by first | decide | omega)).trans (eA_c gA_sI))).trans hv232) ?_
            refine r_iconst 1 rfl ?_
            refine q_iadd (v232.toInt + 1) rfl (by omega) (fun v243 hv243 => ?_)
            refine q_iast (Sh.arr hI241.1 ka_233) (4) rfl (by decide) ?_
            have hI244 := HI.wt hI241 (j := 4) (v := v243) (by omega) (by omega)
            have hF245 := Fr.wA (p := 233) (j := 4) (v := v243) hF242 rfl
            refine r_aload_n rfl ?_
            refine r_iload_n rfl ?_
            refine r_iconst 1 rfl ?_
            refine q_iadd (v232.toInt + 1) rfl (by omega) (fun v246 hv246 => ?_)
            refine r_callV 101 rfl [.ref 231, .int v246] [] (Nat.le_of_ble_eq_true rfl) rfl (T_X11_tell_231 _ hI244 v246 (by omega)) ?_
            rintro _ _ ⟨g247, rfl, hI248, hF249, v250, rfl, hr251⟩
            refine At.sti ?_
            have hF252 := Fr.tr hF245 hF249 rfl rfl
            refine At.enter rfl ?_
            refine r_ireti ?_
            have x253 := HI.eqA hI248 (p := 233) (j := 4) (((eA_c (hF249.2.1 233 (by decide))).trans (eA_sA_eq hI241.1 ka_233 (by first | rfl | omega) (by first | decide | omega) (by first | decide | omega))))
            have x254 := HI.eqA hI248 (p := 233) (j := 0) ((((eA_c (hF249.2.1 233 (by decide))).trans ((eA_sA_ne hI241.1 ka_233 (by first | decide | omega) (by first | decide | omega) (by first | decide | omega)).trans ((eA_sA_ne hI236.1 ka_233 (by first | decide | omega) (by first | decide | omega) (by first | decide | omega)).trans ((eA_sA_ne hI135.1 ka_233 (by first | decide | omega) (by first | decide | omega) (by first | decide | omega)).trans (eA_c gA_sI))))).trans hv185))
            obtain ⟨v255, hv255⟩ : ∃ v, eA g0 233 5 = v := ⟨_, rfl⟩
            have wv255 := HI.t5 hI0
            rw [hv255] at wv255
            have tv255 := congrArg Int32.toInt hv255
            have x256 := HI.eqA hI248 (p := 233) (j := 5) ((((eA_c (hF249.2.1 233 (by decide))).trans ((eA_sA_ne hI241.1 ka_233 (by first | decide | omega) (by first | decide | omega) (by first | decide | omega)).trans ((eA_sA_ne hI236.1 ka_233 (by first | decide | omega) (by first | decide | omega) (by first | decide | omega)).trans ((eA_sA_ne hI135.1 ka_233 (by first | decide | omega) (by first | decide | omega) (by first | decide | omega)).trans (eA_c gA_sI))))).trans hv255))
            obtain ⟨v257, hv257⟩ : ∃ v, eA g0 233 6 = v := ⟨_, rfl⟩
            have wv257 := HI.t6 hI0
            rw [hv257] at wv257
            have tv257 := congrArg Int32.toInt hv257
            have x258 := HI.eqA hI248 (p := 233) (j := 6) ((((eA_c (hF249.2.1 233 (by decide))).trans ((eA_sA_ne hI241.1 ka_233 (by first | decide | omega) (by first | decide | omega) (by first | decide | omega)).trans ((eA_sA_ne hI236.1 ka_233 (by first | decide | omega) (by first | decide | omega) (by first | decide | omega)).trans ((eA_sA_ne hI135.1 ka_233 (by first | decide | omega) (by first | decide | omega) (by first | decide | omega)).trans (eA_c gA_sI))))).trans hv257))
            have x259 := HI.eqA hI0 (p := 233) (j := 4) (hv232)
            have x260 := HI.eqA hI0 (p := 233) (j := 0) (hv185)
            have x261 := HI.eqA hI0 (p := 233) (j := 0) (hv185)
            have x262 := HI.eqA hI0 (p := 233) (j := 5) (hv255)
            have x263 := HI.eqA hI0 (p := 233) (j := 6) (hv257)
            have x264 := HI.eqA hI0 (p := 233) (j := 0) (hv185)
            have x265 := HI.eqA hI0 (p := 233) (j := 4) (hv232)
            exact ⟨_, rfl, hI248, hF252, _, rfl, by omega, ⟨⟨by omega, by omega, by omega, by omega⟩, (by intro i i0 i1; exact (Decidable.em ((0 ≤ a2.toInt ∧ a2.toInt ≤ 99 ∧ 0 ≤ a1.toInt ∧ a1.toInt < (eA g0 233 0).toInt ∧ (eA g0 233 4).toInt < 8) ∧ i = 94 + 2 * (eA g0 233 4).toInt + 0)).elim (fun k171_ => by refine Eq.trans ?_ (if_pos k171_).symm; refine (eA_ti ((hF249.2.1 233 (by decide)))).trans ?_; exact (Decidable.em (i = 4)).elim (fun k172_ => by refine (eA_eqT hI241.1 ka_233 k172_ (by first | decide | omega) (by first | decide | omega)).trans ?_; (first | (rfl) | (omega))) (fun k172_ => by refine (eA_neT hI241.1 ka_233 k172_ (by first | decide | omega) (by omega)).trans ?_; exact (Decidable.em (i = (2 * v232.toInt + 95))).elim (fun k173_ => by refine (eA_eqT hI236.1 ka_233 k173_ (by first | decide | omega) (by first | decide | omega)).trans ?_; (first | (rfl) | (omega))) (fun k173_ => by refine (eA_neT hI236.1 ka_233 k173_ (by first | decide | omega) (by omega)).trans ?_; exact (Decidable.em (i = (2 * v232.toInt + 94))).elim (fun k174_ => by refine (eA_eqT hI135.1 ka_233 k174_ (by first | decide | omega) (by first | decide | omega)).trans ?_; (first | (rfl) | (omega))) (fun k174_ => by refine (eA_neT hI135.1 ka_233 k174_ (by first | decide | omega) (by omega)).trans ?_; refine (eA_ti ((gA_sI))).trans ?_; (first | rfl | exact eA_ix (by omega) | omega))))) (fun k171_ => by refine Eq.trans ?_ (if_neg k171_).symm; exact (Decidable.em ((0 ≤ a2.toInt ∧ a2.toInt ≤ 99 ∧ 0 ≤ a1.toInt ∧ a1.toInt < (eA g0 233 0).toInt ∧ (eA g0 233 4).toInt < 8) ∧ i = 94 + 2 * (eA g0 233 4).toInt + 1)).elim (fun k175_ => by refine Eq.trans ?_ (if_pos k175_).symm; refine (eA_ti ((hF249.2.1 233 (by decide)))).trans ?_; exact (Decidable.em (i = 4)).elim (fun k176_ => by refine (eA_eqT hI241.1 ka_233 k176_ (by first | decide | omega) (by first | decide | omega)).trans ?_; (first | (rfl) | (omega))) (fun k176_ => by refine (eA_neT hI241.1 ka_233 k176_ (by first | decide | omega) (by omega)).trans ?_; exact (Decidable.em (i = (2 * v232.toInt + 95))).elim (fun k177_ => by refine (eA_eqT hI236.1 ka_233 k177_ (by first | decide | omega) (by first | decide | omega)).trans ?_; (first | (rfl) | (omega))) (fun k177_ => by refine (eA_neT hI236.1 ka_233 k177_ (by first | decide | omega) (by omega)).trans ?_; exact (Decidable.em (i = (2 * v232.toInt + 94))).elim (fun k178_ => by refine (eA_eqT hI135.1 ka_233 k178_ (by first | decide | omega) (by first | decide | omega)).trans ?_; (first | (rfl) | (omega))) (fun k178_ => by refine (eA_neT hI135.1 ka_233 k178_ (by first | decide | omega) (by omega)).trans ?_; refine (eA_ti ((gA_sI))).trans ?_; (first | rfl | exact eA_ix (by omega) | omega))))) (fun k175_ => by refine Eq.trans ?_ (if_neg k175_).symm; refine (eA_ti ((hF249.2.1 233 (by decide)))).trans ?_; exact (Decidable.em (i = 4)).elim (fun k179_ => by refine (eA_eqT hI241.1 ka_233 k179_ (by first | decide | omega) (by first | decide | omega)).trans ?_; (first | (rfl) | (omega))) (fun k179_ => by refine (eA_neT hI241.1 ka_233 k179_ (by first | decide | omega) (by omega)).trans ?_; exact (Decidable.em (i = (2 * v232.toInt + 95))).elim (fun k180_ => by refine (eA_eqT hI236.1 ka_233 k180_ (by first | decide | omega) (by first | decide | omega)).trans ?_; (first | (rfl) | (omega))) (fun k180_ => by refine (eA_neT hI236.1 ka_233 k180_ (by first | decide | omega) (by omega)).trans ?_; exact (Decidable.em (i = (2 * v232.toInt + 94))).elim (fun k181_ => by refine (eA_eqT hI135.1 ka_233 k181_ (by first | decide | omega) (by first | decide | omega)).trans ?_; (first | (rfl) | (omega))) (fun k181_ => by refine (eA_neT hI135.1 ka_233 k181_ (by first | decide | omega) (by omega)).trans ?_; refine (eA_ti ((gA_sI))).trans ?_; (first | rfl | exact eA_ix (by omega) | omega)))))))⟩⟩
          · have c233_ : v232.toInt = 8 := en_i_ne_f c233
            refine At.enter rfl ?_
            refine r_aload_n rfl ?_
            refine r_bipush (-5) rfl ?_
            refine r_callV 57 rfl [.ref 231, .int (-5)] [] (Nat.le_of_ble_eq_true rfl) rfl (T_X11_tell_231 _ hI135 (-5) (by decide)) ?_
            rintro _ _ ⟨g266, rfl, hI267, hF268, v269, rfl, hr270⟩
            refine At.sti ?_
            have hF271 := Fr.tr hF136 hF268 rfl rfl
            have zv272 : ((-5) : Int32).toInt = (-5) := rfl
            refine At.enter rfl ?_
            refine r_ireti ?_
            have x273 := HI.eqA hI267 (p := 233) (j := 4) ((((eA_c (hF268.2.1 233 (by decide))).trans (eA_c gA_sI)).trans hv232))
            have x274 := HI.eqA hI267 (p := 233) (j := 0) ((((eA_c (hF268.2.1 233 (by decide))).trans (eA_c gA_sI)).trans hv185))
            obtain ⟨v275, hv275⟩ : ∃ v, eA g0 233 5 = v := ⟨_, rfl⟩
            have wv275 := HI.t5 hI0
            rw [hv275] at wv275
            have tv275 := congrArg Int32.toInt hv275
            have x276 := HI.eqA hI267 (p := 233) (j := 5) ((((eA_c (hF268.2.1 233 (by decide))).trans (eA_c gA_sI)).trans hv275))
            obtain ⟨v277, hv277⟩ : ∃ v, eA g0 233 6 = v := ⟨_, rfl⟩
            have wv277 := HI.t6 hI0
            rw [hv277] at wv277
            have tv277 := congrArg Int32.toInt hv277
            have x278 := HI.eqA hI267 (p := 233) (j := 6) ((((eA_c (hF268.2.1 233 (by decide))).trans (eA_c gA_sI)).trans hv277))
            have x279 := HI.eqA hI0 (p := 233) (j := 4) (hv232)
            have x280 := HI.eqA hI0 (p := 233) (j := 0) (hv185)
            have x281 := HI.eqA hI0 (p := 233) (j := 0) (hv185)
            have x282 := HI.eqA hI0 (p := 233) (j := 5) (hv275)
            have x283 := HI.eqA hI0 (p := 233) (j := 6) (hv277)
            have x284 := HI.eqA hI0 (p := 233) (j := 0) (hv185)
            have x285 := HI.eqA hI0 (p := 233) (j := 4) (hv232)
            exact ⟨_, rfl, hI267, hF271, _, rfl, by omega, ⟨⟨by omega, by omega, by omega, by omega⟩, (by intro i i0 i1; refine Eq.trans ?_ (if_neg (show ¬ ((0 ≤ a2.toInt ∧ a2.toInt ≤ 99 ∧ 0 ≤ a1.toInt ∧ a1.toInt < (eA g0 233 0).toInt ∧ (eA g0 233 4).toInt < 8) ∧ i = 94 + 2 * (eA g0 233 4).toInt + 0) from by omega)).symm; refine Eq.trans ?_ (if_neg (show ¬ ((0 ≤ a2.toInt ∧ a2.toInt ≤ 99 ∧ 0 ≤ a1.toInt ∧ a1.toInt < (eA g0 233 0).toInt ∧ (eA g0 233 4).toInt < 8) ∧ i = 94 + 2 * (eA g0 233 4).toInt + 1) from by omega)).symm; refine (eA_ti (((hF268.2.1 233 (by decide)).trans (gA_sI)))).trans ?_; (first | rfl | exact eA_ix (by omega) | omega))⟩⟩

def F_X11_clear_231 : List (Nat × Nat) := [(231, 0)]
def A_X11_clear_231 : List Nat := [233]
set_option maxRecDepth 100000 in
set_option maxHeartbeats 4000000 in
theorem T_X11_clear_231 (d : Nat) {N : Nat} {g0 : List en_E} (hI0 : HI g0) : Ev (d + 1) 255 [.ref 231] (g0, N) (fun w h' => ∃ g', h' = (g', N) ∧ HI g' ∧ Fr F_X11_clear_231 A_X11_clear_231 g0 g' ∧ ∃ r : Int32, w = some (.int r) ∧ (0 ≤ r.toInt ∧ r.toInt ≤ 8) ∧ (((r.toInt = (eA g0 233 4).toInt ∧ (eA g' 233 4).toInt = 0) ∧ (eA g' 233 0).toInt = (eA g0 233 0).toInt ∧ (eA g' 233 5).toInt = (eA g0 233 5).toInt ∧ (eA g' 233 6).toInt = (eA g0 233 6).toInt) ∧ (∀ i : Int, 10 ≤ i → i < 110 → (eA g' 233 (i)).toInt = (eA g0 233 (i)).toInt))) := by
  have hF0 : Fr F_X11_clear_231 A_X11_clear_231 g0 g0 := Fr.rf
  refine Ev.mk rfl rfl ⟨Nat.le_of_ble_eq_true rfl, Or.inr (q_rc hI0.1 kx_231 rfl)⟩ ?_
  show At _ none _ _ (0, [(0, .ref 231)], [], (_, _)) _
  refine At.enter rfl ?_
  refine r_aload_n rfl ?_
  refine r_iconst 0 rfl ?_
  refine q_putI (Sh.int hI0.1 kx_231 rfl) rfl ?_
  have hI13 := HI.wI0 hI0 kx_231 rfl (p := 231) (b := 0) (v := 0) rfl
  have hF14 := Fr.wI (p := 231) (b := 0) (v := 0) hF0 rfl
  refine r_aload_n rfl ?_
  refine q_getR (Sh.ref hI13.1 kx_231 rfl) ?_
  refine r_iconst 4 rfl ?_
  obtain ⟨v15, hv15⟩ : ∃ v, eA g0 233 4 = v := ⟨_, rfl⟩
  have wv15 := HI.t4 hI0
  rw [hv15] at wv15
  refine q_iald (Sh.arr hI13.1 ka_233) 4 rfl (by decide) v15 ((eA_c (gA_sI)).trans hv15) ?_
  refine r_istore_n ([(1, .int v15), (0, .ref 231)]) rfl ?_
  refine r_aload_n rfl ?_
  refine q_getR (Sh.ref hI13.1 kx_231 rfl) ?_
  refine r_iconst 4 rfl ?_
  refine r_iconst 0 rfl ?_
  refine q_iast (Sh.arr hI13.1 ka_233) (4) rfl (by decide) ?_
  have zv18 : (0 : Int32).toInt = 0 := rfl
  have hI16 := HI.wt hI13 (j := 4) (v := 0) (by omega) (by omega)
  have hF17 := Fr.wA (p := 233) (j := 4) (v := 0) hF14 rfl
  refine r_iload_n rfl ?_
  refine r_ireti ?_
  have x19 := HI.eqA hI16 (p := 233) (j := 4) ((eA_sA_eq hI13.1 ka_233 (by first | rfl | omega) (by first | decide | omega) (by first | decide | omega)))
  have zv20 : (0 : Int32).toInt = 0 := rfl
  obtain ⟨v21, hv21⟩ : ∃ v, eA g0 233 0 = v := ⟨_, rfl⟩
  have tv21 := congrArg Int32.toInt hv21
  have wv21 := HI.t0 hI0
  rw [hv21] at wv21
  have tv21 := congrArg Int32.toInt hv21
  have x22 := HI.eqA hI16 (p := 233) (j := 0) ((((eA_sA_ne hI13.1 ka_233 (by first | decide | omega) (by first | decide | omega) (by first | decide | omega)).trans (eA_c gA_sI)).trans hv21))
  obtain ⟨v23, hv23⟩ : ∃ v, eA g0 233 5 = v := ⟨_, rfl⟩
  have wv23 := HI.t5 hI0
  rw [hv23] at wv23
  have tv23 := congrArg Int32.toInt hv23
  have x24 := HI.eqA hI16 (p := 233) (j := 5) ((((eA_sA_ne hI13.1 ka_233 (by first | decide | omega) (by first | decide | omega) (by first | decide | omega)).trans (eA_c gA_sI)).trans hv23))
  obtain ⟨v25, hv25⟩ : ∃ v, eA g0 233 6 = v := ⟨_, rfl⟩
  have wv25 := HI.t6 hI0
  rw [hv25] at wv25
  have tv25 := congrArg Int32.toInt hv25
  have x26 := HI.eqA hI16 (p := 233) (j := 6) ((((eA_sA_ne hI13.1 ka_233 (by first | decide | omega) (by first | decide | omega) (by first | decide | omega)).trans (eA_c gA_sI)).trans hv25))
  have x27 := HI.eqA hI0 (p := 233) (j := 4) (hv15)
  have x28 := HI.eqA hI0 (p := 233) (j := 0) (hv21)
  have x29 := HI.eqA hI0 (p := 233) (j := 5) (hv23)
  have x30 := HI.eqA hI0 (p := 233) (j := 6) (hv25)
  exact ⟨_, rfl, hI16, hF17, _, rfl, by omega, ⟨⟨by omega, by omega, by omega, by omega⟩, (by intro i i0 i1; exact (Decidable.em (i = 4)).elim (fun k182_ => by refine (eA_eqT hI13.1 ka_233 k182_ (by first | decide | omega) (by first | decide | omega)).trans ?_; (first | rfl | exact eA_ix (by omega) | omega)) (fun k182_ => by refine (eA_neT hI13.1 ka_233 k182_ (by first | decide | omega) (by omega)).trans ?_; refine (eA_ti ((gA_sI))).trans ?_; (first | rfl | exact eA_ix (by omega) | omega)))⟩⟩
