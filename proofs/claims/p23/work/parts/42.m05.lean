def F_X11_drop_231 : List (Nat × Nat) := [(231, 0), (231, 1)]
def A_X11_drop_231 : List Nat := [232, 233]
set_option maxRecDepth 100000 in
set_option maxHeartbeats 4000000 in
theorem T_X11_drop_231 (d : Nat) {N : Nat} {g0 : List en_E} (hI0 : HI g0) (a1 : Int32) : Ev (d + 3) 180 [.ref 231, .int a1] (g0, N) (fun w h' => ∃ g', h' = (g', N) ∧ HI g' ∧ Fr F_X11_drop_231 A_X11_drop_231 g0 g' ∧ ∃ r : Int32, w = some (.int r) ∧ ((-2) ≤ r.toInt ∧ r.toInt ≤ 7) ∧ ((eA g' 233 0).toInt = (eA g0 233 0).toInt ∧ (eA g' 233 4).toInt = (eA g0 233 4).toInt ∧ (eA g' 233 5).toInt = (eA g0 233 5).toInt ∧ (eA g' 233 6).toInt = (eA g0 233 6).toInt)) := by
  have hF0 : Fr F_X11_drop_231 A_X11_drop_231 g0 g0 := Fr.rf
  refine Ev.mk rfl rfl ⟨Nat.le_of_ble_eq_true rfl, Or.inr (q_rc hI0.1 kx_231 rfl)⟩ ?_
  show At _ none _ _ (0, [(0, .ref 231), (1, .int a1)], [], (_, _)) _
  refine At.enter rfl ?_
  refine r_aload_n rfl ?_
  refine r_iconst 0 rfl ?_
  refine q_putI (Sh.int hI0.1 kx_231 rfl) rfl ?_
  have hI177 := HI.wI0 hI0 kx_231 rfl (p := 231) (b := 0) (v := 0) rfl
  have hF178 := Fr.wI (p := 231) (b := 0) (v := 0) hF0 rfl
  refine r_aload_n rfl ?_
  refine r_iload_n rfl ?_
  refine q_inlV 10 rfl [.ref 231, .int a1] [] (Nat.le_of_ble_eq_true rfl) rfl ?_
  refine Ev.mk rfl rfl ⟨Nat.le_of_ble_eq_true rfl, Or.inr (q_rc hI177.1 kx_231 rfl)⟩ ?_
  show At _ none _ _ (0, [(0, .ref 231), (1, .int a1)], [], (_, _)) _
  refine At.enter rfl ?_
  refine r_iload_n rfl ?_
  refine q_i2l (fun v179 hv179 => ?_)
  refine r_lconst 0 rfl ?_
  refine r_aload_n rfl ?_
  refine q_getR (Sh.ref hI177.1 kx_231 rfl) ?_
  refine r_iconst 1 rfl ?_
  obtain ⟨v180, hv180⟩ : ∃ v, eA g0 233 1 = v := ⟨_, rfl⟩
  have tv180 := congrArg Int32.toInt hv180
  have wv180 := HI.t1 hI0
  rw [hv180] at wv180
  refine q_iald (Sh.arr hI177.1 ka_233) 1 rfl (by decide) v180 ((eA_c (gA_sI)).trans hv180) ?_
  refine q_i2l (fun v181 hv181 => ?_)
  refine r_lconst 1 rfl ?_
  refine q_lsub (v181.toInt - 1) rfl (by omega) (fun v182 hv182 => ?_)
  refine q_inlS 15 rfl [.long v179, .long 0, .long v182] [] (Nat.le_of_ble_eq_true rfl) rfl ?_
  refine Ev.mk rfl rfl ⟨Nat.le_of_ble_eq_true rfl, Or.inl rfl⟩ ?_
  show At _ none _ _ (0, [(0, .long v179), (2, .long 0), (4, .long v182)], [], (_, _)) _
  refine At.enter rfl ?_
  refine r_lload_n rfl ?_
  refine r_lload_n rfl ?_
  refine r_lcmp _ rfl ?_
  refine r_ifs 6 rfl (fun c183 => ?_) (fun c183 => ?_)
  · have c183_ : v179.toInt < 0 := en_j_lt_t c183
    refine At.enter rfl ?_
    refine r_iconst 0 rfl ?_
    refine Ar.fall 18 rfl ?_
    refine At.enter rfl ?_
    refine q_iretz (by decide) ?_
    refine At.enter rfl ?_
    refine q_iretz (by decide) ?_
    refine At.enter rfl ?_
    refine r_iff 13 rfl (by decide) ?_
    refine At.enter rfl ?_
    refine r_aload_n rfl ?_
    refine r_bipush (-2) rfl ?_
    refine r_callV 19 rfl [.ref 231, .int (-2)] [] (Nat.le_of_ble_eq_true rfl) rfl (T_X11_tell_231 _ hI177 (-2) (by decide)) ?_
    rintro _ _ ⟨g184, rfl, hI185, hF186, v187, rfl, hr188⟩
    refine At.sti ?_
    have hF189 := Fr.tr hF178 hF186 rfl rfl
    have zv190 : ((-2) : Int32).toInt = (-2) := rfl
    refine At.enter rfl ?_
    refine r_ireti ?_
    obtain ⟨v191, hv191⟩ : ∃ v, eA g0 233 0 = v := ⟨_, rfl⟩
    have tv191 := congrArg Int32.toInt hv191
    have wv191 := HI.t0 hI0
    rw [hv191] at wv191
    have tv191 := congrArg Int32.toInt hv191
    have x192 := HI.eqA hI185 (p := 233) (j := 0) ((((eA_c (hF186.2.1 233 (by decide))).trans (eA_c gA_sI)).trans hv191))
    obtain ⟨v193, hv193⟩ : ∃ v, eA g0 233 4 = v := ⟨_, rfl⟩
    have wv193 := HI.t4 hI0
    rw [hv193] at wv193
    have tv193 := congrArg Int32.toInt hv193
    have x194 := HI.eqA hI185 (p := 233) (j := 4) ((((eA_c (hF186.2.1 233 (by decide))).trans (eA_c gA_sI)).trans hv193))
    obtain ⟨v195, hv195⟩ : ∃ v, eA g0 233 5 = v := ⟨_, rfl⟩
    have wv195 := HI.t5 hI0
    rw [hv195] at wv195
    have tv195 := congrArg Int32.toInt hv195
    have x196 := HI.eqA hI185 (p := 233) (j := 5) ((((eA_c (hF186.2.1 233 (by decide))).trans (eA_c gA_sI)).trans hv195))
    obtain ⟨v197, hv197⟩ : ∃ v, eA g0 233 6 = v := ⟨_, rfl⟩
    have wv197 := HI.t6 hI0
    rw [hv197] at wv197
    have tv197 := congrArg Int32.toInt hv197
    have x198 := HI.eqA hI185 (p := 233) (j := 6) ((((eA_c (hF186.2.1 233 (by decide))).trans (eA_c gA_sI)).trans hv197))
    have x199 := HI.eqA hI0 (p := 233) (j := 0) (hv191)
    have x200 := HI.eqA hI0 (p := 233) (j := 4) (hv193)
    have x201 := HI.eqA hI0 (p := 233) (j := 5) (hv195)
    have x202 := HI.eqA hI0 (p := 233) (j := 6) (hv197)
    exact ⟨_, rfl, hI185, hF189, _, rfl, by omega, ⟨by omega, by omega, by omega, by omega⟩⟩
  · have c183_ : v179.toInt ≥ 0 := en_j_lt_f c183
    refine At.enter rfl ?_
    refine r_lload_n rfl ?_
    refine r_lload rfl ?_
    refine r_lcmp _ rfl ?_
    refine r_ifs 13 rfl (fun c203 => ?_) (fun c203 => ?_)
    · have c203_ : v179.toInt > v182.toInt := en_j_gt_t c203
      refine At.enter rfl ?_
      refine r_iconst 0 rfl ?_
      refine Ar.fall 18 rfl ?_
      refine At.enter rfl ?_
      refine q_iretz (by decide) ?_
      refine At.enter rfl ?_
      refine q_iretz (by decide) ?_
      refine At.enter rfl ?_
      refine r_iff 13 rfl (by decide) ?_
      refine At.enter rfl ?_
      refine r_aload_n rfl ?_
      refine r_bipush (-2) rfl ?_
      refine r_callV 19 rfl [.ref 231, .int (-2)] [] (Nat.le_of_ble_eq_true rfl) rfl (T_X11_tell_231 _ hI177 (-2) (by decide)) ?_
      rintro _ _ ⟨g204, rfl, hI205, hF206, v207, rfl, hr208⟩
      refine At.sti ?_
      have hF209 := Fr.tr hF178 hF206 rfl rfl
      have zv210 : ((-2) : Int32).toInt = (-2) := rfl
      refine At.enter rfl ?_
      refine r_ireti ?_
      obtain ⟨v211, hv211⟩ : ∃ v, eA g0 233 0 = v := ⟨_, rfl⟩
      have tv211 := congrArg Int32.toInt hv211
      have wv211 := HI.t0 hI0
      rw [hv211] at wv211
      have tv211 := congrArg Int32.toInt hv211
      have x212 := HI.eqA hI205 (p := 233) (j := 0) ((((eA_c (hF206.2.1 233 (by decide))).trans (eA_c gA_sI)).trans hv211))
      obtain ⟨v213, hv213⟩ : ∃ v, eA g0 233 4 = v := ⟨_, rfl⟩
      have wv213 := HI.t4 hI0
      rw [hv213] at wv213
      have tv213 := congrArg Int32.toInt hv213
      have x214 := HI.eqA hI205 (p := 233) (j := 4) ((((eA_c (hF206.2.1 233 (by decide))).trans (eA_c gA_sI)).trans hv213))
      obtain ⟨v215, hv215⟩ : ∃ v, eA g0 233 5 = v := ⟨_, rfl⟩
      have wv215 := HI.t5 hI0
      rw [hv215] at wv215
      have tv215 := congrArg Int32.toInt hv215
      have x216 := HI.eqA hI205 (p := 233) (j := 5) ((((eA_c (hF206.2.1 233 (by decide))).trans (eA_c gA_sI)).trans hv215))
      obtain ⟨v217, hv217⟩ : ∃ v, eA g0 233 6 = v := ⟨_, rfl⟩
      have wv217 := HI.t6 hI0
      rw [hv217] at wv217
      have tv217 := congrArg Int32.toInt hv217
      have x218 := HI.eqA hI205 (p := 233) (j := 6) ((((eA_c (hF206.2.1 233 (by decide))).trans (eA_c gA_sI)).trans hv217))
      have x219 := HI.eqA hI0 (p := 233) (j := 0) (hv211)
      have x220 := HI.eqA hI0 (p := 233) (j := 4) (hv213)
      have x221 := HI.eqA hI0 (p := 233) (j := 5) (hv215)
      have x222 := HI.eqA hI0 (p := 233) (j := 6) (hv217)
      exact ⟨_, rfl, hI205, hF209, _, rfl, by omega, ⟨by omega, by omega, by omega, by omega⟩⟩
    · have c203_ : v179.toInt ≤ v182.toInt := en_j_gt_f c203
      refine At.enter rfl ?_
      refine r_iconst 1 rfl ?_
      refine r_goto ?_
      refine At.enter rfl ?_
      refine q_iretz (by decide) ?_
      refine At.enter rfl ?_
      refine q_iretz (by decide) ?_
      refine At.enter rfl ?_
      refine r_ift (by decide) ?_
      refine At.enter rfl ?_
      refine r_bipush 46 rfl ?_
      refine r_bipush 6 rfl ?_
      refine r_iload_n rfl ?_
      refine q_imul (6 * a1.toInt) rfl (by omega) (fun v223 hv223 => ?_)
      refine q_iadd (46 + v223.toInt) rfl (by omega) (fun v224 hv224 => ?_)
      refine r_istore_n ([(2, .int v224), (0, .ref 231), (1, .int a1)]) rfl ?_
      refine Ar.fall 28 rfl ?_
      obtain ⟨v225, hv225⟩ : ∃ v, eA g0 233 0 = v := ⟨_, rfl⟩
      have tv225 := congrArg Int32.toInt hv225
      have wv225 := HI.t0 hI0
      rw [hv225] at wv225
      have tv225 := congrArg Int32.toInt hv225
      obtain ⟨v226, hv226⟩ : ∃ v, eA g0 233 4 = v := ⟨_, rfl⟩
      have wv226 := HI.t4 hI0
      rw [hv226] at wv226
      have tv226 := congrArg Int32.toInt hv226
      obtain ⟨v227, hv227⟩ : ∃ v, eA g0 233 5 = v := ⟨_, rfl⟩
      have wv227 := HI.t5 hI0
      rw [hv227] at wv227
      have tv227 := congrArg Int32.toInt hv227
      obtain ⟨v228, hv228⟩ : ∃ v, eA g0 233 6 = v := ⟨_, rfl⟩
      have wv228 := HI.t6 hI0
      rw [hv228] at wv228
      have tv228 := congrArg Int32.toInt hv228
      refine w_loopI (fun n_ l_ g_ => ∃ x249 : Int32, n_ = 88 - x249.toInt ∧ HI g_ ∧ Fr F_X11_drop_231 A_X11_drop_231 g0 g_ ∧ eA g_ 233 0 = v225 ∧ eA g_ 233 1 = v180 ∧ eA g_ 233 4 = v226 ∧ eA g_ 233 5 = v227 ∧ eA g_ 233 6 = v228 ∧ en_get 0 l_ = some (.ref 231) ∧ en_get 1 l_ = some (.int a1) ∧ en_get 2 l_ = some (.int x249) ∧ (46 ≤ x249.toInt ∧ x249.toInt ≤ 88)) ?_ (88 - v224.toInt) ⟨v224, by first | rfl | omega, hI177, hF178, ((eA_c gA_sI).trans hv225), ((eA_c gA_sI).trans hv180), ((eA_c gA_sI).trans hv226), ((eA_c gA_sI).trans hv227), ((eA_c gA_sI).trans hv228), rfl, rfl, rfl, by omega⟩
      rintro n254 l253 g250 ⟨x249, hm265, hI251, hF252, e256, e257, e258, e259, e260, e261, e262, e263, r264⟩ ih255
      have tv266 := congrArg Int32.toInt e256
      have tv267 := congrArg Int32.toInt e257
      have tv268 := congrArg Int32.toInt e258
      have tv269 := congrArg Int32.toInt e259
      have tv270 := congrArg Int32.toInt e260
      refine At.enter rfl ?_
      refine r_iload_n e263 ?_
      refine r_bipush 88 rfl ?_
      refine r_ics 34 rfl (fun c271 => ?_) (fun c271 => ?_)
      · have c271_ : x249.toInt ≥ 88 := en_i_ge_t c271
        refine At.enter rfl ?_
        refine r_aload_n e261 ?_
        refine q_getR (Sh.ref hI251.1 kx_231 rfl) ?_
        refine r_iconst 1 rfl ?_
        refine r_dup2 ⟨rfl, rfl⟩ ?_
        refine q_iald (Sh.arr hI251.1 ka_233) 1 rfl (by decide) v180 e257 ?_
        refine r_iconst 1 rfl ?_
        refine q_isub (v180.toInt - 1) rfl (by omega) (fun v272 hv272 => ?_)
        refine q_iast (Sh.arr hI251.1 ka_233) (1) rfl (by decide) ?_
        have x275 := HI.eqA hI251 (p := 233) (j := 0) (e256)
        have x276 := HI.eqA hI251 (p := 233) (j := 1) (e257)
        have yv277 := HI.lt hI251
        have hI273 := HI.wt hI251 (j := 1) (v := v272) (by omega) (by omega)
        have hF274 := Fr.wA (p := 233) (j := 1) (v := v272) hF252 rfl
        refine r_aload_n e261 ?_
        refine r_aload_n e261 ?_
        refine q_getR (Sh.ref hI273.1 kx_231 rfl) ?_
        refine r_iconst 1 rfl ?_
        refine q_iald (Sh.arr hI273.1 ka_233) 1 rfl (by decide) v272 (eA_sA_eq hI251.1 ka_233 (by first | rfl | omega) (by first | decide | omega) (by first | decide | omega)) ?_
        refine r_callV 75 rfl [.ref 231, .int v272] [] (Nat.le_of_ble_eq_true rfl) rfl (T_X11_tell_231 _ hI273 v272 (by omega)) ?_
        rintro _ _ ⟨g278, rfl, hI279, hF280, v281, rfl, hr282⟩
        refine At.sti ?_
        have hF283 := Fr.tr hF274 hF280 rfl rfl
        refine At.enter rfl ?_
        refine r_ireti ?_
        have x284 := HI.eqA hI279 (p := 233) (j := 0) ((((eA_c (hF280.2.1 233 (by decide))).trans (eA_sA_ne hI251.1 ka_233 (by first | decide | omega) (by first | decide | omega) (by first | decide | omega))).trans e256))
        have x285 := HI.eqA hI279 (p := 233) (j := 4) ((((eA_c (hF280.2.1 233 (by decide))).trans (eA_sA_ne hI251.1 ka_233 (by first | decide | omega) (by first | decide | omega) (by first | decide | omega))).trans e258))
        have x286 := HI.eqA hI279 (p := 233) (j := 5) ((((eA_c (hF280.2.1 233 (by decide))).trans (eA_sA_ne hI251.1 ka_233 (by first | decide | omega) (by first | decide | omega) (by first | decide | omega))).trans e259))
        have x287 := HI.eqA hI279 (p := 233) (j := 6) ((((eA_c (hF280.2.1 233 (by decide))).trans (eA_sA_ne hI251.1 ka_233 (by first | decide | omega) (by first | decide | omega) (by first | decide | omega))).trans e260))
        have x288 := HI.eqA hI0 (p := 233) (j := 0) (hv225)
        have x289 := HI.eqA hI0 (p := 233) (j := 4) (hv226)
        have x290 := HI.eqA hI0 (p := 233) (j := 5) (hv227)
        have x291 := HI.eqA hI0 (p := 233) (j := 6) (hv228)
        exact ⟨_, rfl, hI279, hF283, _, rfl, by omega, ⟨by omega, by omega, by omega, by omega⟩⟩
      · have c271_ : x249.toInt < 88 := en_i_ge_f c271
        refine At.enter rfl ?_
        refine r_aload_n e261 ?_
        refine q_getR (Sh.ref hI251.1 kx_231 rfl) ?_
        refine r_iload_n e263 ?_
        refine r_aload_n e261 ?_
        refine q_getR (Sh.ref hI251.1 kx_231 rfl) ?_
        refine r_iload_n e263 ?_
        refine r_bipush 6 rfl ?_
        refine q_iadd (x249.toInt + 6) rfl (by omega) (fun v292 hv292 => ?_)
        obtain ⟨v293, hv293⟩ : ∃ v, eA g250 233 (x249.toInt + 6) = v := ⟨_, rfl⟩
        refine q_iald (Sh.arr hI251.1 ka_233) (x249.toInt + 6) (by omega) (by omega) v293 hv293 ?_
        refine q_iast (Sh.arr hI251.1 ka_233) (x249.toInt) rfl (by omega) ?_
        have hI294 := HI.wcp hI251 (k := x249.toInt) (by omega) (by omega) hv293
        have hF295 := Fr.wA (p := 233) (j := x249.toInt) (v := v293) hF252 rfl
        refine q_iinc e263 (x249.toInt + 1) rfl (by omega) (fun v296 hv296 => ?_)
        refine r_goto ?_
        exact ih255 (88 - v296.toInt) _ _ ⟨v296, by first | rfl | omega, hI294, hF295, ((eA_sA_ne hI251.1 ka_233 (by first | decide | omega) (by first | decide | omega) (by first | decide | omega)).trans e256), ((eA_sA_ne hI251.1 ka_233 (by first | decide | omega) (by first | decide | omega) (by first | decide | omega)).trans e257), ((eA_sA_ne hI251.1 ka_233 (by first | decide | omega) (by first | decide | omega) (by first | decide | omega)).trans e258), ((eA_sA_ne hI251.1 ka_233 (by first | decide | omega) (by first | decide | omega) (by first | decide | omega)).trans e259), ((eA_sA_ne hI251.1 ka_233 (by first | decide | omega) (by first | decide | omega) (by first | decide | omega)).trans e260), (w_p1 (by decide) (Or.inr rfl) e261), (w_p1 (by decide) (Or.inr rfl) e262), (w_e1 _ _ _), by omega⟩ ⟨by omega, by omega⟩

def F_X11_terms_231 : List (Nat × Nat) := [(231, 0), (231, 1)]
def A_X11_terms_231 : List Nat := [232, 233]
set_option maxRecDepth 100000 in
set_option maxHeartbeats 4000000 in
theorem T_X11_terms_231 (d : Nat) {N : Nat} {g0 : List en_E} (hI0 : HI g0) (a1 : Int32) (a2 : Int32) : Ev (d + 3) 181 [.ref 231, .int a1, .int a2] (g0, N) (fun w h' => ∃ g', h' = (g', N) ∧ HI g' ∧ Fr F_X11_terms_231 A_X11_terms_231 g0 g' ∧ ∃ r : Int32, w = some (.int r) ∧ ((-1) ≤ r.toInt ∧ r.toInt ≤ 99) ∧ ((((a1.toInt = 0 ∧ 0 ≤ a2.toInt ∧ a2.toInt ≤ 99) → r.toInt = (eA g0 233 5).toInt ∧ (eA g' 233 5).toInt = a2.toInt ∧ (eA g' 233 6).toInt = (eA g0 233 6).toInt) ∧ ((a1.toInt = 1 ∧ 1 ≤ a2.toInt ∧ a2.toInt ≤ 4) → r.toInt = (eA g0 233 6).toInt ∧ (eA g' 233 6).toInt = a2.toInt ∧ (eA g' 233 5).toInt = (eA g0 233 5).toInt) ∧ (¬ (a1.toInt = 0 ∧ 0 ≤ a2.toInt ∧ a2.toInt ≤ 99) ∧ ¬ (a1.toInt = 1 ∧ 1 ≤ a2.toInt ∧ a2.toInt ≤ 4) → r.toInt = -1 ∧ (eA g' 233 5).toInt = (eA g0 233 5).toInt ∧ (eA g' 233 6).toInt = (eA g0 233 6).toInt)) ∧ (eA g' 233 0).toInt = (eA g0 233 0).toInt ∧ (eA g' 233 4).toInt = (eA g0 233 4).toInt)) := by
  have hF0 : Fr F_X11_terms_231 A_X11_terms_231 g0 g0 := Fr.rf
  refine Ev.mk rfl rfl ⟨Nat.le_of_ble_eq_true rfl, Or.inr (q_rc hI0.1 kx_231 rfl)⟩ ?_
  show At _ none _ _ (0, [(0, .ref 231), (1, .int a1), (2, .int a2)], [], (_, _)) _
  refine At.enter rfl ?_
  refine r_aload_n rfl ?_
  refine r_iconst 0 rfl ?_
  refine q_putI (Sh.int hI0.1 kx_231 rfl) rfl ?_
  have hI115 := HI.wI0 hI0 kx_231 rfl (p := 231) (b := 0) (v := 0) rfl
  have hF116 := Fr.wI (p := 231) (b := 0) (v := 0) hF0 rfl
  refine r_iload_n rfl ?_
  refine r_ifs 9 rfl (fun c117 => ?_) (fun c117 => ?_)
  · have c117_ : a1.toInt ≠ 0 := en_k_ne_t c117
    refine At.enter rfl ?_
    refine r_iload_n rfl ?_
    refine r_iconst 1 rfl ?_
    refine r_ics 26 rfl (fun c118 => ?_) (fun c118 => ?_)
    · have c118_ : a1.toInt ≠ 1 := en_i_ne_t c118
      refine At.enter rfl ?_
      refine r_iconst 0 rfl ?_
      refine Ar.fall 43 rfl ?_
      refine At.enter rfl ?_
      refine r_istore_n ([(3, .int 0), (0, .ref 231), (1, .int a1), (2, .int a2)]) rfl ?_
      refine r_iload_n rfl ?_
      refine r_ift (by decide) ?_
      refine At.enter rfl ?_
      refine r_aload_n rfl ?_
      refine r_iconst (-1) rfl ?_
      refine r_callV 64 rfl [.ref 231, .int (-1)] [] (Nat.le_of_ble_eq_true rfl) rfl (T_X11_tell_231 _ hI115 (-1) (by decide)) ?_
      rintro _ _ ⟨g119, rfl, hI120, hF121, v122, rfl, hr123⟩
      refine At.sti ?_
      have hF124 := Fr.tr hF116 hF121 rfl rfl
      have zv125 : ((-1) : Int32).toInt = (-1) := rfl
      refine At.enter rfl ?_
      refine r_ireti ?_
      obtain ⟨v126, hv126⟩ : ∃ v, eA g0 233 5 = v := ⟨_, rfl⟩
      have wv126 := HI.t5 hI0
      rw [hv126] at wv126
      have tv126 := congrArg Int32.toInt hv126
      have x127 := HI.eqA hI120 (p := 233) (j := 5) ((((eA_c (hF121.2.1 233 (by decide))).trans (eA_c gA_sI)).trans hv126))
      obtain ⟨v128, hv128⟩ : ∃ v, eA g0 233 6 = v := ⟨_, rfl⟩
      have wv128 := HI.t6 hI0
      rw [hv128] at wv128
      have tv128 := congrArg Int32.toInt hv128
      have x129 := HI.eqA hI120 (p := 233) (j := 6) ((((eA_c (hF121.2.1 233 (by decide))).trans (eA_c gA_sI)).trans hv128))
      obtain ⟨v130, hv130⟩ : ∃ v, eA g0 233 0 = v := ⟨_, rfl⟩
      have tv130 := congrArg Int32.toInt hv130
      have wv130 := HI.t0 hI0
      rw [hv130] at wv130
      have tv130 := congrArg Int32.toInt hv130
      have x131 := HI.eqA hI120 (p := 233) (j := 0) ((((eA_c (hF121.2.1 233 (by decide))).trans (eA_c gA_sI)).trans hv130))
      obtain ⟨v132, hv132⟩ : ∃ v, eA g0 233 4 = v := ⟨_, rfl⟩
      have wv132 := HI.t4 hI0
      rw [hv132] at wv132
      have tv132 := congrArg Int32.toInt hv132
      have x133 := HI.eqA hI120 (p := 233) (j := 4) ((((eA_c (hF121.2.1 233 (by decide))).trans (eA_c gA_sI)).trans hv132))
      have x134 := HI.eqA hI0 (p := 233) (j := 5) (hv126)
      have x135 := HI.eqA hI0 (p := 233) (j := 6) (hv128)
      have x136 := HI.eqA hI0 (p := 233) (j := 0) (hv130)
      have x137 := HI.eqA hI0 (p := 233) (j := 4) (hv132)
      exact ⟨_, rfl, hI120, hF124, _, rfl, by omega, ⟨by omega, by omega, by omega⟩⟩
    · have c118_ : a1.toInt = 1 := en_i_ne_f c118
      refine At.enter rfl ?_
      refine r_iload_n rfl ?_
      refine q_i2l (fun v138 hv138 => ?_)
      refine r_lconst 1 rfl ?_
      refine r_ldc2 4 rfl ?_
      refine q_inlS 35 rfl [.long v138, .long 1, .long 4] [] (Nat.le_of_ble_eq_true rfl) rfl ?_
      refine Ev.mk rfl rfl ⟨Nat.le_of_ble_eq_true rfl, Or.inl rfl⟩ ?_
      show At _ none _ _ (0, [(0, .long v138), (2, .long 1), (4, .long 4)], [], (_, _)) _
      refine At.enter rfl ?_
      refine r_lload_n rfl ?_
      refine r_lload_n rfl ?_
      refine r_lcmp _ rfl ?_
      refine r_ifs 6 rfl (fun c139 => ?_) (fun c139 => ?_)
      · have c139_ : v138.toInt < 1 := en_j_lt_t c139
        refine At.enter rfl ?_
        refine r_iconst 0 rfl ?_
        refine Ar.fall 18 rfl ?_
        refine At.enter rfl ?_
        refine q_iretz (by decide) ?_
        refine At.enter rfl ?_
        refine r_ift (by decide) ?_
        refine At.enter rfl ?_
        refine r_iconst 0 rfl ?_
        refine Ar.fall 43 rfl ?_
        refine At.enter rfl ?_
        refine r_istore_n ([(3, .int 0), (0, .ref 231), (1, .int a1), (2, .int a2)]) rfl ?_
        refine r_iload_n rfl ?_
        refine r_ift (by decide) ?_
        refine At.enter rfl ?_
        refine r_aload_n rfl ?_
        refine r_iconst (-1) rfl ?_
        refine r_callV 64 rfl [.ref 231, .int (-1)] [] (Nat.le_of_ble_eq_true rfl) rfl (T_X11_tell_231 _ hI115 (-1) (by decide)) ?_
        rintro _ _ ⟨g140, rfl, hI141, hF142, v143, rfl, hr144⟩
        refine At.sti ?_
        have hF145 := Fr.tr hF116 hF142 rfl rfl
        have zv146 : ((-1) : Int32).toInt = (-1) := rfl
        refine At.enter rfl ?_
        refine r_ireti ?_
        obtain ⟨v147, hv147⟩ : ∃ v, eA g0 233 5 = v := ⟨_, rfl⟩
        have wv147 := HI.t5 hI0
        rw [hv147] at wv147
        have tv147 := congrArg Int32.toInt hv147
        have x148 := HI.eqA hI141 (p := 233) (j := 5) ((((eA_c (hF142.2.1 233 (by decide))).trans (eA_c gA_sI)).trans hv147))
        obtain ⟨v149, hv149⟩ : ∃ v, eA g0 233 6 = v := ⟨_, rfl⟩
        have wv149 := HI.t6 hI0
        rw [hv149] at wv149
        have tv149 := congrArg Int32.toInt hv149
        have x150 := HI.eqA hI141 (p := 233) (j := 6) ((((eA_c (hF142.2.1 233 (by decide))).trans (eA_c gA_sI)).trans hv149))
        obtain ⟨v151, hv151⟩ : ∃ v, eA g0 233 0 = v := ⟨_, rfl⟩
        have tv151 := congrArg Int32.toInt hv151
        have wv151 := HI.t0 hI0
        rw [hv151] at wv151
        have tv151 := congrArg Int32.toInt hv151
        have x152 := HI.eqA hI141 (p := 233) (j := 0) ((((eA_c (hF142.2.1 233 (by decide))).trans (eA_c gA_sI)).trans hv151))
        obtain ⟨v153, hv153⟩ : ∃ v, eA g0 233 4 = v := ⟨_, rfl⟩
        have wv153 := HI.t4 hI0
        rw [hv153] at wv153
        have tv153 := congrArg Int32.toInt hv153
        have x154 := HI.eqA hI141 (p := 233) (j := 4) ((((eA_c (hF142.2.1 233 (by decide))).trans (eA_c gA_sI)).trans hv153))
        have x155 := HI.eqA hI0 (p := 233) (j := 5) (hv147)
        have x156 := HI.eqA hI0 (p := 233) (j := 6) (hv149)
        have x157 := HI.eqA hI0 (p := 233) (j := 0) (hv151)
        have x158 := HI.eqA hI0 (p := 233) (j := 4) (hv153)
        exact ⟨_, rfl, hI141, hF145, _, rfl, by omega, ⟨by omega, by omega, by omega⟩⟩
      · have c139_ : v138.toInt ≥ 1 := en_j_lt_f c139
        refine At.enter rfl ?_
        refine r_lload_n rfl ?_
        refine r_lload rfl ?_
        refine r_lcmp _ rfl ?_
        refine r_ifs 13 rfl (fun c159 => ?_) (fun c159 => ?_)
        · have c159_ : v138.toInt > 4 := en_j_gt_t c159
          refine At.enter rfl ?_
          refine r_iconst 0 rfl ?_
          refine Ar.fall 18 rfl ?_
          refine At.enter rfl ?_
          refine q_iretz (by decide) ?_
          refine At.enter rfl ?_
          refine r_ift (by decide) ?_
          refine At.enter rfl ?_
          refine r_iconst 0 rfl ?_
          refine Ar.fall 43 rfl ?_
          refine At.enter rfl ?_
          refine r_istore_n ([(3, .int 0), (0, .ref 231), (1, .int a1), (2, .int a2)]) rfl ?_
          refine r_iload_n rfl ?_
          refine r_ift (by decide) ?_
          refine At.enter rfl ?_
          refine r_aload_n rfl ?_
          refine r_iconst (-1) rfl ?_
          refine r_callV 64 rfl [.ref 231, .int (-1)] [] (Nat.le_of_ble_eq_true rfl) rfl (T_X11_tell_231 _ hI115 (-1) (by decide)) ?_
          rintro _ _ ⟨g160, rfl, hI161, hF162, v163, rfl, hr164⟩
          refine At.sti ?_
          have hF165 := Fr.tr hF116 hF162 rfl rfl
          have zv166 : ((-1) : Int32).toInt = (-1) := rfl
          refine At.enter rfl ?_
          refine r_ireti ?_
          obtain ⟨v167, hv167⟩ : ∃ v, eA g0 233 5 = v := ⟨_, rfl⟩
          have wv167 := HI.t5 hI0
          rw [hv167] at wv167
          have tv167 := congrArg Int32.toInt hv167
          have x168 := HI.eqA hI161 (p := 233) (j := 5) ((((eA_c (hF162.2.1 233 (by decide))).trans (eA_c gA_sI)).trans hv167))
          obtain ⟨v169, hv169⟩ : ∃ v, eA g0 233 6 = v := ⟨_, rfl⟩
          have wv169 := HI.t6 hI0
          rw [hv169] at wv169
          have tv169 := congrArg Int32.toInt hv169
          have x170 := HI.eqA hI161 (p := 233) (j := 6) ((((eA_c (hF162.2.1 233 (by decide))).trans (eA_c gA_sI)).trans hv169))
          obtain ⟨v171, hv171⟩ : ∃ v, eA g0 233 0 = v := ⟨_, rfl⟩
          have tv171 := congrArg Int32.toInt hv171
          have wv171 := HI.t0 hI0
          rw [hv171] at wv171
          have tv171 := congrArg Int32.toInt hv171
          have x172 := HI.eqA hI161 (p := 233) (j := 0) ((((eA_c (hF162.2.1 233 (by decide))).trans (eA_c gA_sI)).trans hv171))
          obtain ⟨v173, hv173⟩ : ∃ v, eA g0 233 4 = v := ⟨_, rfl⟩
          have wv173 := HI.t4 hI0
          rw [hv173] at wv173
          have tv173 := congrArg Int32.toInt hv173
          have x174 := HI.eqA hI161 (p := 233) (j := 4) ((((eA_c (hF162.2.1 233 (by decide))).trans (eA_c gA_sI)).trans hv173))
          have x175 := HI.eqA hI0 (p := 233) (j := 5) (hv167)
          have x176 := HI.eqA hI0 (p := 233) (j := 6) (hv169)
          have x177 := HI.eqA hI0 (p := 233) (j := 0) (hv171)
          have x178 := HI.eqA hI0 (p := 233) (j := 4) (hv173)
          exact ⟨_, rfl, hI161, hF165, _, rfl, by omega, ⟨by omega, by omega, by omega⟩⟩
        · have c159_ : v138.toInt ≤ 4 := en_j_gt_f c159
          refine At.enter rfl ?_
          refine r_iconst 1 rfl ?_
          refine r_goto ?_
          refine At.enter rfl ?_
          refine q_iretz (by decide) ?_
          refine At.enter rfl ?_
          refine r_iff 38 rfl (by decide) ?_
          refine At.enter rfl ?_
          refine r_iconst 1 rfl ?_
          refine r_goto ?_
          refine At.enter rfl ?_
          refine r_istore_n ([(3, .int 1), (0, .ref 231), (1, .int a1), (2, .int a2)]) rfl ?_
          refine r_iload_n rfl ?_
          refine r_iff 48 rfl (by decide) ?_
          refine At.enter rfl ?_
          refine r_aload_n rfl ?_
          refine r_iconst 5 rfl ?_
          refine r_iload_n rfl ?_
          refine q_iadd (5 + a1.toInt) rfl (by omega) (fun v179 hv179 => ?_)
          refine r_iload_n rfl ?_
          refine q_inlV 56 rfl [.ref 231, .int v179, .int a2] [] (Nat.le_of_ble_eq_true rfl) rfl ?_
          refine Ev.mk rfl rfl ⟨Nat.le_of_ble_eq_true rfl, Or.inr (q_rc hI115.1 kx_231 rfl)⟩ ?_
          show At _ none _ _ (0, [(0, .ref 231), (1, .int v179), (2, .int a2)], [], (_, _)) _
          refine At.enter rfl ?_
          refine r_aload_n rfl ?_
          refine q_getR (Sh.ref hI115.1 kx_231 rfl) ?_
          refine r_iload_n rfl ?_
          obtain ⟨v180, hv180⟩ : ∃ v, eA g0 233 (a1.toInt + 5) = v := ⟨_, rfl⟩
          have wv180 : 1 ≤ v180.toInt ∧ v180.toInt ≤ 4 := by have z := HI.t6 hI0; rw [← hv180, show (a1.toInt + 5) = 6 by omega]; exact z
          refine q_iald (Sh.arr hI115.1 ka_233) (a1.toInt + 5) (by omega) (by omega) v180 ((eA_c (gA_sI)).trans hv180) ?_
          refine r_istore_n ([(3, .int v180), (0, .ref 231), (1, .int v179), (2, .int a2)]) rfl ?_
          refine r_aload_n rfl ?_
          refine q_getR (Sh.ref hI115.1 kx_231 rfl) ?_
          refine r_iload_n rfl ?_
          refine r_iload_n rfl ?_
          refine q_iast (Sh.arr hI115.1 ka_233) ((a1.toInt + 5)) (by omega) (by omega) ?_
          have hI181 := HI.wt hI115 (j := (a1.toInt + 5)) (v := a2) (by omega) (by omega)
          have hF182 := Fr.wA (p := 233) (j := (a1.toInt + 5)) (v := a2) hF116 rfl
          refine r_aload_n rfl ?_
          refine r_iload_n rfl ?_
          refine q_inlV 19 rfl [.ref 231, .int v180] [] (Nat.le_of_ble_eq_true rfl) rfl ?_
          refine Ev.mk rfl rfl ⟨Nat.le_of_ble_eq_true rfl, Or.inr (q_rc hI181.1 kx_231 rfl)⟩ ?_
          show At _ none _ _ (0, [(0, .ref 231), (1, .int v180)], [], (_, _)) _
          refine At.enter rfl ?_
          refine r_aload_n rfl ?_
          refine r_iconst 0 rfl ?_
          refine q_putI (Sh.int hI181.1 kx_231 rfl) rfl ?_
          have hI183 := HI.wI0 hI181 kx_231 rfl (p := 231) (b := 1) (v := 0) rfl
          have hF184 := Fr.wI (p := 231) (b := 1) (v := 0) hF182 rfl
          refine r_iload_n rfl ?_
          refine q_ireti ?_
          refine At.enter rfl ?_
          refine q_ireti ?_
          refine At.enter rfl ?_
          refine r_goto ?_
          refine At.enter rfl ?_
          refine r_ireti ?_
          obtain ⟨v185, hv185⟩ : ∃ v, eA g0 233 5 = v := ⟨_, rfl⟩
          have wv185 := HI.t5 hI0
          rw [hv185] at wv185
          have tv185 := congrArg Int32.toInt hv185
          have x186 := HI.eqA hI183 (p := 233) (j := 5) ((((eA_c gA_sI).trans ((eA_sA_ne hI115.1 ka_233 (by first | decide | omega) (by first | decide | omega) (by first | decide | omega)).trans (eA_c gA_sI))).trans hv185))
          have x187 := HI.eqA hI183 (p := 233) (j := 6) (((eA_c gA_sI).trans (eA_sA_eq hI115.1 ka_233 (by omega) (by first | decide | omega) (by first | decide | omega))))
          obtain ⟨v188, hv188⟩ : ∃ v, eA g0 233 0 = v := ⟨_, rfl⟩
          have tv188 := congrArg Int32.toInt hv188
          have wv188 := HI.t0 hI0
          rw [hv188] at wv188
          have tv188 := congrArg Int32.toInt hv188
          have x189 := HI.eqA hI183 (p := 233) (j := 0) ((((eA_c gA_sI).trans ((eA_sA_ne hI115.1 ka_233 (by first | decide | omega) (by first | decide | omega) (by first | decide | omega)).trans (eA_c gA_sI))).trans hv188))
          obtain ⟨v190, hv190⟩ : ∃ v, eA g0 233 4 = v := ⟨_, rfl⟩
          have wv190 := HI.t4 hI0
          rw [hv190] at wv190
          have tv190 := congrArg Int32.toInt hv190
          have x191 := HI.eqA hI183 (p := 233) (j := 4) ((((eA_c gA_sI).trans ((eA_sA_ne hI115.1 ka_233 (by first | decide | omega) (by first | decide | omega) (by first | decide | omega)).trans (eA_c gA_sI))).trans hv190))
          have x192 := HI.eqA hI0 (p := 233) (j := 5) (hv185)
          obtain ⟨v193, hv193⟩ : ∃ v, eA g0 233 6 = v := ⟨_, rfl⟩
          have wv193 := HI.t6 hI0
          rw [hv193] at wv193
          have tv193 := congrArg Int32.toInt hv193
          have x194 := HI.eqA hI0 (p := 233) (j := 6) (hv193)
          have y195 : (eA g0 233 6).toInt = v180.toInt := by rw [← hv180, show (a1.toInt + 5) = 6 by omega]
          have x196 := HI.eqA hI0 (p := 233) (j := 0) (hv188)
          have x197 := HI.eqA hI0 (p := 233) (j := 4) (hv190)
          exact ⟨_, rfl, hI183, hF184, _, rfl, by omega, ⟨by omega, by omega, by omega⟩⟩
  · have c117_ : a1.toInt = 0 := en_k_ne_f c117
    refine At.enter rfl ?_
    refine r_iload_n rfl ?_
    refine q_i2l (fun v198 hv198 => ?_)
    refine r_lconst 0 rfl ?_
    refine r_ldc2 99 rfl ?_
    refine q_inlS 18 rfl [.long v198, .long 0, .long 99] [] (Nat.le_of_ble_eq_true rfl) rfl ?_
    refine Ev.mk rfl rfl ⟨Nat.le_of_ble_eq_true rfl, Or.inl rfl⟩ ?_
    show At _ none _ _ (0, [(0, .long v198), (2, .long 0), (4, .long 99)], [], (_, _)) _
    refine At.enter rfl ?_
    refine r_lload_n rfl ?_
    refine r_lload_n rfl ?_
    refine r_lcmp _ rfl ?_
    refine r_ifs 6 rfl (fun c199 => ?_) (fun c199 => ?_)
    · have c199_ : v198.toInt < 0 := en_j_lt_t c199
      refine At.enter rfl ?_
      refine r_iconst 0 rfl ?_
      refine Ar.fall 18 rfl ?_
      refine At.enter rfl ?_
      refine q_iretz (by decide) ?_
      refine At.enter rfl ?_
      refine r_goto ?_
      refine At.enter rfl ?_
      refine r_istore_n ([(3, .int 0), (0, .ref 231), (1, .int a1), (2, .int a2)]) rfl ?_
      refine r_iload_n rfl ?_
      refine r_ift (by decide) ?_
      refine At.enter rfl ?_
      refine r_aload_n rfl ?_
      refine r_iconst (-1) rfl ?_
      refine r_callV 64 rfl [.ref 231, .int (-1)] [] (Nat.le_of_ble_eq_true rfl) rfl (T_X11_tell_231 _ hI115 (-1) (by decide)) ?_
      rintro _ _ ⟨g200, rfl, hI201, hF202, v203, rfl, hr204⟩
      refine At.sti ?_
      have hF205 := Fr.tr hF116 hF202 rfl rfl
      have zv206 : ((-1) : Int32).toInt = (-1) := rfl
      refine At.enter rfl ?_
      refine r_ireti ?_
      obtain ⟨v207, hv207⟩ : ∃ v, eA g0 233 5 = v := ⟨_, rfl⟩
      have wv207 := HI.t5 hI0
      rw [hv207] at wv207
      have tv207 := congrArg Int32.toInt hv207
      have x208 := HI.eqA hI201 (p := 233) (j := 5) ((((eA_c (hF202.2.1 233 (by decide))).trans (eA_c gA_sI)).trans hv207))
      obtain ⟨v209, hv209⟩ : ∃ v, eA g0 233 6 = v := ⟨_, rfl⟩
      have wv209 := HI.t6 hI0
      rw [hv209] at wv209
      have tv209 := congrArg Int32.toInt hv209
      have x210 := HI.eqA hI201 (p := 233) (j := 6) ((((eA_c (hF202.2.1 233 (by decide))).trans (eA_c gA_sI)).trans hv209))
      obtain ⟨v211, hv211⟩ : ∃ v, eA g0 233 0 = v := ⟨_, rfl⟩
      have tv211 := congrArg Int32.toInt hv211
      have wv211 := HI.t0 hI0
      rw [hv211] at wv211
      have tv211 := congrArg Int32.toInt hv211
      have x212 := HI.eqA hI201 (p := 233) (j := 0) ((((eA_c (hF202.2.1 233 (by decide))).trans (eA_c gA_sI)).trans hv211))
      obtain ⟨v213, hv213⟩ : ∃ v, eA g0 233 4 = v := ⟨_, rfl⟩
      have wv213 := HI.t4 hI0
      rw [hv213] at wv213
      have tv213 := congrArg Int32.toInt hv213
      have x214 := HI.eqA hI201 (p := 233) (j := 4) ((((eA_c (hF202.2.1 233 (by decide))).trans (eA_c gA_sI)).trans hv213))
      have x215 := HI.eqA hI0 (p := 233) (j := 5) (hv207)
      have x216 := HI.eqA hI0 (p := 233) (j := 6) (hv209)
      have x217 := HI.eqA hI0 (p := 233) (j := 0) (hv211)
      have x218 := HI.eqA hI0 (p := 233) (j := 4) (hv213)
      exact ⟨_, rfl, hI201, hF205, _, rfl, by omega, ⟨by omega, by omega, by omega⟩⟩
    · have c199_ : v198.toInt ≥ 0 := en_j_lt_f c199
      refine At.enter rfl ?_
      refine r_lload_n rfl ?_
      refine r_lload rfl ?_
      refine r_lcmp _ rfl ?_
      refine r_ifs 13 rfl (fun c219 => ?_) (fun c219 => ?_)
      · have c219_ : v198.toInt > 99 := en_j_gt_t c219
        refine At.enter rfl ?_
        refine r_iconst 0 rfl ?_
        refine Ar.fall 18 rfl ?_
        refine At.enter rfl ?_
        refine q_iretz (by decide) ?_
        refine At.enter rfl ?_
        refine r_goto ?_
        refine At.enter rfl ?_
        refine r_istore_n ([(3, .int 0), (0, .ref 231), (1, .int a1), (2, .int a2)]) rfl ?_
        refine r_iload_n rfl ?_
        refine r_ift (by decide) ?_
        refine At.enter rfl ?_
        refine r_aload_n rfl ?_
        refine r_iconst (-1) rfl ?_
        refine r_callV 64 rfl [.ref 231, .int (-1)] [] (Nat.le_of_ble_eq_true rfl) rfl (T_X11_tell_231 _ hI115 (-1) (by decide)) ?_
        rintro _ _ ⟨g220, rfl, hI221, hF222, v223, rfl, hr224⟩
        refine At.sti ?_
        have hF225 := Fr.tr hF116 hF222 rfl rfl
        have zv226 : ((-1) : Int32).toInt = (-1) := rfl
        refine At.enter rfl ?_
        refine r_ireti ?_
        obtain ⟨v227, hv227⟩ : ∃ v, eA g0 233 5 = v := ⟨_, rfl⟩
        have wv227 := HI.t5 hI0
        rw [hv227] at wv227
        have tv227 := congrArg Int32.toInt hv227
        have x228 := HI.eqA hI221 (p := 233) (j := 5) ((((eA_c (hF222.2.1 233 (by decide))).trans (eA_c gA_sI)).trans hv227))
        obtain ⟨v229, hv229⟩ : ∃ v, eA g0 233 6 = v := ⟨_, rfl⟩
        have wv229 := HI.t6 hI0
        rw [hv229] at wv229
        have tv229 := congrArg Int32.toInt hv229
        have x230 := HI.eqA hI221 (p := 233) (j := 6) ((((eA_c (hF222.2.1 233 (by decide))).trans (eA_c gA_sI)).trans hv229))
        obtain ⟨v231, hv231⟩ : ∃ v, eA g0 233 0 = v := ⟨_, rfl⟩
        have tv231 := congrArg Int32.toInt hv231
        have wv231 := HI.t0 hI0
        rw [hv231] at wv231
        have tv231 := congrArg Int32.toInt hv231
        have x232 := HI.eqA hI221 (p := 233) (j := 0) ((((eA_c (hF222.2.1 233 (by decide))).trans (eA_c gA_sI)).trans hv231))
        obtain ⟨v233, hv233⟩ : ∃ v, eA g0 233 4 = v := ⟨_, rfl⟩
        have wv233 := HI.t4 hI0
        rw [hv233] at wv233
        have tv233 := congrArg Int32.toInt hv233
        have x234 := HI.eqA hI221 (p := 233) (j := 4) ((((eA_c (hF222.2.1 233 (by decide))).trans (eA_c gA_sI)).trans hv233))
        have x235 := HI.eqA hI0 (p := 233) (j := 5) (hv227)
        have x236 := HI.eqA hI0 (p := 233) (j := 6) (hv229)
        have x237 := HI.eqA hI0 (p := 233) (j := 0) (hv231)
        have x238 := HI.eqA hI0 (p := 233) (j := 4) (hv233)
        exact ⟨_, rfl, hI221, hF225, _, rfl, by omega, ⟨by omega, by omega, by omega⟩⟩
      · have c219_ : v198.toInt ≤ 99 := en_j_gt_f c219
        refine At.enter rfl ?_
        refine r_iconst 1 rfl ?_
        refine r_goto ?_
        refine At.enter rfl ?_
        refine q_iretz (by decide) ?_
        refine At.enter rfl ?_
        refine r_goto ?_
        refine At.enter rfl ?_
        refine r_istore_n ([(3, .int 1), (0, .ref 231), (1, .int a1), (2, .int a2)]) rfl ?_
        refine r_iload_n rfl ?_
        refine r_iff 48 rfl (by decide) ?_
        refine At.enter rfl ?_
        refine r_aload_n rfl ?_
        refine r_iconst 5 rfl ?_
        refine r_iload_n rfl ?_
        refine q_iadd (5 + a1.toInt) rfl (by omega) (fun v239 hv239 => ?_)
        refine r_iload_n rfl ?_
        refine q_inlV 56 rfl [.ref 231, .int v239, .int a2] [] (Nat.le_of_ble_eq_true rfl) rfl ?_
        refine Ev.mk rfl rfl ⟨Nat.le_of_ble_eq_true rfl, Or.inr (q_rc hI115.1 kx_231 rfl)⟩ ?_
        show At _ none _ _ (0, [(0, .ref 231), (1, .int v239), (2, .int a2)], [], (_, _)) _
        refine At.enter rfl ?_
        refine r_aload_n rfl ?_
        refine q_getR (Sh.ref hI115.1 kx_231 rfl) ?_
        refine r_iload_n rfl ?_
        obtain ⟨v240, hv240⟩ : ∃ v, eA g0 233 (a1.toInt + 5) = v := ⟨_, rfl⟩
        have wv240 : 0 ≤ v240.toInt ∧ v240.toInt ≤ 99 := by have z := HI.t5 hI0; rw [← hv240, show (a1.toInt + 5) = 5 by omega]; exact z
        refine q_iald (Sh.arr hI115.1 ka_233) (a1.toInt + 5) (by omega) (by omega) v240 ((eA_c (gA_sI)).trans hv240) ?_
        refine r_istore_n ([(3, .int v240), (0, .ref 231), (1, .int v239), (2, .int a2)]) rfl ?_
        refine r_aload_n rfl ?_
        refine q_getR (Sh.ref hI115.1 kx_231 rfl) ?_
        refine r_iload_n rfl ?_
        refine r_iload_n rfl ?_
        refine q_iast (Sh.arr hI115.1 ka_233) ((a1.toInt + 5)) (by omega) (by omega) ?_
        have hI241 := HI.wt hI115 (j := (a1.toInt + 5)) (v := a2) (by omega) (by omega)
        have hF242 := Fr.wA (p := 233) (j := (a1.toInt + 5)) (v := a2) hF116 rfl
        refine r_aload_n rfl ?_
        refine r_iload_n rfl ?_
        refine q_inlV 19 rfl [.ref 231, .int v240] [] (Nat.le_of_ble_eq_true rfl) rfl ?_
        refine Ev.mk rfl rfl ⟨Nat.le_of_ble_eq_true rfl, Or.inr (q_rc hI241.1 kx_231 rfl)⟩ ?_
        show At _ none _ _ (0, [(0, .ref 231), (1, .int v240)], [], (_, _)) _
        refine At.enter rfl ?_
        refine r_aload_n rfl ?_
        refine r_iconst 0 rfl ?_
        refine q_putI (Sh.int hI241.1 kx_231 rfl) rfl ?_
        have hI243 := HI.wI0 hI241 kx_231 rfl (p := 231) (b := 1) (v := 0) rfl
        have hF244 := Fr.wI (p := 231) (b := 1) (v := 0) hF242 rfl
        refine r_iload_n rfl ?_
        refine q_ireti ?_
        refine At.enter rfl ?_
        refine q_ireti ?_
        refine At.enter rfl ?_
        refine r_goto ?_
        refine At.enter rfl ?_
        refine r_ireti ?_
        have x245 := HI.eqA hI243 (p := 233) (j := 5) (((eA_c gA_sI).trans (eA_sA_eq hI115.1 ka_233 (by omega) (by first | decide | omega) (by first | decide | omega))))
        obtain ⟨v246, hv246⟩ : ∃ v, eA g0 233 6 = v := ⟨_, rfl⟩
        have wv246 := HI.t6 hI0
        rw [hv246] at wv246
        have tv246 := congrArg Int32.toInt hv246
        have x247 := HI.eqA hI243 (p := 233) (j := 6) ((((eA_c gA_sI).trans ((eA_sA_ne hI115.1 ka_233 (by first | decide | omega) (by first | decide | omega) (by first | decide | omega)).trans (eA_c gA_sI))).trans hv246))
        obtain ⟨v248, hv248⟩ : ∃ v, eA g0 233 0 = v := ⟨_, rfl⟩
        have tv248 := congrArg Int32.toInt hv248
        have wv248 := HI.t0 hI0
        rw [hv248] at wv248
        have tv248 := congrArg Int32.toInt hv248
        have x249 := HI.eqA hI243 (p := 233) (j := 0) ((((eA_c gA_sI).trans ((eA_sA_ne hI115.1 ka_233 (by first | decide | omega) (by first | decide | omega) (by first | decide | omega)).trans (eA_c gA_sI))).trans hv248))
        obtain ⟨v250, hv250⟩ : ∃ v, eA g0 233 4 = v := ⟨_, rfl⟩
        have wv250 := HI.t4 hI0
        rw [hv250] at wv250
        have tv250 := congrArg Int32.toInt hv250
        have x251 := HI.eqA hI243 (p := 233) (j := 4) ((((eA_c gA_sI).trans ((eA_sA_ne hI115.1 ka_233 (by first | decide | omega) (by first | decide | omega) (by first | decide | omega)).trans (eA_c gA_sI))).trans hv250))
        obtain ⟨v252, hv252⟩ : ∃ v, eA g0 233 5 = v := ⟨_, rfl⟩
        have wv252 := HI.t5 hI0
        rw [hv252] at wv252
        have tv252 := congrArg Int32.toInt hv252
        have x253 := HI.eqA hI0 (p := 233) (j := 5) (hv252)
        have y254 : (eA g0 233 5).toInt = v240.toInt := by rw [← hv240, show (a1.toInt + 5) = 5 by omega]
        have x255 := HI.eqA hI0 (p := 233) (j := 6) (hv246)
        have x256 := HI.eqA hI0 (p := 233) (j := 0) (hv248)
        have x257 := HI.eqA hI0 (p := 233) (j := 4) (hv250)
        exact ⟨_, rfl, hI243, hF244, _, rfl, by omega, ⟨by omega, by omega, by omega⟩⟩

def F_X11_four_231 : List (Nat × Nat) := [(231, 8)]
def A_X11_four_231 : List Nat := [236]
set_option maxRecDepth 100000 in
set_option maxHeartbeats 4000000 in
theorem T_X11_four_231 (d : Nat) {N : Nat} {g0 : List en_E} (hI0 : HI g0) (a1 : Int32) (h4 : (gI g0 231 8).toInt ≤ 396) : Ev (d + 1) 184 [.ref 231, .int a1] (g0, N) (fun w h' => ∃ g', h' = (g', N) ∧ HI g' ∧ Fr F_X11_four_231 A_X11_four_231 g0 g' ∧ w = none ∧ ((gI g' 231 8).toInt = (gI g0 231 8).toInt + 4)) := by
  have hF0 : Fr F_X11_four_231 A_X11_four_231 g0 g0 := Fr.rf
  refine Ev.mk rfl rfl ⟨Nat.le_of_ble_eq_true rfl, Or.inr (q_rc hI0.1 kx_231 rfl)⟩ ?_
  show At _ none _ _ (0, [(0, .ref 231), (1, .int a1)], [], (_, _)) _
  refine At.enter rfl ?_
  refine r_bipush 24 rfl ?_
  refine r_istore_n ([(2, .int 24), (0, .ref 231), (1, .int a1)]) rfl ?_
  refine Ar.fall 3 rfl ?_
  obtain ⟨v271, hv271⟩ : ∃ v, gI g0 231 8 = v := ⟨_, rfl⟩
  have rv271 := RgF.at hI0.2.1 (p := 231) (b := 8) rfl
  rw [hv271] at rv271
  dsimp only at rv271
  have tv271 := congrArg Int32.toInt hv271
  have z_395 : (24 : Int32).toInt = 24 := rfl
  refine w_loopI (fun n_ l_ g_ => ∃ x380 : Int32, ∃ x381 : Int32, n_ = x380.toInt + 8 ∧ HI g_ ∧ Fr F_X11_four_231 A_X11_four_231 g0 g_ ∧ gI g_ 231 8 = x381 ∧ en_get 0 l_ = some (.ref 231) ∧ en_get 1 l_ = some (.int a1) ∧ en_get 2 l_ = some (.int x380) ∧ ((-8) ≤ x380.toInt ∧ x380.toInt ≤ 24) ∧ (0 ≤ x381.toInt ∧ x381.toInt ≤ 400) ∧ (8 * x381.toInt + x380.toInt = 8 * (gI g0 231 8).toInt + 24)) ?_ (24 + 8) ⟨24, v271, by first | rfl | omega, hI0, hF0, hv271, rfl, rfl, rfl, by decide, by omega, by omega⟩
  rintro n386 l385 g382 ⟨x380, x381, hm396, hI383, hF384, e388, e389, e390, e391, r392, r393, q394⟩ ih387
  refine At.enter rfl ?_
  refine r_iload_n e391 ?_
  refine r_ifs 7 rfl (fun c397 => ?_) (fun c397 => ?_)
  · have c397_ : x380.toInt < 0 := en_k_lt_t c397
    refine At.enter rfl ?_
    refine r_vret ?_
    exact ⟨_, rfl, hI383, hF384, rfl, (by rw [e388]; omega)⟩
  · have c397_ : x380.toInt ≥ 0 := en_k_lt_f c397
    refine At.enter rfl ?_
    refine r_aload_n e389 ?_
    refine q_getR (Sh.ref hI383.1 kx_231 rfl) ?_
    refine r_aload_n e389 ?_
    refine q_getI (Sh.int hI383.1 kx_231 rfl) x381 e388 ?_
    refine r_iload_n e390 ?_
    refine r_iload_n e391 ?_
    refine q_ishrO (fun v398 hv398 => ?_)
    refine r_sipush 255 rfl ?_
    refine q_iandO (fun v399 hv399 => ?_)
    refine q_iast (Sh.arr hI383.1 ka_236) (x381.toInt) rfl (by omega) ?_
    have hI400 := HI.wA0 hI383 ka_236 (p := 236) rfl rfl (x381.toInt) (v399)
    have hF401 := Fr.wA (p := 236) (j := x381.toInt) (v := v399) hF384 rfl
    refine r_aload_n e389 ?_
    refine r_dup rfl ?_
    refine q_getI (Sh.int hI400.1 kx_231 rfl) x381 ((gI_sW).trans e388) ?_
    refine r_iconst 1 rfl ?_
    refine q_iadd (x381.toInt + 1) rfl (by omega) (fun v402 hv402 => ?_)
    refine q_putI (Sh.int hI400.1 kx_231 rfl) rfl ?_
    have hI403 := HI.wI1 hI400 kx_231 rfl (p := 231) (b := 8) (v := v402) rfl (by dsimp only; omega)
    have hF404 := Fr.wI (p := 231) (b := 8) (v := v402) hF401 rfl
    refine q_iinc e391 (x380.toInt + (-8)) rfl (by omega) (fun v405 hv405 => ?_)
    refine r_goto ?_
    exact ih387 (v405.toInt + 8) _ _ ⟨v405, v402, by first | rfl | omega, hI403, hF404, (gI_sI_eq hI400.1 kx_231 rfl _), (w_p1 (by decide) (Or.inr rfl) e389), (w_p1 (by decide) (Or.inr rfl) e390), (w_e1 _ _ _), by omega, by omega, by omega⟩ ⟨by omega, by omega⟩

def F_X11_feed_231 : List (Nat × Nat) := [(231, 0), (231, 8)]
def A_X11_feed_231 : List Nat := [236]
set_option maxRecDepth 100000 in
set_option maxHeartbeats 4000000 in
theorem T_X11_feed_231 (d : Nat) {N : Nat} {g0 : List en_E} (hI0 : HI g0) (a1 : Int32) (a2 : Int32) (a3 : Int32) (a4 : Int32) (a5 : Int32) : Ev (d + 2) 185 [.ref 231, .int a1, .int a2, .int a3, .int a4, .int a5] (g0, N) (fun w h' => ∃ g', h' = (g', N) ∧ HI g' ∧ Fr F_X11_feed_231 A_X11_feed_231 g0 g' ∧ ∃ r : Int32, w = some (.int r) ∧ ((-1) ≤ r.toInt ∧ r.toInt ≤ 400) ∧ ((380 < (gI g0 231 8).toInt → r.toInt = -1 ∧ (gI g' 231 8).toInt = (gI g0 231 8).toInt) ∧ ((gI g0 231 8).toInt ≤ 380 → r.toInt = (gI g0 231 8).toInt + 20 ∧ (gI g' 231 8).toInt = (gI g0 231 8).toInt + 20))) := by
  have hF0 : Fr F_X11_feed_231 A_X11_feed_231 g0 g0 := Fr.rf
  refine Ev.mk rfl rfl ⟨Nat.le_of_ble_eq_true rfl, Or.inr (q_rc hI0.1 kx_231 rfl)⟩ ?_
  show At _ none _ _ (0, [(0, .ref 231), (1, .int a1), (2, .int a2), (3, .int a3), (4, .int a4), (5, .int a5)], [], (_, _)) _
  refine At.enter rfl ?_
  refine r_aload_n rfl ?_
  refine r_iconst 0 rfl ?_
  refine q_putI (Sh.int hI0.1 kx_231 rfl) rfl ?_
  have hI81 := HI.wI0 hI0 kx_231 rfl (p := 231) (b := 0) (v := 0) rfl
  have hF82 := Fr.wI (p := 231) (b := 0) (v := 0) hF0 rfl
  refine r_aload_n rfl ?_
  obtain ⟨v83, hv83⟩ : ∃ v, gI g0 231 8 = v := ⟨_, rfl⟩
  have rv83 := RgF.at hI0.2.1 (p := 231) (b := 8) rfl
  rw [hv83] at rv83
  dsimp only at rv83
  refine q_getI (Sh.int hI81.1 kx_231 rfl) v83 ((gI_sI_ne (by decide)).trans hv83) ?_
  refine r_bipush 20 rfl ?_
  refine q_iadd (v83.toInt + 20) rfl (by omega) (fun v84 hv84 => ?_)
  refine r_sipush 400 rfl ?_
  refine r_ics 18 rfl (fun c85 => ?_) (fun c85 => ?_)
  · have c85_ : v84.toInt ≤ 400 := en_i_le_t c85
    refine At.enter rfl ?_
    refine r_aload_n rfl ?_
    refine r_iload_n rfl ?_
    refine r_callV 25 rfl [.ref 231, .int a1] [] (Nat.le_of_ble_eq_true rfl) rfl (T_X11_four_231 _ hI81 a1 (by rw [((gI_sI_ne (by decide)).trans hv83)]; omega)) ?_
    rintro _ _ ⟨g86, rfl, hI87, hF88, rfl, hr90⟩
    refine At.stn ?_
    have hF91 := Fr.tr hF82 hF88 rfl rfl
    rw [((gI_sI_ne (by decide)).trans hv83)] at hr90
    obtain ⟨v92, hv92⟩ : ∃ v, gI g86 231 8 = v := ⟨_, rfl⟩
    rw [hv92] at hr90
    refine At.enter rfl ?_
    refine r_aload_n rfl ?_
    refine r_iload_n rfl ?_
    refine r_callV 30 rfl [.ref 231, .int a2] [] (Nat.le_of_ble_eq_true rfl) rfl (T_X11_four_231 _ hI87 a2 (by rw [hv92]; omega)) ?_
    rintro _ _ ⟨g93, rfl, hI94, hF95, rfl, hr97⟩
    refine At.stn ?_
    have hF98 := Fr.tr hF91 hF95 rfl rfl
    rw [hv92] at hr97
    obtain ⟨v99, hv99⟩ : ∃ v, gI g93 231 8 = v := ⟨_, rfl⟩
    rw [hv99] at hr97
    refine At.enter rfl ?_
    refine r_aload_n rfl ?_
    refine r_iload_n rfl ?_
    refine r_callV 35 rfl [.ref 231, .int a3] [] (Nat.le_of_ble_eq_true rfl) rfl (T_X11_four_231 _ hI94 a3 (by rw [hv99]; omega)) ?_
    rintro _ _ ⟨g100, rfl, hI101, hF102, rfl, hr104⟩
    refine At.stn ?_
    have hF105 := Fr.tr hF98 hF102 rfl rfl
    rw [hv99] at hr104
    obtain ⟨v106, hv106⟩ : ∃ v, gI g100 231 8 = v := ⟨_, rfl⟩
    rw [hv106] at hr104
    refine At.enter rfl ?_
    refine r_aload_n rfl ?_
    refine r_iload rfl ?_
    refine r_callV 41 rfl [.ref 231, .int a4] [] (Nat.le_of_ble_eq_true rfl) rfl (T_X11_four_231 _ hI101 a4 (by rw [hv106]; omega)) ?_
    rintro _ _ ⟨g107, rfl, hI108, hF109, rfl, hr111⟩
    refine At.stn ?_
    have hF112 := Fr.tr hF105 hF109 rfl rfl
    rw [hv106] at hr111
    obtain ⟨v113, hv113⟩ : ∃ v, gI g107 231 8 = v := ⟨_, rfl⟩
    rw [hv113] at hr111
    refine At.enter rfl ?_
    refine r_aload_n rfl ?_
    refine r_iload rfl ?_
    refine r_callV 47 rfl [.ref 231, .int a5] [] (Nat.le_of_ble_eq_true rfl) rfl (T_X11_four_231 _ hI108 a5 (by rw [hv113]; omega)) ?_
    rintro _ _ ⟨g114, rfl, hI115, hF116, rfl, hr118⟩
    refine At.stn ?_
    have hF119 := Fr.tr hF112 hF116 rfl rfl
    rw [hv113] at hr118
    obtain ⟨v120, hv120⟩ : ∃ v, gI g114 231 8 = v := ⟨_, rfl⟩
    rw [hv120] at hr118
    refine At.enter rfl ?_
    refine r_aload_n rfl ?_
    refine q_getI (Sh.int hI115.1 kx_231 rfl) v120 hv120 ?_
    refine r_ireti ?_
    have x121 := HI.eqI hI115 (p := 231) (b := 8) (hv120)
    have x122 := HI.eqI hI0 (p := 231) (b := 8) (hv83)
    exact ⟨_, rfl, hI115, hF119, _, rfl, by omega, (by omega)⟩
  · have c85_ : v84.toInt > 400 := en_i_le_f c85
    refine At.enter rfl ?_
    refine r_iconst (-1) rfl ?_
    refine r_ireti ?_
    have zv123 : ((-1) : Int32).toInt = (-1) := rfl
    have x124 := HI.eqI hI81 (p := 231) (b := 8) (((gI_sI_ne (by decide)).trans hv83))
    have x125 := HI.eqI hI0 (p := 231) (b := 8) (hv83)
    exact ⟨_, rfl, hI81, hF82, _, rfl, by decide, (by omega)⟩

def F_X11_force_231 : List (Nat × Nat) := [(231, 0), (231, 1)]
def A_X11_force_231 : List Nat := [232, 233]
set_option maxRecDepth 100000 in
set_option maxHeartbeats 4000000 in
theorem T_X11_force_231 (d : Nat) {N : Nat} {g0 : List en_E} (hI0 : HI g0) (a1 : Int32) : Ev (d + 3) 211 [.ref 231, .int a1] (g0, N) (fun w h' => ∃ g', h' = (g', N) ∧ HI g' ∧ Fr F_X11_force_231 A_X11_force_231 g0 g' ∧ ∃ r : Int32, w = some (.int r) ∧ ((-2) ≤ r.toInt ∧ r.toInt ≤ 5) ∧ ((eA g' 233 0).toInt = (eA g0 233 0).toInt ∧ (eA g' 233 4).toInt = (eA g0 233 4).toInt ∧ (eA g' 233 5).toInt = (eA g0 233 5).toInt ∧ (eA g' 233 6).toInt = (eA g0 233 6).toInt)) := by
  have hF0 : Fr F_X11_force_231 A_X11_force_231 g0 g0 := Fr.rf
  refine Ev.mk rfl rfl ⟨Nat.le_of_ble_eq_true rfl, Or.inr (q_rc hI0.1 kx_231 rfl)⟩ ?_
  show At _ none _ _ (0, [(0, .ref 231), (1, .int a1)], [], (_, _)) _
  refine At.enter rfl ?_
  refine r_aload_n rfl ?_
  refine r_iconst 0 rfl ?_
  refine q_putI (Sh.int hI0.1 kx_231 rfl) rfl ?_
  have hI73 := HI.wI0 hI0 kx_231 rfl (p := 231) (b := 0) (v := 0) rfl
  have hF74 := Fr.wI (p := 231) (b := 0) (v := 0) hF0 rfl
  refine r_iload_n rfl ?_
  refine r_iconst (-1) rfl ?_
  refine r_ics 10 rfl (fun c75 => ?_) (fun c75 => ?_)
  · have c75_ : a1.toInt = (-1) := en_i_eq_t c75
    refine At.enter rfl ?_
    refine r_aload_n rfl ?_
    refine r_iconst 3 rfl ?_
    refine r_iload_n rfl ?_
    refine q_inlV 34 rfl [.ref 231, .int 3, .int a1] [] (Nat.le_of_ble_eq_true rfl) rfl ?_
    refine Ev.mk rfl rfl ⟨Nat.le_of_ble_eq_true rfl, Or.inr (q_rc hI73.1 kx_231 rfl)⟩ ?_
    show At _ none _ _ (0, [(0, .ref 231), (1, .int 3), (2, .int a1)], [], (_, _)) _
    refine At.enter rfl ?_
    refine r_aload_n rfl ?_
    refine q_getR (Sh.ref hI73.1 kx_231 rfl) ?_
    refine r_iload_n rfl ?_
    obtain ⟨v76, hv76⟩ : ∃ v, eA g0 233 3 = v := ⟨_, rfl⟩
    have wv76 := HI.t3 hI0
    rw [hv76] at wv76
    refine q_iald (Sh.arr hI73.1 ka_233) 3 rfl (by decide) v76 ((eA_c (gA_sI)).trans hv76) ?_
    refine r_istore_n ([(3, .int v76), (0, .ref 231), (1, .int 3), (2, .int a1)]) rfl ?_
    refine r_aload_n rfl ?_
    refine q_getR (Sh.ref hI73.1 kx_231 rfl) ?_
    refine r_iload_n rfl ?_
    refine r_iload_n rfl ?_
    refine q_iast (Sh.arr hI73.1 ka_233) (3) rfl (by decide) ?_
    obtain ⟨v79, hv79⟩ : ∃ v, eA g0 233 2 = v := ⟨_, rfl⟩
    have tv79 := congrArg Int32.toInt hv79
    have wv79 := HI.t2 hI0
    rw [hv79] at wv79
    have tv79 := congrArg Int32.toInt hv79
    have x80 := HI.eqA hI73 (p := 233) (j := 2) (((eA_c gA_sI).trans hv79))
    have hI77 := HI.wt hI73 (j := 3) (v := a1) (by omega) (by omega)
    have hF78 := Fr.wA (p := 233) (j := 3) (v := a1) hF74 rfl
    refine r_aload_n rfl ?_
    refine r_iload_n rfl ?_
    refine q_inlV 19 rfl [.ref 231, .int v76] [] (Nat.le_of_ble_eq_true rfl) rfl ?_
    refine Ev.mk rfl rfl ⟨Nat.le_of_ble_eq_true rfl, Or.inr (q_rc hI77.1 kx_231 rfl)⟩ ?_
    show At _ none _ _ (0, [(0, .ref 231), (1, .int v76)], [], (_, _)) _
    refine At.enter rfl ?_
    refine r_aload_n rfl ?_
    refine r_iconst 0 rfl ?_
    refine q_putI (Sh.int hI77.1 kx_231 rfl) rfl ?_
    have hI81 := HI.wI0 hI77 kx_231 rfl (p := 231) (b := 1) (v := 0) rfl
    have hF82 := Fr.wI (p := 231) (b := 1) (v := 0) hF78 rfl
    refine r_iload_n rfl ?_
    refine q_ireti ?_
    refine At.enter rfl ?_
    refine q_ireti ?_
    refine At.enter rfl ?_
    refine r_goto ?_
    refine At.enter rfl ?_
    refine r_ireti ?_
    obtain ⟨v83, hv83⟩ : ∃ v, eA g0 233 0 = v := ⟨_, rfl⟩
    have tv83 := congrArg Int32.toInt hv83
    have wv83 := HI.t0 hI0
    rw [hv83] at wv83
    have tv83 := congrArg Int32.toInt hv83
    have x84 := HI.eqA hI81 (p := 233) (j := 0) ((((eA_c gA_sI).trans ((eA_sA_ne hI73.1 ka_233 (by first | decide | omega) (by first | decide | omega) (by first | decide | omega)).trans (eA_c gA_sI))).trans hv83))
    obtain ⟨v85, hv85⟩ : ∃ v, eA g0 233 4 = v := ⟨_, rfl⟩
    have wv85 := HI.t4 hI0
    rw [hv85] at wv85
    have tv85 := congrArg Int32.toInt hv85
    have x86 := HI.eqA hI81 (p := 233) (j := 4) ((((eA_c gA_sI).trans ((eA_sA_ne hI73.1 ka_233 (by first | decide | omega) (by first | decide | omega) (by first | decide | omega)).trans (eA_c gA_sI))).trans hv85))
    obtain ⟨v87, hv87⟩ : ∃ v, eA g0 233 5 = v := ⟨_, rfl⟩
    have wv87 := HI.t5 hI0
    rw [hv87] at wv87
    have tv87 := congrArg Int32.toInt hv87
    have x88 := HI.eqA hI81 (p := 233) (j := 5) ((((eA_c gA_sI).trans ((eA_sA_ne hI73.1 ka_233 (by first | decide | omega) (by first | decide | omega) (by first | decide | omega)).trans (eA_c gA_sI))).trans hv87))
    obtain ⟨v89, hv89⟩ : ∃ v, eA g0 233 6 = v := ⟨_, rfl⟩
    have wv89 := HI.t6 hI0
    rw [hv89] at wv89
    have tv89 := congrArg Int32.toInt hv89
    have x90 := HI.eqA hI81 (p := 233) (j := 6) ((((eA_c gA_sI).trans ((eA_sA_ne hI73.1 ka_233 (by first | decide | omega) (by first | decide | omega) (by first | decide | omega)).trans (eA_c gA_sI))).trans hv89))
    have x91 := HI.eqA hI0 (p := 233) (j := 0) (hv83)
    have x92 := HI.eqA hI0 (p := 233) (j := 4) (hv85)
    have x93 := HI.eqA hI0 (p := 233) (j := 5) (hv87)
    have x94 := HI.eqA hI0 (p := 233) (j := 6) (hv89)
    exact ⟨_, rfl, hI81, hF82, _, rfl, by omega, ⟨by omega, by omega, by omega, by omega⟩⟩
  · have c75_ : a1.toInt ≠ (-1) := en_i_eq_f c75
    refine At.enter rfl ?_
    refine r_iload_n rfl ?_
    refine q_i2l (fun v95 hv95 => ?_)
    refine r_lconst 0 rfl ?_
    refine r_aload_n rfl ?_
    refine q_getR (Sh.ref hI73.1 kx_231 rfl) ?_
    refine r_iconst 2 rfl ?_
    obtain ⟨v96, hv96⟩ : ∃ v, eA g0 233 2 = v := ⟨_, rfl⟩
    have tv96 := congrArg Int32.toInt hv96
    have wv96 := HI.t2 hI0
    rw [hv96] at wv96
    refine q_iald (Sh.arr hI73.1 ka_233) 2 rfl (by decide) v96 ((eA_c (gA_sI)).trans hv96) ?_
    refine q_i2l (fun v97 hv97 => ?_)
    refine r_lconst 1 rfl ?_
    refine q_lsub (v97.toInt - 1) rfl (by omega) (fun v98 hv98 => ?_)
    refine q_inlS 25 rfl [.long v95, .long 0, .long v98] [] (Nat.le_of_ble_eq_true rfl) rfl ?_
    refine Ev.mk rfl rfl ⟨Nat.le_of_ble_eq_true rfl, Or.inl rfl⟩ ?_
    show At _ none _ _ (0, [(0, .long v95), (2, .long 0), (4, .long v98)], [], (_, _)) _
    refine At.enter rfl ?_
    refine r_lload_n rfl ?_
    refine r_lload_n rfl ?_
    refine r_lcmp _ rfl ?_
    refine r_ifs 6 rfl (fun c99 => ?_) (fun c99 => ?_)
    · have c99_ : v95.toInt < 0 := en_j_lt_t c99
      refine At.enter rfl ?_
      refine r_iconst 0 rfl ?_
      refine Ar.fall 18 rfl ?_
      refine At.enter rfl ?_
      refine q_iretz (by decide) ?_
      refine At.enter rfl ?_
      refine r_ift (by decide) ?_
      refine At.enter rfl ?_
      refine r_aload_n rfl ?_
      refine r_bipush (-2) rfl ?_
      refine r_callV 43 rfl [.ref 231, .int (-2)] [] (Nat.le_of_ble_eq_true rfl) rfl (T_X11_tell_231 _ hI73 (-2) (by decide)) ?_
      rintro _ _ ⟨g100, rfl, hI101, hF102, v103, rfl, hr104⟩
      refine At.sti ?_
      have hF105 := Fr.tr hF74 hF102 rfl rfl
      have zv106 : ((-2) : Int32).toInt = (-2) := rfl
      refine At.enter rfl ?_
      refine r_ireti ?_
      obtain ⟨v107, hv107⟩ : ∃ v, eA g0 233 0 = v := ⟨_, rfl⟩
      have tv107 := congrArg Int32.toInt hv107
      have wv107 := HI.t0 hI0
      rw [hv107] at wv107
      have tv107 := congrArg Int32.toInt hv107
      have x108 := HI.eqA hI101 (p := 233) (j := 0) ((((eA_c (hF102.2.1 233 (by decide))).trans (eA_c gA_sI)).trans hv107))
      obtain ⟨v109, hv109⟩ : ∃ v, eA g0 233 4 = v := ⟨_, rfl⟩
      have wv109 := HI.t4 hI0
      rw [hv109] at wv109
      have tv109 := congrArg Int32.toInt hv109
      have x110 := HI.eqA hI101 (p := 233) (j := 4) ((((eA_c (hF102.2.1 233 (by decide))).trans (eA_c gA_sI)).trans hv109))
      obtain ⟨v111, hv111⟩ : ∃ v, eA g0 233 5 = v := ⟨_, rfl⟩
      have wv111 := HI.t5 hI0
      rw [hv111] at wv111
      have tv111 := congrArg Int32.toInt hv111
      have x112 := HI.eqA hI101 (p := 233) (j := 5) ((((eA_c (hF102.2.1 233 (by decide))).trans (eA_c gA_sI)).trans hv111))
      obtain ⟨v113, hv113⟩ : ∃ v, eA g0 233 6 = v := ⟨_, rfl⟩
      have wv113 := HI.t6 hI0
      rw [hv113] at wv113
      have tv113 := congrArg Int32.toInt hv113
      have x114 := HI.eqA hI101 (p := 233) (j := 6) ((((eA_c (hF102.2.1 233 (by decide))).trans (eA_c gA_sI)).trans hv113))
      have x115 := HI.eqA hI0 (p := 233) (j := 0) (hv107)
      have x116 := HI.eqA hI0 (p := 233) (j := 4) (hv109)
      have x117 := HI.eqA hI0 (p := 233) (j := 5) (hv111)
      have x118 := HI.eqA hI0 (p := 233) (j := 6) (hv113)
      exact ⟨_, rfl, hI101, hF105, _, rfl, by omega, ⟨by omega, by omega, by omega, by omega⟩⟩
    · have c99_ : v95.toInt ≥ 0 := en_j_lt_f c99
      refine At.enter rfl ?_
      refine r_lload_n rfl ?_
      refine r_lload rfl ?_
      refine r_lcmp _ rfl ?_
      refine r_ifs 13 rfl (fun c119 => ?_) (fun c119 => ?_)
      · have c119_ : v95.toInt > v98.toInt := en_j_gt_t c119
        refine At.enter rfl ?_
        refine r_iconst 0 rfl ?_
        refine Ar.fall 18 rfl ?_
        refine At.enter rfl ?_
        refine q_iretz (by decide) ?_
        refine At.enter rfl ?_
        refine r_ift (by decide) ?_
        refine At.enter rfl ?_
        refine r_aload_n rfl ?_
        refine r_bipush (-2) rfl ?_
        refine r_callV 43 rfl [.ref 231, .int (-2)] [] (Nat.le_of_ble_eq_true rfl) rfl (T_X11_tell_231 _ hI73 (-2) (by decide)) ?_
        rintro _ _ ⟨g120, rfl, hI121, hF122, v123, rfl, hr124⟩
        refine At.sti ?_
        have hF125 := Fr.tr hF74 hF122 rfl rfl
        have zv126 : ((-2) : Int32).toInt = (-2) := rfl
        refine At.enter rfl ?_
        refine r_ireti ?_
        obtain ⟨v127, hv127⟩ : ∃ v, eA g0 233 0 = v := ⟨_, rfl⟩
        have tv127 := congrArg Int32.toInt hv127
        have wv127 := HI.t0 hI0
        rw [hv127] at wv127
        have tv127 := congrArg Int32.toInt hv127
        have x128 := HI.eqA hI121 (p := 233) (j := 0) ((((eA_c (hF122.2.1 233 (by decide))).trans (eA_c gA_sI)).trans hv127))
        obtain ⟨v129, hv129⟩ : ∃ v, eA g0 233 4 = v := ⟨_, rfl⟩
        have wv129 := HI.t4 hI0
        rw [hv129] at wv129
        have tv129 := congrArg Int32.toInt hv129
        have x130 := HI.eqA hI121 (p := 233) (j := 4) ((((eA_c (hF122.2.1 233 (by decide))).trans (eA_c gA_sI)).trans hv129))
        obtain ⟨v131, hv131⟩ : ∃ v, eA g0 233 5 = v := ⟨_, rfl⟩
        have wv131 := HI.t5 hI0
        rw [hv131] at wv131
        have tv131 := congrArg Int32.toInt hv131
        have x132 := HI.eqA hI121 (p := 233) (j := 5) ((((eA_c (hF122.2.1 233 (by decide))).trans (eA_c gA_sI)).trans hv131))
        obtain ⟨v133, hv133⟩ : ∃ v, eA g0 233 6 = v := ⟨_, rfl⟩
        have wv133 := HI.t6 hI0
        rw [hv133] at wv133
        have tv133 := congrArg Int32.toInt hv133
        have x134 := HI.eqA hI121 (p := 233) (j := 6) ((((eA_c (hF122.2.1 233 (by decide))).trans (eA_c gA_sI)).trans hv133))
        have x135 := HI.eqA hI0 (p := 233) (j := 0) (hv127)
        have x136 := HI.eqA hI0 (p := 233) (j := 4) (hv129)
        have x137 := HI.eqA hI0 (p := 233) (j := 5) (hv131)
        have x138 := HI.eqA hI0 (p := 233) (j := 6) (hv133)
        exact ⟨_, rfl, hI121, hF125, _, rfl, by omega, ⟨by omega, by omega, by omega, by omega⟩⟩
      · have c119_ : v95.toInt ≤ v98.toInt := en_j_gt_f c119
        refine At.enter rfl ?_
        refine r_iconst 1 rfl ?_
        refine r_goto ?_
        refine At.enter rfl ?_
        refine q_iretz (by decide) ?_
        refine At.enter rfl ?_
        refine r_iff 28 rfl (by decide) ?_
        refine At.enter rfl ?_
        refine r_aload_n rfl ?_
        refine r_iconst 3 rfl ?_
        refine r_iload_n rfl ?_
        refine q_inlV 34 rfl [.ref 231, .int 3, .int a1] [] (Nat.le_of_ble_eq_true rfl) rfl ?_
        refine Ev.mk rfl rfl ⟨Nat.le_of_ble_eq_true rfl, Or.inr (q_rc hI73.1 kx_231 rfl)⟩ ?_
        show At _ none _ _ (0, [(0, .ref 231), (1, .int 3), (2, .int a1)], [], (_, _)) _
        refine At.enter rfl ?_
        refine r_aload_n rfl ?_
        refine q_getR (Sh.ref hI73.1 kx_231 rfl) ?_
        refine r_iload_n rfl ?_
        obtain ⟨v139, hv139⟩ : ∃ v, eA g0 233 3 = v := ⟨_, rfl⟩
        have wv139 := HI.t3 hI0
        rw [hv139] at wv139
        refine q_iald (Sh.arr hI73.1 ka_233) 3 rfl (by decide) v139 ((eA_c (gA_sI)).trans hv139) ?_
        refine r_istore_n ([(3, .int v139), (0, .ref 231), (1, .int 3), (2, .int a1)]) rfl ?_
        refine r_aload_n rfl ?_
        refine q_getR (Sh.ref hI73.1 kx_231 rfl) ?_
        refine r_iload_n rfl ?_
        refine r_iload_n rfl ?_
        refine q_iast (Sh.arr hI73.1 ka_233) (3) rfl (by decide) ?_
        have x142 := HI.eqA hI73 (p := 233) (j := 2) (((eA_c gA_sI).trans hv96))
        have hI140 := HI.wt hI73 (j := 3) (v := a1) (by omega) (by omega)
        have hF141 := Fr.wA (p := 233) (j := 3) (v := a1) hF74 rfl
        refine r_aload_n rfl ?_
        refine r_iload_n rfl ?_
        refine q_inlV 19 rfl [.ref 231, .int v139] [] (Nat.le_of_ble_eq_true rfl) rfl ?_
        refine Ev.mk rfl rfl ⟨Nat.le_of_ble_eq_true rfl, Or.inr (q_rc hI140.1 kx_231 rfl)⟩ ?_
        show At _ none _ _ (0, [(0, .ref 231), (1, .int v139)], [], (_, _)) _
        refine At.enter rfl ?_
        refine r_aload_n rfl ?_
        refine r_iconst 0 rfl ?_
        refine q_putI (Sh.int hI140.1 kx_231 rfl) rfl ?_
        have hI143 := HI.wI0 hI140 kx_231 rfl (p := 231) (b := 1) (v := 0) rfl
        have hF144 := Fr.wI (p := 231) (b := 1) (v := 0) hF141 rfl
        refine r_iload_n rfl ?_
        refine q_ireti ?_
        refine At.enter rfl ?_
        refine q_ireti ?_
        refine At.enter rfl ?_
        refine r_goto ?_
        refine At.enter rfl ?_
        refine r_ireti ?_
        obtain ⟨v145, hv145⟩ : ∃ v, eA g0 233 0 = v := ⟨_, rfl⟩
        have tv145 := congrArg Int32.toInt hv145
        have wv145 := HI.t0 hI0
        rw [hv145] at wv145
        have tv145 := congrArg Int32.toInt hv145
        have x146 := HI.eqA hI143 (p := 233) (j := 0) ((((eA_c gA_sI).trans ((eA_sA_ne hI73.1 ka_233 (by first | decide | omega) (by first | decide | omega) (by first | decide | omega)).trans (eA_c gA_sI))).trans hv145))
        obtain ⟨v147, hv147⟩ : ∃ v, eA g0 233 4 = v := ⟨_, rfl⟩
        have wv147 := HI.t4 hI0
        rw [hv147] at wv147
        have tv147 := congrArg Int32.toInt hv147
        have x148 := HI.eqA hI143 (p := 233) (j := 4) ((((eA_c gA_sI).trans ((eA_sA_ne hI73.1 ka_233 (by first | decide | omega) (by first | decide | omega) (by first | decide | omega)).trans (eA_c gA_sI))).trans hv147))
        obtain ⟨v149, hv149⟩ : ∃ v, eA g0 233 5 = v := ⟨_, rfl⟩
        have wv149 := HI.t5 hI0
        rw [hv149] at wv149
        have tv149 := congrArg Int32.toInt hv149
        have x150 := HI.eqA hI143 (p := 233) (j := 5) ((((eA_c gA_sI).trans ((eA_sA_ne hI73.1 ka_233 (by first | decide | omega) (by first | decide | omega) (by first | decide | omega)).trans (eA_c gA_sI))).trans hv149))
        obtain ⟨v151, hv151⟩ : ∃ v, eA g0 233 6 = v := ⟨_, rfl⟩
        have wv151 := HI.t6 hI0
        rw [hv151] at wv151
        have tv151 := congrArg Int32.toInt hv151
        have x152 := HI.eqA hI143 (p := 233) (j := 6) ((((eA_c gA_sI).trans ((eA_sA_ne hI73.1 ka_233 (by first | decide | omega) (by first | decide | omega) (by first | decide | omega)).trans (eA_c gA_sI))).trans hv151))
        have x153 := HI.eqA hI0 (p := 233) (j := 0) (hv145)
        have x154 := HI.eqA hI0 (p := 233) (j := 4) (hv147)
        have x155 := HI.eqA hI0 (p := 233) (j := 5) (hv149)
        have x156 := HI.eqA hI0 (p := 233) (j := 6) (hv151)
        exact ⟨_, rfl, hI143, hF144, _, rfl, by omega, ⟨by omega, by omega, by omega, by omega⟩⟩

def F_X11_swap_231 : List (Nat × Nat) := [(231, 0), (231, 1)]
def A_X11_swap_231 : List Nat := [232, 233]
set_option maxRecDepth 100000 in
set_option maxHeartbeats 4000000 in
theorem T_X11_swap_231 (d : Nat) {N : Nat} {g0 : List en_E} (hI0 : HI g0) (a1 : Int32) (a2 : Int32) : Ev (d + 3) 240 [.ref 231, .int a1, .int a2] (g0, N) (fun w h' => ∃ g', h' = (g', N) ∧ HI g' ∧ Fr F_X11_swap_231 A_X11_swap_231 g0 g' ∧ ∃ r : Int32, w = some (.int r) ∧ ((-3) ≤ r.toInt ∧ r.toInt ≤ 0) ∧ (((¬ (0 ≤ a1.toInt ∧ a1.toInt < (eA g0 233 0).toInt ∧ 0 ≤ a2.toInt ∧ a2.toInt < (eA g0 233 0).toInt) → r.toInt = -2) ∧ ((0 ≤ a1.toInt ∧ a1.toInt < (eA g0 233 0).toInt ∧ 0 ≤ a2.toInt ∧ a2.toInt < (eA g0 233 0).toInt) ∧ a1.toInt = a2.toInt → r.toInt = -3) ∧ ((0 ≤ a1.toInt ∧ a1.toInt < (eA g0 233 0).toInt ∧ 0 ≤ a2.toInt ∧ a2.toInt < (eA g0 233 0).toInt) ∧ a1.toInt ≠ a2.toInt → r.toInt = 0)) ∧ (eA g' 233 0).toInt = (eA g0 233 0).toInt ∧ (eA g' 233 4).toInt = (eA g0 233 4).toInt ∧ (eA g' 233 5).toInt = (eA g0 233 5).toInt ∧ (eA g' 233 6).toInt = (eA g0 233 6).toInt)) := by
  have hF0 : Fr F_X11_swap_231 A_X11_swap_231 g0 g0 := Fr.rf
  refine Ev.mk rfl rfl ⟨Nat.le_of_ble_eq_true rfl, Or.inr (q_rc hI0.1 kx_231 rfl)⟩ ?_
  show At _ none _ _ (0, [(0, .ref 231), (1, .int a1), (2, .int a2)], [], (_, _)) _
  refine At.enter rfl ?_
  refine r_aload_n rfl ?_
  refine r_iconst 0 rfl ?_
  refine q_putI (Sh.int hI0.1 kx_231 rfl) rfl ?_
  have hI349 := HI.wI0 hI0 kx_231 rfl (p := 231) (b := 0) (v := 0) rfl
  have hF350 := Fr.wI (p := 231) (b := 0) (v := 0) hF0 rfl
  refine r_aload_n rfl ?_
  refine r_iload_n rfl ?_
  refine q_inlV 10 rfl [.ref 231, .int a1] [] (Nat.le_of_ble_eq_true rfl) rfl ?_
  refine Ev.mk rfl rfl ⟨Nat.le_of_ble_eq_true rfl, Or.inr (q_rc hI349.1 kx_231 rfl)⟩ ?_
  show At _ none _ _ (0, [(0, .ref 231), (1, .int a1)], [], (_, _)) _
  refine At.enter rfl ?_
  refine r_iload_n rfl ?_
  refine q_i2l (fun v351 hv351 => ?_)
  refine r_lconst 0 rfl ?_
  refine r_aload_n rfl ?_
  refine q_getR (Sh.ref hI349.1 kx_231 rfl) ?_
  refine r_iconst 0 rfl ?_
  obtain ⟨v352, hv352⟩ : ∃ v, eA g0 233 0 = v := ⟨_, rfl⟩
  have tv352 := congrArg Int32.toInt hv352
  have wv352 := HI.t0 hI0
  rw [hv352] at wv352
  refine q_iald (Sh.arr hI349.1 ka_233) 0 rfl (by decide) v352 ((eA_c (gA_sI)).trans hv352) ?_
  refine q_i2l (fun v353 hv353 => ?_)
  refine r_lconst 1 rfl ?_
  refine q_lsub (v353.toInt - 1) rfl (by omega) (fun v354 hv354 => ?_)
  refine q_inlS 15 rfl [.long v351, .long 0, .long v354] [] (Nat.le_of_ble_eq_true rfl) rfl ?_
  refine Ev.mk rfl rfl ⟨Nat.le_of_ble_eq_true rfl, Or.inl rfl⟩ ?_
  show At _ none _ _ (0, [(0, .long v351), (2, .long 0), (4, .long v354)], [], (_, _)) _
  refine At.enter rfl ?_
  refine r_lload_n rfl ?_
  refine r_lload_n rfl ?_
  refine r_lcmp _ rfl ?_
  refine r_ifs 6 rfl (fun c355 => ?_) (fun c355 => ?_)
  · have c355_ : v351.toInt < 0 := en_j_lt_t c355
    refine At.enter rfl ?_
    refine r_iconst 0 rfl ?_
    refine Ar.fall 18 rfl ?_
    refine At.enter rfl ?_
    refine q_iretz (by decide) ?_
    refine At.enter rfl ?_
    refine q_iretz (by decide) ?_
    refine At.enter rfl ?_
    refine r_ift (by decide) ?_
    refine At.enter rfl ?_
    refine r_aload_n rfl ?_
    refine r_bipush (-2) rfl ?_
    refine r_callV 27 rfl [.ref 231, .int (-2)] [] (Nat.le_of_ble_eq_true rfl) rfl (T_X11_tell_231 _ hI349 (-2) (by decide)) ?_
    rintro _ _ ⟨g356, rfl, hI357, hF358, v359, rfl, hr360⟩
    refine At.sti ?_
    have hF361 := Fr.tr hF350 hF358 rfl rfl
    have zv362 : ((-2) : Int32).toInt = (-2) := rfl
    refine At.enter rfl ?_
    refine r_ireti ?_
    have x363 := HI.eqA hI357 (p := 233) (j := 0) ((((eA_c (hF358.2.1 233 (by decide))).trans (eA_c gA_sI)).trans hv352))
    obtain ⟨v364, hv364⟩ : ∃ v, eA g0 233 4 = v := ⟨_, rfl⟩
    have wv364 := HI.t4 hI0
    rw [hv364] at wv364
    have tv364 := congrArg Int32.toInt hv364
    have x365 := HI.eqA hI357 (p := 233) (j := 4) ((((eA_c (hF358.2.1 233 (by decide))).trans (eA_c gA_sI)).trans hv364))
    obtain ⟨v366, hv366⟩ : ∃ v, eA g0 233 5 = v := ⟨_, rfl⟩
    have wv366 := HI.t5 hI0
    rw [hv366] at wv366
    have tv366 := congrArg Int32.toInt hv366
    have x367 := HI.eqA hI357 (p := 233) (j := 5) ((((eA_c (hF358.2.1 233 (by decide))).trans (eA_c gA_sI)).trans hv366))
    obtain ⟨v368, hv368⟩ : ∃ v, eA g0 233 6 = v := ⟨_, rfl⟩
    have wv368 := HI.t6 hI0
    rw [hv368] at wv368
    have tv368 := congrArg Int32.toInt hv368
    have x369 := HI.eqA hI357 (p := 233) (j := 6) ((((eA_c (hF358.2.1 233 (by decide))).trans (eA_c gA_sI)).trans hv368))
    have x370 := HI.eqA hI0 (p := 233) (j := 0) (hv352)
    have x371 := HI.eqA hI0 (p := 233) (j := 0) (hv352)
    have x372 := HI.eqA hI0 (p := 233) (j := 4) (hv364)
    have x373 := HI.eqA hI0 (p := 233) (j := 5) (hv366)
    have x374 := HI.eqA hI0 (p := 233) (j := 6) (hv368)
    exact ⟨_, rfl, hI357, hF361, _, rfl, by omega, ⟨by omega, by omega, by omega, by omega, by omega⟩⟩
  · have c355_ : v351.toInt ≥ 0 := en_j_lt_f c355
    refine At.enter rfl ?_
    refine r_lload_n rfl ?_
    refine r_lload rfl ?_
    refine r_lcmp _ rfl ?_
    refine r_ifs 13 rfl (fun c375 => ?_) (fun c375 => ?_)
    · have c375_ : v351.toInt > v354.toInt := en_j_gt_t c375
      refine At.enter rfl ?_
      refine r_iconst 0 rfl ?_
      refine Ar.fall 18 rfl ?_
      refine At.enter rfl ?_
      refine q_iretz (by decide) ?_
      refine At.enter rfl ?_
      refine q_iretz (by decide) ?_
      refine At.enter rfl ?_
      refine r_ift (by decide) ?_
      refine At.enter rfl ?_
      refine r_aload_n rfl ?_
      refine r_bipush (-2) rfl ?_
      refine r_callV 27 rfl [.ref 231, .int (-2)] [] (Nat.le_of_ble_eq_true rfl) rfl (T_X11_tell_231 _ hI349 (-2) (by decide)) ?_
      rintro _ _ ⟨g376, rfl, hI377, hF378, v379, rfl, hr380⟩
      refine At.sti ?_
      have hF381 := Fr.tr hF350 hF378 rfl rfl
      have zv382 : ((-2) : Int32).toInt = (-2) := rfl
      refine At.enter rfl ?_
      refine r_ireti ?_
      have x383 := HI.eqA hI377 (p := 233) (j := 0) ((((eA_c (hF378.2.1 233 (by decide))).trans (eA_c gA_sI)).trans hv352))
      obtain ⟨v384, hv384⟩ : ∃ v, eA g0 233 4 = v := ⟨_, rfl⟩
      have wv384 := HI.t4 hI0
      rw [hv384] at wv384
      have tv384 := congrArg Int32.toInt hv384
      have x385 := HI.eqA hI377 (p := 233) (j := 4) ((((eA_c (hF378.2.1 233 (by decide))).trans (eA_c gA_sI)).trans hv384))
      obtain ⟨v386, hv386⟩ : ∃ v, eA g0 233 5 = v := ⟨_, rfl⟩
      have wv386 := HI.t5 hI0
      rw [hv386] at wv386
      have tv386 := congrArg Int32.toInt hv386
      have x387 := HI.eqA hI377 (p := 233) (j := 5) ((((eA_c (hF378.2.1 233 (by decide))).trans (eA_c gA_sI)).trans hv386))
      obtain ⟨v388, hv388⟩ : ∃ v, eA g0 233 6 = v := ⟨_, rfl⟩
      have wv388 := HI.t6 hI0
      rw [hv388] at wv388
      have tv388 := congrArg Int32.toInt hv388
      have x389 := HI.eqA hI377 (p := 233) (j := 6) ((((eA_c (hF378.2.1 233 (by decide))).trans (eA_c gA_sI)).trans hv388))
      have x390 := HI.eqA hI0 (p := 233) (j := 0) (hv352)
      have x391 := HI.eqA hI0 (p := 233) (j := 0) (hv352)
      have x392 := HI.eqA hI0 (p := 233) (j := 4) (hv384)
      have x393 := HI.eqA hI0 (p := 233) (j := 5) (hv386)
      have x394 := HI.eqA hI0 (p := 233) (j := 6) (hv388)
      exact ⟨_, rfl, hI377, hF381, _, rfl, by omega, ⟨by omega, by omega, by omega, by omega, by omega⟩⟩
    · have c375_ : v351.toInt ≤ v354.toInt := en_j_gt_f c375
      refine At.enter rfl ?_
      refine r_iconst 1 rfl ?_
      refine r_goto ?_
      refine At.enter rfl ?_
      refine q_iretz (by decide) ?_
      refine At.enter rfl ?_
      refine q_iretz (by decide) ?_
      refine At.enter rfl ?_
      refine r_iff 13 rfl (by decide) ?_
      refine At.enter rfl ?_
      refine r_aload_n rfl ?_
      refine r_iload_n rfl ?_
      refine q_inlV 18 rfl [.ref 231, .int a2] [] (Nat.le_of_ble_eq_true rfl) rfl ?_
      refine Ev.mk rfl rfl ⟨Nat.le_of_ble_eq_true rfl, Or.inr (q_rc hI349.1 kx_231 rfl)⟩ ?_
      show At _ none _ _ (0, [(0, .ref 231), (1, .int a2)], [], (_, _)) _
      refine At.enter rfl ?_
      refine r_iload_n rfl ?_
      refine q_i2l (fun v395 hv395 => ?_)
      refine r_lconst 0 rfl ?_
      refine r_aload_n rfl ?_
      refine q_getR (Sh.ref hI349.1 kx_231 rfl) ?_
      refine r_iconst 0 rfl ?_
      refine q_iald (Sh.arr hI349.1 ka_233) 0 rfl (by decide) v352 ((eA_c (gA_sI)).trans hv352) ?_
      refine q_i2l (fun v396 hv396 => ?_)
      refine r_lconst 1 rfl ?_
      refine q_lsub (v396.toInt - 1) rfl (by omega) (fun v397 hv397 => ?_)
      refine q_inlS 15 rfl [.long v395, .long 0, .long v397] [] (Nat.le_of_ble_eq_true rfl) rfl ?_
      refine Ev.mk rfl rfl ⟨Nat.le_of_ble_eq_true rfl, Or.inl rfl⟩ ?_
      show At _ none _ _ (0, [(0, .long v395), (2, .long 0), (4, .long v397)], [], (_, _)) _
      refine At.enter rfl ?_
      refine r_lload_n rfl ?_
      refine r_lload_n rfl ?_
      refine r_lcmp _ rfl ?_
      refine r_ifs 6 rfl (fun c398 => ?_) (fun c398 => ?_)
      · have c398_ : v395.toInt < 0 := en_j_lt_t c398
        refine At.enter rfl ?_
        refine r_iconst 0 rfl ?_
        refine Ar.fall 18 rfl ?_
        refine At.enter rfl ?_
        refine q_iretz (by decide) ?_
        refine At.enter rfl ?_
        refine q_iretz (by decide) ?_
        refine At.enter rfl ?_
        refine r_iff 21 rfl (by decide) ?_
        refine At.enter rfl ?_
        refine r_aload_n rfl ?_
        refine r_bipush (-2) rfl ?_
        refine r_callV 27 rfl [.ref 231, .int (-2)] [] (Nat.le_of_ble_eq_true rfl) rfl (T_X11_tell_231 _ hI349 (-2) (by decide)) ?_
        rintro _ _ ⟨g399, rfl, hI400, hF401, v402, rfl, hr403⟩
        refine At.sti ?_
        have hF404 := Fr.tr hF350 hF401 rfl rfl
        have zv405 : ((-2) : Int32).toInt = (-2) := rfl
        refine At.enter rfl ?_
        refine r_ireti ?_
        have x406 := HI.eqA hI400 (p := 233) (j := 0) ((((eA_c (hF401.2.1 233 (by decide))).trans (eA_c gA_sI)).trans hv352))
        obtain ⟨v407, hv407⟩ : ∃ v, eA g0 233 4 = v := ⟨_, rfl⟩
        have wv407 := HI.t4 hI0
        rw [hv407] at wv407
        have tv407 := congrArg Int32.toInt hv407
        have x408 := HI.eqA hI400 (p := 233) (j := 4) ((((eA_c (hF401.2.1 233 (by decide))).trans (eA_c gA_sI)).trans hv407))
        obtain ⟨v409, hv409⟩ : ∃ v, eA g0 233 5 = v := ⟨_, rfl⟩
        have wv409 := HI.t5 hI0
        rw [hv409] at wv409
        have tv409 := congrArg Int32.toInt hv409
        have x410 := HI.eqA hI400 (p := 233) (j := 5) ((((eA_c (hF401.2.1 233 (by decide))).trans (eA_c gA_sI)).trans hv409))
        obtain ⟨v411, hv411⟩ : ∃ v, eA g0 233 6 = v := ⟨_, rfl⟩
        have wv411 := HI.t6 hI0
        rw [hv411] at wv411
        have tv411 := congrArg Int32.toInt hv411
        have x412 := HI.eqA hI400 (p := 233) (j := 6) ((((eA_c (hF401.2.1 233 (by decide))).trans (eA_c gA_sI)).trans hv411))
        have x413 := HI.eqA hI0 (p := 233) (j := 0) (hv352)
        have x414 := HI.eqA hI0 (p := 233) (j := 0) (hv352)
        have x415 := HI.eqA hI0 (p := 233) (j := 4) (hv407)
        have x416 := HI.eqA hI0 (p := 233) (j := 5) (hv409)
        have x417 := HI.eqA hI0 (p := 233) (j := 6) (hv411)
        exact ⟨_, rfl, hI400, hF404, _, rfl, by omega, ⟨by omega, by omega, by omega, by omega, by omega⟩⟩
      · have c398_ : v395.toInt ≥ 0 := en_j_lt_f c398
        refine At.enter rfl ?_
        refine r_lload_n rfl ?_
        refine r_lload rfl ?_
        refine r_lcmp _ rfl ?_
        refine r_ifs 13 rfl (fun c418 => ?_) (fun c418 => ?_)
        · have c418_ : v395.toInt > v397.toInt := en_j_gt_t c418
          refine At.enter rfl ?_
          refine r_iconst 0 rfl ?_
          refine Ar.fall 18 rfl ?_
          refine At.enter rfl ?_
          refine q_iretz (by decide) ?_
          refine At.enter rfl ?_
          refine q_iretz (by decide) ?_
          refine At.enter rfl ?_
          refine r_iff 21 rfl (by decide) ?_
          refine At.enter rfl ?_
          refine r_aload_n rfl ?_
          refine r_bipush (-2) rfl ?_
          refine r_callV 27 rfl [.ref 231, .int (-2)] [] (Nat.le_of_ble_eq_true rfl) rfl (T_X11_tell_231 _ hI349 (-2) (by decide)) ?_
          rintro _ _ ⟨g419, rfl, hI420, hF421, v422, rfl, hr423⟩
          refine At.sti ?_
          have hF424 := Fr.tr hF350 hF421 rfl rfl
          have zv425 : ((-2) : Int32).toInt = (-2) := rfl
          refine At.enter rfl ?_
          refine r_ireti ?_
          have x426 := HI.eqA hI420 (p := 233) (j := 0) ((((eA_c (hF421.2.1 233 (by decide))).trans (eA_c gA_sI)).trans hv352))
          obtain ⟨v427, hv427⟩ : ∃ v, eA g0 233 4 = v := ⟨_, rfl⟩
          have wv427 := HI.t4 hI0
          rw [hv427] at wv427
          have tv427 := congrArg Int32.toInt hv427
          have x428 := HI.eqA hI420 (p := 233) (j := 4) ((((eA_c (hF421.2.1 233 (by decide))).trans (eA_c gA_sI)).trans hv427))
          obtain ⟨v429, hv429⟩ : ∃ v, eA g0 233 5 = v := ⟨_, rfl⟩
          have wv429 := HI.t5 hI0
          rw [hv429] at wv429
          have tv429 := congrArg Int32.toInt hv429
          have x430 := HI.eqA hI420 (p := 233) (j := 5) ((((eA_c (hF421.2.1 233 (by decide))).trans (eA_c gA_sI)).trans hv429))
          obtain ⟨v431, hv431⟩ : ∃ v, eA g0 233 6 = v := ⟨_, rfl⟩
          have wv431 := HI.t6 hI0
          rw [hv431] at wv431
          have tv431 := congrArg Int32.toInt hv431
          have x432 := HI.eqA hI420 (p := 233) (j := 6) ((((eA_c (hF421.2.1 233 (by decide))).trans (eA_c gA_sI)).trans hv431))
          have x433 := HI.eqA hI0 (p := 233) (j := 0) (hv352)
          have x434 := HI.eqA hI0 (p := 233) (j := 0) (hv352)
          have x435 := HI.eqA hI0 (p := 233) (j := 4) (hv427)
          have x436 := HI.eqA hI0 (p := 233) (j := 5) (hv429)
          have x437 := HI.eqA hI0 (p := 233) (j := 6) (hv431)
          exact ⟨_, rfl, hI420, hF424, _, rfl, by omega, ⟨by omega, by omega, by omega, by omega, by omega⟩⟩
        · have c418_ : v395.toInt ≤ v397.toInt := en_j_gt_f c418
          refine At.enter rfl ?_
          refine r_iconst 1 rfl ?_
          refine r_goto ?_
          refine At.enter rfl ?_
          refine q_iretz (by decide) ?_
          refine At.enter rfl ?_
          refine q_iretz (by decide) ?_
          refine At.enter rfl ?_
          refine r_ift (by decide) ?_
          refine At.enter rfl ?_
          refine r_iload_n rfl ?_
          refine r_iload_n rfl ?_
          refine r_ics 33 rfl (fun c438 => ?_) (fun c438 => ?_)
          · have c438_ : a1.toInt ≠ a2.toInt := en_i_ne_t c438
            refine At.enter rfl ?_
            refine r_iconst 1 rfl ?_
            refine r_istore_n ([(3, .int 1), (0, .ref 231), (1, .int a1), (2, .int a2)]) rfl ?_
            refine Ar.fall 42 rfl ?_
            obtain ⟨v439, hv439⟩ : ∃ v, eA g0 233 4 = v := ⟨_, rfl⟩
            have wv439 := HI.t4 hI0
            rw [hv439] at wv439
            have tv439 := congrArg Int32.toInt hv439
            obtain ⟨v440, hv440⟩ : ∃ v, eA g0 233 5 = v := ⟨_, rfl⟩
            have wv440 := HI.t5 hI0
            rw [hv440] at wv440
            have tv440 := congrArg Int32.toInt hv440
            obtain ⟨v441, hv441⟩ : ∃ v, eA g0 233 6 = v := ⟨_, rfl⟩
            have wv441 := HI.t6 hI0
            rw [hv441] at wv441
            have tv441 := congrArg Int32.toInt hv441
            have z_531 : (1 : Int32).toInt = 1 := rfl
            refine w_loopI (fun n_ l_ g_ => ∃ x515 : Int32, n_ = 3 - x515.toInt ∧ HI g_ ∧ Fr F_X11_swap_231 A_X11_swap_231 g0 g_ ∧ eA g_ 233 0 = v352 ∧ eA g_ 233 4 = v439 ∧ eA g_ 233 5 = v440 ∧ eA g_ 233 6 = v441 ∧ en_get 0 l_ = some (.ref 231) ∧ en_get 1 l_ = some (.int a1) ∧ en_get 2 l_ = some (.int a2) ∧ en_get 3 l_ = some (.int x515) ∧ (1 ≤ x515.toInt ∧ x515.toInt ≤ 3)) ?_ (3 - 1) ⟨1, by first | rfl | omega, hI349, hF350, ((eA_c gA_sI).trans hv352), ((eA_c gA_sI).trans hv439), ((eA_c gA_sI).trans hv440), ((eA_c gA_sI).trans hv441), rfl, rfl, rfl, rfl, by decide⟩
            rintro n520 l519 g516 ⟨x515, hm532, hI517, hF518, e522, e523, e524, e525, e526, e527, e528, e529, r530⟩ ih521
            have tv533 := congrArg Int32.toInt e522
            have tv534 := congrArg Int32.toInt e523
            have tv535 := congrArg Int32.toInt e524
            have tv536 := congrArg Int32.toInt e525
            refine At.enter rfl ?_
            refine r_iload_n e529 ?_
            refine r_iconst 3 rfl ?_
            refine r_ics 47 rfl (fun c537 => ?_) (fun c537 => ?_)
            · have c537_ : x515.toInt ≥ 3 := en_i_ge_t c537
              refine At.enter rfl ?_
              refine r_aload_n e526 ?_
              refine r_iconst 0 rfl ?_
              refine r_callV 114 rfl [.ref 231, .int 0] [] (Nat.le_of_ble_eq_true rfl) rfl (T_X11_tell_231 _ hI517 0 (by decide)) ?_
              rintro _ _ ⟨g538, rfl, hI539, hF540, v541, rfl, hr542⟩
              refine At.sti ?_
              have hF543 := Fr.tr hF518 hF540 rfl rfl
              have zv544 : (0 : Int32).toInt = 0 := rfl
              refine At.enter rfl ?_
              refine r_ireti ?_
              have x545 := HI.eqA hI539 (p := 233) (j := 0) (((eA_c (hF540.2.1 233 (by decide))).trans e522))
              have x546 := HI.eqA hI539 (p := 233) (j := 4) (((eA_c (hF540.2.1 233 (by decide))).trans e523))
              have x547 := HI.eqA hI539 (p := 233) (j := 5) (((eA_c (hF540.2.1 233 (by decide))).trans e524))
              have x548 := HI.eqA hI539 (p := 233) (j := 6) (((eA_c (hF540.2.1 233 (by decide))).trans e525))
              have x549 := HI.eqA hI0 (p := 233) (j := 0) (hv352)
              have x550 := HI.eqA hI0 (p := 233) (j := 0) (hv352)
              have x551 := HI.eqA hI0 (p := 233) (j := 4) (hv439)
              have x552 := HI.eqA hI0 (p := 233) (j := 5) (hv440)
              have x553 := HI.eqA hI0 (p := 233) (j := 6) (hv441)
              exact ⟨_, rfl, hI539, hF543, _, rfl, by omega, ⟨by omega, by omega, by omega, by omega, by omega⟩⟩
            · have c537_ : x515.toInt < 3 := en_i_ge_f c537
              refine At.enter rfl ?_
              refine r_aload_n e526 ?_
              refine q_getR (Sh.ref hI517.1 kx_231 rfl) ?_
              refine r_bipush 10 rfl ?_
              refine r_iconst 3 rfl ?_
              refine r_iload_n e527 ?_
              refine q_imul (3 * a1.toInt) rfl (by omega) (fun v554 hv554 => ?_)
              refine q_iadd (10 + v554.toInt) rfl (by omega) (fun v555 hv555 => ?_)
              refine r_iload_n e529 ?_
              refine q_iadd (v555.toInt + x515.toInt) rfl (by omega) (fun v556 hv556 => ?_)
              obtain ⟨v557, hv557⟩ : ∃ v, eA g516 233 (3 * a1.toInt + x515.toInt + 10) = v := ⟨_, rfl⟩
              have wv557 := HI.s12 hI517 (j := (3 * a1.toInt + x515.toInt + 10)) a1.toInt x515.toInt (by omega) (by omega) (by omega)
              rw [hv557] at wv557
              refine q_iald (Sh.arr hI517.1 ka_233) (3 * a1.toInt + x515.toInt + 10) (by omega) (by omega) v557 hv557 ?_
              refine r_istore _ rfl ?_
              refine r_aload_n (w_p1 (by decide) (Or.inr rfl) e526) ?_
              refine q_getR (Sh.ref hI517.1 kx_231 rfl) ?_
              refine r_bipush 10 rfl ?_
              refine r_iconst 3 rfl ?_
              refine r_iload_n (w_p1 (by decide) (Or.inr rfl) e527) ?_
              refine q_imul (3 * a1.toInt) rfl (by omega) (fun v558 hv558 => ?_)
              refine q_iadd (10 + v558.toInt) rfl (by omega) (fun v559 hv559 => ?_)
              refine r_iload_n (w_p1 (by decide) (Or.inr rfl) e529) ?_
              refine q_iadd (v559.toInt + x515.toInt) rfl (by omega) (fun v560 hv560 => ?_)
              refine r_aload_n (w_p1 (by decide) (Or.inr rfl) e526) ?_
              refine q_getR (Sh.ref hI517.1 kx_231 rfl) ?_
              refine r_bipush 10 rfl ?_
              refine r_iconst 3 rfl ?_
              refine r_iload_n (w_p1 (by decide) (Or.inr rfl) e528) ?_
              refine q_imul (3 * a2.toInt) rfl (by omega) (fun v561 hv561 => ?_)
              refine q_iadd (10 + v561.toInt) rfl (by omega) (fun v562 hv562 => ?_)
              refine r_iload_n (w_p1 (by decide) (Or.inr rfl) e529) ?_
              refine q_iadd (v562.toInt + x515.toInt) rfl (by omega) (fun v563 hv563 => ?_)
              obtain ⟨v564, hv564⟩ : ∃ v, eA g516 233 (3 * a2.toInt + x515.toInt + 10) = v := ⟨_, rfl⟩
              have wv564 := HI.s12 hI517 (j := (3 * a2.toInt + x515.toInt + 10)) a2.toInt x515.toInt (by omega) (by omega) (by omega)
              rw [hv564] at wv564
              refine q_iald (Sh.arr hI517.1 ka_233) (3 * a2.toInt + x515.toInt + 10) (by omega) (by omega) v564 hv564 ?_
              refine q_iast (Sh.arr hI517.1 ka_233) ((3 * a1.toInt + x515.toInt + 10)) (by omega) (by omega) ?_
              have hI565 := HI.ws hI517 (j := (3 * a1.toInt + x515.toInt + 10)) (v := v564) a1.toInt x515.toInt (by omega) (by omega) (by omega) (by omega)
              have hF566 := Fr.wA (p := 233) (j := (3 * a1.toInt + x515.toInt + 10)) (v := v564) hF518 rfl
              refine r_aload_n (w_p1 (by decide) (Or.inr rfl) e526) ?_
              refine q_getR (Sh.ref hI565.1 kx_231 rfl) ?_
              refine r_bipush 10 rfl ?_
              refine r_iconst 3 rfl ?_
              refine r_iload_n (w_p1 (by decide) (Or.inr rfl) e528) ?_
              refine q_imul (3 * a2.toInt) rfl (by omega) (fun v567 hv567 => ?_)
              refine q_iadd (10 + v567.toInt) rfl (by omega) (fun v568 hv568 => ?_)
              refine r_iload_n (w_p1 (by decide) (Or.inr rfl) e529) ?_
              refine q_iadd (v568.toInt + x515.toInt) rfl (by omega) (fun v569 hv569 => ?_)
              refine r_iload (w_e1 _ _ _) ?_
              refine q_iast (Sh.arr hI565.1 ka_233) ((3 * a2.toInt + x515.toInt + 10)) (by omega) (by omega) ?_
              have hI570 := HI.ws hI565 (j := (3 * a2.toInt + x515.toInt + 10)) (v := v557) a2.toInt x515.toInt (by omega) (by omega) (by omega) (by omega)
              have hF571 := Fr.wA (p := 233) (j := (3 * a2.toInt + x515.toInt + 10)) (v := v557) hF566 rfl
              refine q_iinc (w_p1 (by decide) (Or.inr rfl) e529) (x515.toInt + 1) rfl (by omega) (fun v572 hv572 => ?_)
              refine r_goto ?_
              exact ih521 (3 - v572.toInt) _ _ ⟨v572, by first | rfl | omega, hI570, hF571, (((eA_sA_ne hI565.1 ka_233 (by first | decide | omega) (by first | decide | omega) (by first | decide | omega)).trans (eA_sA_ne hI517.1 ka_233 (by first | decide | omega) (by first | decide | omega) (by first | decide | omega))).trans e522), (((eA_sA_ne hI565.1 ka_233 (by first | decide | omega) (by first | decide | omega) (by first | decide | omega)).trans (eA_sA_ne hI517.1 ka_233 (by first | decide | omega) (by first | decide | omega) (by first | decide | omega))).trans e523), (((eA_sA_ne hI565.1 ka_233 (by first | decide | omega) (by first | decide | omega) (by first | decide | omega)).trans (eA_sA_ne hI517.1 ka_233 (by first | decide | omega) (by first | decide | omega) (by first | decide | omega))).trans e524), (((eA_sA_ne hI565.1 ka_233 (by first | decide | omega) (by first | decide | omega) (by first | decide | omega)).trans (eA_sA_ne hI517.1 ka_233 (by first | decide | omega) (by first | decide | omega) (by first | decide | omega))).trans e525), (w_p1 (by decide) (Or.inr rfl) (w_p1 (by decide) (Or.inr rfl) e526)), (w_p1 (by decide) (Or.inr rfl) (w_p1 (by decide) (Or.inr rfl) e527)), (w_p1 (by decide) (Or.inr rfl) (w_p1 (by decide) (Or.inr rfl) e528)), (w_e1 _ _ _), by omega⟩ ⟨by omega, by omega⟩
          · have c438_ : a1.toInt = a2.toInt := en_i_ne_f c438
            refine At.enter rfl ?_
            refine r_aload_n rfl ?_
            refine r_bipush (-3) rfl ?_
            refine r_callV 39 rfl [.ref 231, .int (-3)] [] (Nat.le_of_ble_eq_true rfl) rfl (T_X11_tell_231 _ hI349 (-3) (by decide)) ?_
            rintro _ _ ⟨g573, rfl, hI574, hF575, v576, rfl, hr577⟩
            refine At.sti ?_
            have hF578 := Fr.tr hF350 hF575 rfl rfl
            have zv579 : ((-3) : Int32).toInt = (-3) := rfl
            refine At.enter rfl ?_
            refine r_ireti ?_
            have x580 := HI.eqA hI574 (p := 233) (j := 0) ((((eA_c (hF575.2.1 233 (by decide))).trans (eA_c gA_sI)).trans hv352))
            obtain ⟨v581, hv581⟩ : ∃ v, eA g0 233 4 = v := ⟨_, rfl⟩
            have wv581 := HI.t4 hI0
            rw [hv581] at wv581
            have tv581 := congrArg Int32.toInt hv581
            have x582 := HI.eqA hI574 (p := 233) (j := 4) ((((eA_c (hF575.2.1 233 (by decide))).trans (eA_c gA_sI)).trans hv581))
            obtain ⟨v583, hv583⟩ : ∃ v, eA g0 233 5 = v := ⟨_, rfl⟩
            have wv583 := HI.t5 hI0
            rw [hv583] at wv583
            have tv583 := congrArg Int32.toInt hv583
            have x584 := HI.eqA hI574 (p := 233) (j := 5) ((((eA_c (hF575.2.1 233 (by decide))).trans (eA_c gA_sI)).trans hv583))
            obtain ⟨v585, hv585⟩ : ∃ v, eA g0 233 6 = v := ⟨_, rfl⟩
            have wv585 := HI.t6 hI0
            rw [hv585] at wv585
            have tv585 := congrArg Int32.toInt hv585
            have x586 := HI.eqA hI574 (p := 233) (j := 6) ((((eA_c (hF575.2.1 233 (by decide))).trans (eA_c gA_sI)).trans hv585))
            have x587 := HI.eqA hI0 (p := 233) (j := 0) (hv352)
            have x588 := HI.eqA hI0 (p := 233) (j := 0) (hv352)
            have x589 := HI.eqA hI0 (p := 233) (j := 4) (hv581)
            have x590 := HI.eqA hI0 (p := 233) (j := 5) (hv583)
            have x591 := HI.eqA hI0 (p := 233) (j := 6) (hv585)
            exact ⟨_, rfl, hI574, hF578, _, rfl, by omega, ⟨by omega, by omega, by omega, by omega, by omega⟩⟩

def F_X11_sign_231 : List (Nat × Nat) := [(231, 0), (231, 1)]
def A_X11_sign_231 : List Nat := [232, 233]
set_option maxRecDepth 100000 in
set_option maxHeartbeats 4000000 in
theorem T_X11_sign_231 (d : Nat) {N : Nat} {g0 : List en_E} (hI0 : HI g0) (a1 : Int32) (a2 : Int32) : Ev (d + 3) 254 [.ref 231, .int a1, .int a2] (g0, N) (fun w h' => ∃ g', h' = (g', N) ∧ HI g' ∧ Fr F_X11_sign_231 A_X11_sign_231 g0 g' ∧ ∃ r : Int32, w = some (.int r) ∧ ((-5) ≤ r.toInt ∧ r.toInt ≤ 8) ∧ (((¬ (0 ≤ a2.toInt ∧ a2.toInt ≤ 99) → r.toInt = -1 ∧ (eA g' 233 4).toInt = (eA g0 233 4).toInt) ∧ ((0 ≤ a2.toInt ∧ a2.toInt ≤ 99) ∧ ¬ (0 ≤ a1.toInt ∧ a1.toInt < (eA g0 233 0).toInt) → r.toInt = -2 ∧ (eA g' 233 4).toInt = (eA g0 233 4).toInt) ∧ ((0 ≤ a2.toInt ∧ a2.toInt ≤ 99) ∧ (0 ≤ a1.toInt ∧ a1.toInt < (eA g0 233 0).toInt) ∧ 8 ≤ (eA g0 233 4).toInt → r.toInt = -5 ∧ (eA g' 233 4).toInt = (eA g0 233 4).toInt) ∧ ((0 ≤ a2.toInt ∧ a2.toInt ≤ 99) ∧ (0 ≤ a1.toInt ∧ a1.toInt < (eA g0 233 0).toInt) ∧ (eA g0 233 4).toInt < 8 → r.toInt = (eA g0 233 4).toInt + 1 ∧ (eA g' 233 4).toInt = (eA g0 233 4).toInt + 1)) ∧ (eA g' 233 0).toInt = (eA g0 233 0).toInt ∧ (eA g' 233 5).toInt = (eA g0 233 5).toInt ∧ (eA g' 233 6).toInt = (eA g0 233 6).toInt)) := by
  have hF0 : Fr F_X11_sign_231 A_X11_sign_231 g0 g0 := Fr.rf
  refine Ev.mk rfl rfl ⟨Nat.le_of_ble_eq_true rfl, Or.inr (q_rc hI0.1 kx_231 rfl)⟩ ?_
  show At _ none _ _ (0, [(0, .ref 231), (1, .int a1), (2, .int a2)], [], (_, _)) _
  refine At.enter rfl ?_
  refine r_aload_n rfl ?_
  refine r_iconst 0 rfl ?_
  refine q_putI (Sh.int hI0.1 kx_231 rfl) rfl ?_
  have hI135 := HI.wI0 hI0 kx_231 rfl (p := 231) (b := 0) (v := 0) rfl
  have hF136 := Fr.wI (p := 231) (b := 0) (v := 0) hF0 rfl
  refine r_iload_n rfl ?_
  refine q_i2l (fun v137 hv137 => ?_)
  refine r_lconst 0 rfl ?_
  refine r_ldc2 99 rfl ?_
  refine q_inlS 14 rfl [.long v137, .long 0, .long 99] [] (Nat.le_of_ble_eq_true rfl) rfl ?_
  refine Ev.mk rfl rfl ⟨Nat.le_of_ble_eq_true rfl, Or.inl rfl⟩ ?_
  show At _ none _ _ (0, [(0, .long v137), (2, .long 0), (4, .long 99)], [], (_, _)) _
  refine At.enter rfl ?_
  refine r_lload_n rfl ?_
  refine r_lload_n rfl ?_
  refine r_lcmp _ rfl ?_
  refine r_ifs 6 rfl (fun c138 => ?_) (fun c138 => ?_)
  · have c138_ : v137.toInt < 0 := en_j_lt_t c138
    refine At.enter rfl ?_
    refine r_iconst 0 rfl ?_
    refine Ar.fall 18 rfl ?_
    refine At.enter rfl ?_
    refine q_iretz (by decide) ?_
    refine At.enter rfl ?_
    refine r_iff 17 rfl (by decide) ?_
    refine At.enter rfl ?_
    refine r_aload_n rfl ?_
    refine r_iconst (-1) rfl ?_
    refine r_callV 22 rfl [.ref 231, .int (-1)] [] (Nat.le_of_ble_eq_true rfl) rfl (T_X11_tell_231 _ hI135 (-1) (by decide)) ?_
    rintro _ _ ⟨g139, rfl, hI140, hF141, v142, rfl, hr143⟩
    refine At.sti ?_
    have hF144 := Fr.tr hF136 hF141 rfl rfl
    have zv145 : ((-1) : Int32).toInt = (-1) := rfl
    refine At.enter rfl ?_
    refine r_ireti ?_
    obtain ⟨v146, hv146⟩ : ∃ v, eA g0 233 4 = v := ⟨_, rfl⟩
    have wv146 := HI.t4 hI0
    rw [hv146] at wv146
    have tv146 := congrArg Int32.toInt hv146
    have x147 := HI.eqA hI140 (p := 233) (j := 4) ((((eA_c (hF141.2.1 233 (by decide))).trans (eA_c gA_sI)).trans hv146))
    obtain ⟨v148, hv148⟩ : ∃ v, eA g0 233 0 = v := ⟨_, rfl⟩
    have tv148 := congrArg Int32.toInt hv148
    have wv148 := HI.t0 hI0
    rw [hv148] at wv148
    have tv148 := congrArg Int32.toInt hv148
    have x149 := HI.eqA hI140 (p := 233) (j := 0) ((((eA_c (hF141.2.1 233 (by decide))).trans (eA_c gA_sI)).trans hv148))
    obtain ⟨v150, hv150⟩ : ∃ v, eA g0 233 5 = v := ⟨_, rfl⟩
    have wv150 := HI.t5 hI0
    rw [hv150] at wv150
    have tv150 := congrArg Int32.toInt hv150
    have x151 := HI.eqA hI140 (p := 233) (j := 5) ((((eA_c (hF141.2.1 233 (by decide))).trans (eA_c gA_sI)).trans hv150))
    obtain ⟨v152, hv152⟩ : ∃ v, eA g0 233 6 = v := ⟨_, rfl⟩
    have wv152 := HI.t6 hI0
    rw [hv152] at wv152
    have tv152 := congrArg Int32.toInt hv152
    have x153 := HI.eqA hI140 (p := 233) (j := 6) ((((eA_c (hF141.2.1 233 (by decide))).trans (eA_c gA_sI)).trans hv152))
    have x154 := HI.eqA hI0 (p := 233) (j := 4) (hv146)
    have x155 := HI.eqA hI0 (p := 233) (j := 0) (hv148)
    have x156 := HI.eqA hI0 (p := 233) (j := 0) (hv148)
    have x157 := HI.eqA hI0 (p := 233) (j := 5) (hv150)
    have x158 := HI.eqA hI0 (p := 233) (j := 6) (hv152)
    exact ⟨_, rfl, hI140, hF144, _, rfl, by omega, ⟨by omega, by omega, by omega, by omega⟩⟩
  · have c138_ : v137.toInt ≥ 0 := en_j_lt_f c138
    refine At.enter rfl ?_
    refine r_lload_n rfl ?_
    refine r_lload rfl ?_
    refine r_lcmp _ rfl ?_
    refine r_ifs 13 rfl (fun c159 => ?_) (fun c159 => ?_)
    · have c159_ : v137.toInt > 99 := en_j_gt_t c159
      refine At.enter rfl ?_
      refine r_iconst 0 rfl ?_
      refine Ar.fall 18 rfl ?_
      refine At.enter rfl ?_
      refine q_iretz (by decide) ?_
      refine At.enter rfl ?_
      refine r_iff 17 rfl (by decide) ?_
      refine At.enter rfl ?_
      refine r_aload_n rfl ?_
      refine r_iconst (-1) rfl ?_
      refine r_callV 22 rfl [.ref 231, .int (-1)] [] (Nat.le_of_ble_eq_true rfl) rfl (T_X11_tell_231 _ hI135 (-1) (by decide)) ?_
      rintro _ _ ⟨g160, rfl, hI161, hF162, v163, rfl, hr164⟩
      refine At.sti ?_
      have hF165 := Fr.tr hF136 hF162 rfl rfl
      have zv166 : ((-1) : Int32).toInt = (-1) := rfl
      refine At.enter rfl ?_
      refine r_ireti ?_
      obtain ⟨v167, hv167⟩ : ∃ v, eA g0 233 4 = v := ⟨_, rfl⟩
      have wv167 := HI.t4 hI0
      rw [hv167] at wv167
      have tv167 := congrArg Int32.toInt hv167
      have x168 := HI.eqA hI161 (p := 233) (j := 4) ((((eA_c (hF162.2.1 233 (by decide))).trans (eA_c gA_sI)).trans hv167))
      obtain ⟨v169, hv169⟩ : ∃ v, eA g0 233 0 = v := ⟨_, rfl⟩
      have tv169 := congrArg Int32.toInt hv169
      have wv169 := HI.t0 hI0
      rw [hv169] at wv169
      have tv169 := congrArg Int32.toInt hv169
      have x170 := HI.eqA hI161 (p := 233) (j := 0) ((((eA_c (hF162.2.1 233 (by decide))).trans (eA_c gA_sI)).trans hv169))
      obtain ⟨v171, hv171⟩ : ∃ v, eA g0 233 5 = v := ⟨_, rfl⟩
      have wv171 := HI.t5 hI0
      rw [hv171] at wv171
      have tv171 := congrArg Int32.toInt hv171
      have x172 := HI.eqA hI161 (p := 233) (j := 5) ((((eA_c (hF162.2.1 233 (by decide))).trans (eA_c gA_sI)).trans hv171))
      obtain ⟨v173, hv173⟩ : ∃ v, eA g0 233 6 = v := ⟨_, rfl⟩
      have wv173 := HI.t6 hI0
      rw [hv173] at wv173
      have tv173 := congrArg Int32.toInt hv173
      have x174 := HI.eqA hI161 (p := 233) (j := 6) ((((eA_c (hF162.2.1 233 (by decide))).trans (eA_c gA_sI)).trans hv173))
      have x175 := HI.eqA hI0 (p := 233) (j := 4) (hv167)
      have x176 := HI.eqA hI0 (p := 233) (j := 0) (hv169)
      have x177 := HI.eqA hI0 (p := 233) (j := 0) (hv169)
      have x178 := HI.eqA hI0 (p := 233) (j := 5) (hv171)
      have x179 := HI.eqA hI0 (p := 233) (j := 6) (hv173)
      exact ⟨_, rfl, hI161, hF165, _, rfl, by omega, ⟨by omega, by omega, by omega, by omega⟩⟩
    · have c159_ : v137.toInt ≤ 99 := en_j_gt_f c159
      refine At.enter rfl ?_
      refine r_iconst 1 rfl ?_
      refine r_goto ?_
      refine At.enter rfl ?_
      refine q_iretz (by decide) ?_
      refine At.enter rfl ?_
      refine r_ift (by decide) ?_
      refine At.enter rfl ?_
      refine r_aload_n rfl ?_
      refine r_iload_n rfl ?_
      refine q_inlV 28 rfl [.ref 231, .int a1] [] (Nat.le_of_ble_eq_true rfl) rfl ?_
      refine Ev.mk rfl rfl ⟨Nat.le_of_ble_eq_true rfl, Or.inr (q_rc hI135.1 kx_231 rfl)⟩ ?_
      show At _ none _ _ (0, [(0, .ref 231), (1, .int a1)], [], (_, _)) _
      refine At.enter rfl ?_
      refine r_iload_n rfl ?_
      refine q_i2l (fun v180 hv180 => ?_)
      refine r_lconst 0 rfl ?_
      refine r_aload_n rfl ?_
      refine q_getR (Sh.ref hI135.1 kx_231 rfl) ?_
      refine r_iconst 0 rfl ?_
      obtain ⟨v181, hv181⟩ : ∃ v, eA g0 233 0 = v := ⟨_, rfl⟩
      have tv181 := congrArg Int32.toInt hv181
      have wv181 := HI.t0 hI0
      rw [hv181] at wv181
      refine q_iald (Sh.arr hI135.1 ka_233) 0 rfl (by decide) v181 ((eA_c (gA_sI)).trans hv181) ?_
      refine q_i2l (fun v182 hv182 => ?_)
      refine r_lconst 1 rfl ?_
      refine q_lsub (v182.toInt - 1) rfl (by omega) (fun v183 hv183 => ?_)
      refine q_inlS 15 rfl [.long v180, .long 0, .long v183] [] (Nat.le_of_ble_eq_true rfl) rfl ?_
      refine Ev.mk rfl rfl ⟨Nat.le_of_ble_eq_true rfl, Or.inl rfl⟩ ?_
      show At _ none _ _ (0, [(0, .long v180), (2, .long 0), (4, .long v183)], [], (_, _)) _
      refine At.enter rfl ?_
      refine r_lload_n rfl ?_
      refine r_lload_n rfl ?_
      refine r_lcmp _ rfl ?_
      refine r_ifs 6 rfl (fun c184 => ?_) (fun c184 => ?_)
      · have c184_ : v180.toInt < 0 := en_j_lt_t c184
        refine At.enter rfl ?_
        refine r_iconst 0 rfl ?_
        refine Ar.fall 18 rfl ?_
        refine At.enter rfl ?_
        refine q_iretz (by decide) ?_
        refine At.enter rfl ?_
        refine q_iretz (by decide) ?_
        refine At.enter rfl ?_
        refine r_iff 31 rfl (by decide) ?_
        refine At.enter rfl ?_
        refine r_aload_n rfl ?_
        refine r_bipush (-2) rfl ?_
        refine r_callV 37 rfl [.ref 231, .int (-2)] [] (Nat.le_of_ble_eq_true rfl) rfl (T_X11_tell_231 _ hI135 (-2) (by decide)) ?_
        rintro _ _ ⟨g185, rfl, hI186, hF187, v188, rfl, hr189⟩
        refine At.sti ?_
        have hF190 := Fr.tr hF136 hF187 rfl rfl
        have zv191 : ((-2) : Int32).toInt = (-2) := rfl
        refine At.enter rfl ?_
        refine r_ireti ?_
        obtain ⟨v192, hv192⟩ : ∃ v, eA g0 233 4 = v := ⟨_, rfl⟩
        have wv192 := HI.t4 hI0
        rw [hv192] at wv192
        have tv192 := congrArg Int32.toInt hv192
        have x193 := HI.eqA hI186 (p := 233) (j := 4) ((((eA_c (hF187.2.1 233 (by decide))).trans (eA_c gA_sI)).trans hv192))
        have x194 := HI.eqA hI186 (p := 233) (j := 0) ((((eA_c (hF187.2.1 233 (by decide))).trans (eA_c gA_sI)).trans hv181))
        obtain ⟨v195, hv195⟩ : ∃ v, eA g0 233 5 = v := ⟨_, rfl⟩
        have wv195 := HI.t5 hI0
        rw [hv195] at wv195
        have tv195 := congrArg Int32.toInt hv195
        have x196 := HI.eqA hI186 (p := 233) (j := 5) ((((eA_c (hF187.2.1 233 (by decide))).trans (eA_c gA_sI)).trans hv195))
        obtain ⟨v197, hv197⟩ : ∃ v, eA g0 233 6 = v := ⟨_, rfl⟩
        have wv197 := HI.t6 hI0
        rw [hv197] at wv197
        have tv197 := congrArg Int32.toInt hv197
        have x198 := HI.eqA hI186 (p := 233) (j := 6) ((((eA_c (hF187.2.1 233 (by decide))).trans (eA_c gA_sI)).trans hv197))
        have x199 := HI.eqA hI0 (p := 233) (j := 4) (hv192)
        have x200 := HI.eqA hI0 (p := 233) (j := 0) (hv181)
        have x201 := HI.eqA hI0 (p := 233) (j := 0) (hv181)
        have x202 := HI.eqA hI0 (p := 233) (j := 5) (hv195)
        have x203 := HI.eqA hI0 (p := 233) (j := 6) (hv197)
        exact ⟨_, rfl, hI186, hF190, _, rfl, by omega, ⟨by omega, by omega, by omega, by omega⟩⟩
      · have c184_ : v180.toInt ≥ 0 := en_j_lt_f c184
        refine At.enter rfl ?_
        refine r_lload_n rfl ?_
        refine r_lload rfl ?_
        refine r_lcmp _ rfl ?_
        refine r_ifs 13 rfl (fun c204 => ?_) (fun c204 => ?_)
        · have c204_ : v180.toInt > v183.toInt := en_j_gt_t c204
          refine At.enter rfl ?_
          refine r_iconst 0 rfl ?_
          refine Ar.fall 18 rfl ?_
          refine At.enter rfl ?_
          refine q_iretz (by decide) ?_
          refine At.enter rfl ?_
          refine q_iretz (by decide) ?_
          refine At.enter rfl ?_
          refine r_iff 31 rfl (by decide) ?_
          refine At.enter rfl ?_
          refine r_aload_n rfl ?_
          refine r_bipush (-2) rfl ?_
          refine r_callV 37 rfl [.ref 231, .int (-2)] [] (Nat.le_of_ble_eq_true rfl) rfl (T_X11_tell_231 _ hI135 (-2) (by decide)) ?_
          rintro _ _ ⟨g205, rfl, hI206, hF207, v208, rfl, hr209⟩
          refine At.sti ?_
          have hF210 := Fr.tr hF136 hF207 rfl rfl
          have zv211 : ((-2) : Int32).toInt = (-2) := rfl
          refine At.enter rfl ?_
          refine r_ireti ?_
          obtain ⟨v212, hv212⟩ : ∃ v, eA g0 233 4 = v := ⟨_, rfl⟩
          have wv212 := HI.t4 hI0
          rw [hv212] at wv212
          have tv212 := congrArg Int32.toInt hv212
          have x213 := HI.eqA hI206 (p := 233) (j := 4) ((((eA_c (hF207.2.1 233 (by decide))).trans (eA_c gA_sI)).trans hv212))
          have x214 := HI.eqA hI206 (p := 233) (j := 0) ((((eA_c (hF207.2.1 233 (by decide))).trans (eA_c gA_sI)).trans hv181))
          obtain ⟨v215, hv215⟩ : ∃ v, eA g0 233 5 = v := ⟨_, rfl⟩
          have wv215 := HI.t5 hI0
          rw [hv215] at wv215
          have tv215 := congrArg Int32.toInt hv215
          have x216 := HI.eqA hI206 (p := 233) (j := 5) ((((eA_c (hF207.2.1 233 (by decide))).trans (eA_c gA_sI)).trans hv215))
          obtain ⟨v217, hv217⟩ : ∃ v, eA g0 233 6 = v := ⟨_, rfl⟩
          have wv217 := HI.t6 hI0
          rw [hv217] at wv217
          have tv217 := congrArg Int32.toInt hv217
          have x218 := HI.eqA hI206 (p := 233) (j := 6) ((((eA_c (hF207.2.1 233 (by decide))).trans (eA_c gA_sI)).trans hv217))
          have x219 := HI.eqA hI0 (p := 233) (j := 4) (hv212)
          have x220 := HI.eqA hI0 (p := 233) (j := 0) (hv181)
          have x221 := HI.eqA hI0 (p := 233) (j := 0) (hv181)
          have x222 := HI.eqA hI0 (p := 233) (j := 5) (hv215)
          have x223 := HI.eqA hI0 (p := 233) (j := 6) (hv217)
          exact ⟨_, rfl, hI206, hF210, _, rfl, by omega, ⟨by omega, by omega, by omega, by omega⟩⟩
        · have c204_ : v180.toInt ≤ v183.toInt := en_j_gt_f c204
          refine At.enter rfl ?_
          refine r_iconst 1 rfl ?_
          refine r_goto ?_
          refine At.enter rfl ?_
          refine q_iretz (by decide) ?_
          refine At.enter rfl ?_
          refine q_iretz (by decide) ?_
          refine At.enter rfl ?_
          refine r_ift (by decide) ?_
          refine At.enter rfl ?_
          refine r_aload_n rfl ?_
          refine q_getR (Sh.ref hI135.1 kx_231 rfl) ?_
          refine r_iconst 4 rfl ?_
          obtain ⟨v224, hv224⟩ : ∃ v, eA g0 233 4 = v := ⟨_, rfl⟩
          have wv224 := HI.t4 hI0
          rw [hv224] at wv224
          refine q_iald (Sh.arr hI135.1 ka_233) 4 rfl (by decide) v224 ((eA_c (gA_sI)).trans hv224) ?_
          refine r_istore_n ([(3, .int v224), (0, .ref 231), (1, .int a1), (2, .int a2)]) rfl ?_
          refine r_iload_n rfl ?_
          refine r_bipush 8 rfl ?_
          refine r_ics 51 rfl (fun c225 => ?_) (fun c225 => ?_)
          · have c225_ : v224.toInt ≠ 8 := en_i_ne_t c225
            refine At.enter rfl ?_
            refine r_aload_n rfl ?_
            refine q_getR (Sh.ref hI135.1 kx_231 rfl) ?_
            refine r_bipush 94 rfl ?_
            refine r_iconst 2 rfl ?_
            refine r_iload_n rfl ?_
            refine q_imul (2 * v224.toInt) rfl (by omega) (fun v226 hv226 => ?_)
            refine q_iadd (94 + v226.toInt) rfl (by omega) (fun v227 hv227 => ?_)
            refine r_iload_n rfl ?_
            refine q_iast (Sh.arr hI135.1 ka_233) ((2 * v224.toInt + 94)) (by omega) (by omega) ?_
            have hI228 := HI.wg hI135 (j := (2 * v224.toInt + 94)) (v := a1) (v224.toInt) 0 (by omega) (by decide) (by omega) (by omega)
            have hF229 := Fr.wA (p := 233) (j := (2 * v224.toInt + 94)) (v := a1) hF136 rfl
            refine r_aload_n rfl ?_
            refine q_getR (Sh.ref hI228.1 kx_231 rfl) ?_
            refine r_bipush 94 rfl ?_
            refine r_iconst 2 rfl ?_
            refine r_iload_n rfl ?_
            refine q_imul (2 * v224.toInt) rfl (by omega) (fun v230 hv230 => ?_)
            refine q_iadd (94 + v230.toInt) rfl (by omega) (fun v231 hv231 => ?_)
            refine r_iconst 1 rfl ?_
            refine q_iadd (v231.toInt + 1) rfl (by omega) (fun v232 hv232 => ?_)
            refine r_iload_n rfl ?_
            refine q_iast (Sh.arr hI228.1 ka_233) ((2 * v224.toInt + 95)) (by omega) (by omega) ?_
            have hI233 := HI.wg hI228 (j := (2 * v224.toInt + 95)) (v := a2) (v224.toInt) 1 (by omega) (by decide) (by omega) (by omega)
            have hF234 := Fr.wA (p := 233) (j := (2 * v224.toInt + 95)) (v := a2) hF229 rfl
            refine r_aload_n rfl ?_
            refine q_getR (Sh.ref hI233.1 kx_231 rfl) ?_
            refine r_iconst 4 rfl ?_
            refine r_dup2 ⟨rfl, rfl⟩ ?_
            refine q_iald (Sh.arr hI233.1 ka_233) 4 rfl (by decide) v224 (((eA_sA_ne hI228.1 ka_233 (by first | decide | omega) (by first | decide | omega) (by first | decide | omega)).trans ((eA_sA_ne hI135.1 ka_233 (by first | decide | omega) (by first | decide | omega) (by first | decide | omega)).trans (eA_c gA_sI))).trans hv224) ?_
            refine r_iconst 1 rfl ?_
            refine q_iadd (v224.toInt + 1) rfl (by omega) (fun v235 hv235 => ?_)
            refine q_iast (Sh.arr hI233.1 ka_233) (4) rfl (by decide) ?_
            have hI236 := HI.wt hI233 (j := 4) (v := v235) (by omega) (by omega)
            have hF237 := Fr.wA (p := 233) (j := 4) (v := v235) hF234 rfl
            refine r_aload_n rfl ?_
            refine r_iload_n rfl ?_
            refine r_iconst 1 rfl ?_
            refine q_iadd (v224.toInt + 1) rfl (by omega) (fun v238 hv238 => ?_)
            refine r_callV 101 rfl [.ref 231, .int v238] [] (Nat.le_of_ble_eq_true rfl) rfl (T_X11_tell_231 _ hI236 v238 (by omega)) ?_
            rintro _ _ ⟨g239, rfl, hI240, hF241, v242, rfl, hr243⟩
            refine At.sti ?_
            have hF244 := Fr.tr hF237 hF241 rfl rfl
            refine At.enter rfl ?_
            refine r_ireti ?_
            have x245 := HI.eqA hI240 (p := 233) (j := 4) (((eA_c (hF241.2.1 233 (by decide))).trans (eA_sA_eq hI233.1 ka_233 (by first | rfl | omega) (by first | decide | omega) (by first | decide | omega))))
            have x246 := HI.eqA hI240 (p := 233) (j := 0) ((((eA_c (hF241.2.1 233 (by decide))).trans ((eA_sA_ne hI233.1 ka_233 (by first | decide | omega) (by first | decide | omega) (by first | decide | omega)).trans ((eA_sA_ne hI228.1 ka_233 (by first | decide | omega) (by first | decide | omega) (by first | decide | omega)).trans ((eA_sA_ne hI135.1 ka_233 (by first | decide | omega) (by first | decide | omega) (by first | decide | omega)).trans (eA_c gA_sI))))).trans hv181))
            obtain ⟨v247, hv247⟩ : ∃ v, eA g0 233 5 = v := ⟨_, rfl⟩
            have wv247 := HI.t5 hI0
            rw [hv247] at wv247
            have tv247 := congrArg Int32.toInt hv247
            have x248 := HI.eqA hI240 (p := 233) (j := 5) ((((eA_c (hF241.2.1 233 (by decide))).trans ((eA_sA_ne hI233.1 ka_233 (by first | decide | omega) (by first | decide | omega) (by first | decide | omega)).trans ((eA_sA_ne hI228.1 ka_233 (by first | decide | omega) (by first | decide | omega) (by first | decide | omega)).trans ((eA_sA_ne hI135.1 ka_233 (by first | decide | omega) (by first | decide | omega) (by first | decide | omega)).trans (eA_c gA_sI))))).trans hv247))
            obtain ⟨v249, hv249⟩ : ∃ v, eA g0 233 6 = v := ⟨_, rfl⟩
            have wv249 := HI.t6 hI0
            rw [hv249] at wv249
            have tv249 := congrArg Int32.toInt hv249
            have x250 := HI.eqA hI240 (p := 233) (j := 6) ((((eA_c (hF241.2.1 233 (by decide))).trans ((eA_sA_ne hI233.1 ka_233 (by first | decide | omega) (by first | decide | omega) (by first | decide | omega)).trans ((eA_sA_ne hI228.1 ka_233 (by first | decide | omega) (by first | decide | omega) (by first | decide | omega)).trans ((eA_sA_ne hI135.1 ka_233 (by first | decide | omega) (by first | decide | omega) (by first | decide | omega)).trans (eA_c gA_sI))))).trans hv249))
            have x251 := HI.eqA hI0 (p := 233) (j := 4) (hv224)
            have x252 := HI.eqA hI0 (p := 233) (j := 0) (hv181)
            have x253 := HI.eqA hI0 (p := 233) (j := 0) (hv181)
            have x254 := HI.eqA hI0 (p := 233) (j := 5) (hv247)
            have x255 := HI.eqA hI0 (p := 233) (j := 6) (hv249)
            exact ⟨_, rfl, hI240, hF244, _, rfl, by omega, ⟨by omega, by omega, by omega, by omega⟩⟩
          · have c225_ : v224.toInt = 8 := en_i_ne_f c225
            refine At.enter rfl ?_
            refine r_aload_n rfl ?_
            refine r_bipush (-5) rfl ?_
            refine r_callV 57 rfl [.ref 231, .int (-5)] [] (Nat.le_of_ble_eq_true rfl) rfl (T_X11_tell_231 _ hI135 (-5) (by decide)) ?_
            rintro _ _ ⟨g256, rfl, hI257, hF258, v259, rfl, hr260⟩
            refine At.sti ?_
            have hF261 := Fr.tr hF136 hF258 rfl rfl
            have zv262 : ((-5) : Int32).toInt = (-5) := rfl
            refine At.enter rfl ?_
            refine r_ireti ?_
            have x263 := HI.eqA hI257 (p := 233) (j := 4) ((((eA_c (hF258.2.1 233 (by decide))).trans (eA_c gA_sI)).trans hv224))
            have x264 := HI.eqA hI257 (p := 233) (j := 0) ((((eA_c (hF258.2.1 233 (by decide))).trans (eA_c gA_sI)).trans hv181))
            obtain ⟨v265, hv265⟩ : ∃ v, eA g0 233 5 = v := ⟨_, rfl⟩
            have wv265 := HI.t5 hI0
            rw [hv265] at wv265
            have tv265 := congrArg Int32.toInt hv265
            have x266 := HI.eqA hI257 (p := 233) (j := 5) ((((eA_c (hF258.2.1 233 (by decide))).trans (eA_c gA_sI)).trans hv265))
            obtain ⟨v267, hv267⟩ : ∃ v, eA g0 233 6 = v := ⟨_, rfl⟩
            have wv267 := HI.t6 hI0
            rw [hv267] at wv267
            have tv267 := congrArg Int32.toInt hv267
            have x268 := HI.eqA hI257 (p := 233) (j := 6) ((((eA_c (hF258.2.1 233 (by decide))).trans (eA_c gA_sI)).trans hv267))
            have x269 := HI.eqA hI0 (p := 233) (j := 4) (hv224)
            have x270 := HI.eqA hI0 (p := 233) (j := 0) (hv181)
            have x271 := HI.eqA hI0 (p := 233) (j := 0) (hv181)
            have x272 := HI.eqA hI0 (p := 233) (j := 5) (hv265)
            have x273 := HI.eqA hI0 (p := 233) (j := 6) (hv267)
            exact ⟨_, rfl, hI257, hF261, _, rfl, by omega, ⟨by omega, by omega, by omega, by omega⟩⟩

def F_X11_clear_231 : List (Nat × Nat) := [(231, 0)]
def A_X11_clear_231 : List Nat := [233]
set_option maxRecDepth 100000 in
set_option maxHeartbeats 4000000 in
theorem T_X11_clear_231 (d : Nat) {N : Nat} {g0 : List en_E} (hI0 : HI g0) : Ev (d + 1) 255 [.ref 231] (g0, N) (fun w h' => ∃ g', h' = (g', N) ∧ HI g' ∧ Fr F_X11_clear_231 A_X11_clear_231 g0 g' ∧ ∃ r : Int32, w = some (.int r) ∧ (0 ≤ r.toInt ∧ r.toInt ≤ 8) ∧ ((r.toInt = (eA g0 233 4).toInt ∧ (eA g' 233 4).toInt = 0) ∧ (eA g' 233 0).toInt = (eA g0 233 0).toInt ∧ (eA g' 233 5).toInt = (eA g0 233 5).toInt ∧ (eA g' 233 6).toInt = (eA g0 233 6).toInt)) := by
  have hF0 : Fr F_X11_clear_231 A_X11_clear_231 g0 g0 := Fr.rf
  refine Ev.mk rfl rfl ⟨Nat.le_of_ble_eq_true rfl, Or.inr (q_rc hI0.1 kx_231 rfl)⟩ ?_
  show At _ none _ _ (0, [(0, .ref 231)], [], (_, _)) _
  refine At.enter rfl ?_
  refine r_aload_n rfl ?_
  refine r_iconst 0 rfl ?_
  refine q_putI (Sh.int hI0.1 kx_231 rfl) rfl ?_
  have hI13 := HI.wI0 hI0 kx_231 rfl (p := 231) (b := 0) (v := 0) rfl
  have hF14 := Fr.wI (p := 231) (b := 0) (v := 0) hF0 rfl
  refine r_aload_n rfl ?_
  refine q_getR (Sh.ref hI13.1 kx_231 rfl) ?_
  refine r_iconst 4 rfl ?_
  obtain ⟨v15, hv15⟩ : ∃ v, eA g0 233 4 = v := ⟨_, rfl⟩
  have wv15 := HI.t4 hI0
  rw [hv15] at wv15
  refine q_iald (Sh.arr hI13.1 ka_233) 4 rfl (by decide) v15 ((eA_c (gA_sI)).trans hv15) ?_
  refine r_istore_n ([(1, .int v15), (0, .ref 231)]) rfl ?_
  refine r_aload_n rfl ?_
  refine q_getR (Sh.ref hI13.1 kx_231 rfl) ?_
  refine r_iconst 4 rfl ?_
  refine r_iconst 0 rfl ?_
  refine q_iast (Sh.arr hI13.1 ka_233) (4) rfl (by decide) ?_
  have zv18 : (0 : Int32).toInt = 0 := rfl
  have hI16 := HI.wt hI13 (j := 4) (v := 0) (by omega) (by omega)
  have hF17 := Fr.wA (p := 233) (j := 4) (v := 0) hF14 rfl
  refine r_iload_n rfl ?_
  refine r_ireti ?_
  have x19 := HI.eqA hI16 (p := 233) (j := 4) ((eA_sA_eq hI13.1 ka_233 (by first | rfl | omega) (by first | decide | omega) (by first | decide | omega)))
  have zv20 : (0 : Int32).toInt = 0 := rfl
  obtain ⟨v21, hv21⟩ : ∃ v, eA g0 233 0 = v := ⟨_, rfl⟩
  have tv21 := congrArg Int32.toInt hv21
  have wv21 := HI.t0 hI0
  rw [hv21] at wv21
  have tv21 := congrArg Int32.toInt hv21
  have x22 := HI.eqA hI16 (p := 233) (j := 0) ((((eA_sA_ne hI13.1 ka_233 (by first | decide | omega) (by first | decide | omega) (by first | decide | omega)).trans (eA_c gA_sI)).trans hv21))
  obtain ⟨v23, hv23⟩ : ∃ v, eA g0 233 5 = v := ⟨_, rfl⟩
  have wv23 := HI.t5 hI0
  rw [hv23] at wv23
  have tv23 := congrArg Int32.toInt hv23
  have x24 := HI.eqA hI16 (p := 233) (j := 5) ((((eA_sA_ne hI13.1 ka_233 (by first | decide | omega) (by first | decide | omega) (by first | decide | omega)).trans (eA_c gA_sI)).trans hv23))
  obtain ⟨v25, hv25⟩ : ∃ v, eA g0 233 6 = v := ⟨_, rfl⟩
  have wv25 := HI.t6 hI0
  rw [hv25] at wv25
  have tv25 := congrArg Int32.toInt hv25
  have x26 := HI.eqA hI16 (p := 233) (j := 6) ((((eA_sA_ne hI13.1 ka_233 (by first | decide | omega) (by first | decide | omega) (by first | decide | omega)).trans (eA_c gA_sI)).trans hv25))
  have x27 := HI.eqA hI0 (p := 233) (j := 4) (hv15)
  have x28 := HI.eqA hI0 (p := 233) (j := 0) (hv21)
  have x29 := HI.eqA hI0 (p := 233) (j := 5) (hv23)
  have x30 := HI.eqA hI0 (p := 233) (j := 6) (hv25)
  exact ⟨_, rfl, hI16, hF17, _, rfl, by omega, ⟨by omega, by omega, by omega, by omega⟩⟩
