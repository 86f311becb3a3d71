def F_X11_drop_231 : List (Nat × Nat) := [(231, 0), (231, 1)]
def A_X11_drop_231 : List Nat := [232, 233]
set_option maxRecDepth 100000 in
set_option maxHeartbeats 4000000 in
theorem T_X11_drop_231 (d : Nat) {N : Nat} {g0 : List en_E} (hI0 : HI g0) (a1 : Int32) : Ev (d + 3) 180 [.ref 231, .int a1] (g0, N) (fun w h' => ∃ g', h' = (g', N) ∧ HI g' ∧ Fr F_X11_drop_231 A_X11_drop_231 g0 g' ∧ ∃ r : Int32, w = some (.int r) ∧ ((-2) ≤ r.toInt ∧ r.toInt ≤ 7) ∧ ((eA g' 233 0).toInt = (eA g0 233 0).toInt ∧ (eA g' 233 4).toInt = (eA g0 233 4).toInt ∧ (eA g' 233 5).toInt = (eA g0 233 5).toInt ∧ (eA g' 233 6).toInt = (eA g0 233 6).toInt)) := by
  have hF0 : Fr F_X11_drop_231 A_X11_drop_231 g0 g0 := Fr.rf
  refine Ev.mk rfl rfl ⟨Nat.le_of_ble_eq_true rfl, Or.inr (q_rc hI0.1 kx_231 rfl)⟩ ?_
  show At _ none _ _ (0, [(0, .ref 231), (1, .int a1)], [], (_, _)) _
  refine At.enter rfl ?_
  refine r_aload_n rfl ?_
  refine r_iconst 0 rfl ?_
  refine q_putI (Sh.int hI0.1 kx_231 rfl) rfl ?_
  have hI177 := HI.wI0 hI0 kx_231 rfl (p := 231) (b := 0) (v := 0) rfl
  have hF178 := Fr.wI (p := 231) (b := 0) (v := 0) hF0 rfl
  refine r_aload_n rfl ?_
  refine r_iload_n rfl ?_
  refine q_inlV 10 rfl [.ref 231, .int a1] [] (Nat.le_of_ble_eq_true rfl) rfl ?_
  refine Ev.mk rfl rfl ⟨Nat.le_of_ble_eq_true rfl, Or.inr (q_rc hI177.1 kx_231 rfl)⟩ ?_
  show At _ none _ _ (0, [(0, .ref 231), (1, .int a1)], [], (_, _)) _
  refine At.enter rfl ?_
  refine r_iload_n rfl ?_
  refine q_i2l (fun v179 hv179 => ?_)
  refine r_lconst 0 rfl ?_
  refine r_aload_n rfl ?_
  refine q_getR (Sh.ref hI177.1 kx_231 rfl) ?_
  refine r_iconst 1 rfl ?_
  obtain ⟨v180, hv180⟩ : ∃ v, eA g0 233 1 = v := ⟨_, rfl⟩
  have tv180 := congrArg Int32.toInt hv180
  have wv180 := HI.t1 hI0
  rw [hv180] at wv180
  refine q_iald (Sh.arr hI177.1 ka_233) 1 rfl (by decide) v180 ((eA_c (gA_sI)).trans hv180) ?_
  refine q_i2l (fun v181 hv181 => ?_)
  refine r_lconst 1 rfl ?_
  refine q_lsub (v181.toInt - 1) rfl (by omega) (fun v182 hv182 => ?_)
  refine q_inlS 15 rfl [.long v179, .long 0, .long v182] [] (Nat.le_of_ble_eq_true rfl) rfl ?_
  refine Ev.mk rfl rfl ⟨Nat.le_of_ble_eq_true rfl, Or.inl rfl⟩ ?_
  show At _ none _ _ (0, [(0, .long v179), (2, .long 0), (4, .long v182)], [], (_, _)) _
  refine At.enter rfl ?_
  refine r_lload_n rfl ?_
  refine r_lload_n rfl ?_
  refine r_lcmp _ rfl ?_
  refine r_ifs 6 rfl (fun c183 => ?_) (fun c183 => ?_)
  · have c183_ : v179.toInt < 0 := en_j_lt_t c183
    refine At.enter rfl ?_
    refine r_iconst 0 rfl ?_
    refine Ar.fall 18 rfl ?_
    refine At.enter rfl ?_
    refine q_iretz (by decide) ?_
    refine At.enter rfl ?_
    refine q_iretz (by decide) ?_
    refine At.enter rfl ?_
    refine r_iff 13 rfl (by decide) ?_
    refine At.enter rfl ?_
    refine r_aload_n rfl ?_
    refine r_bipush (-2) rfl ?_
    refine r_callV 19 rfl [.ref 231, .int (-2)] [] (Nat.le_of_ble_eq_true rfl) rfl (T_X11_tell_231 _ hI177 (-2) (by decide)) ?_
    rintro _ _ ⟨g184, rfl, hI185, hF186, v187, rfl, hr188⟩
    refine At.sti ?_
    have hF189 := Fr.tr hF178 hF186 rfl rfl
    have zv190 : ((-2) : Int32).toInt = (-2) := rfl
    refine At.enter rfl ?_
    refine r_ireti ?_
    obtain ⟨v191, hv191⟩ : ∃ v, eA g0 233 0 = v := ⟨_, rfl⟩
    have tv191 := congrArg Int32.toInt hv191
    have wv191 := HI.t0 hI0
    rw [hv191] at wv191
    have tv191 := congrArg Int32.toInt hv191
    have x192 := HI.eqA hI185 (p := 233) (j := 0) ((((eA_c (hF186.2.1 233 (by decide))).trans (eA_c gA_sI)).trans hv191))
    obtain ⟨v193, hv193⟩ : ∃ v, eA g0 233 4 = v := ⟨_, rfl⟩
    have wv193 := HI.t4 hI0
    rw [hv193] at wv193
    have tv193 := congrArg Int32.toInt hv193
    have x194 := HI.eqA hI185 (p := 233) (j := 4) ((((eA_c (hF186.2.1 233 (by decide))).trans (eA_c gA_sI)).trans hv193))
    obtain ⟨v195, hv195⟩ : ∃ v, eA g0 233 5 = v := ⟨_, rfl⟩
    have wv195 := HI.t5 hI0
    rw [hv195] at wv195
    have tv195 := congrArg Int32.toInt hv195
    have x196 := HI.eqA hI185 (p := 233) (j := 5) ((((eA_c (hF186.2.1 233 (by decide))).trans (eA_c gA_sI)).trans hv195))
    obtain ⟨v197, hv197⟩ : ∃ v, eA g0 233 6 = v := ⟨_, rfl⟩
    have wv197 := HI.t6 hI0
    rw [hv197] at wv197
    have tv197 := congrArg Int32.toInt hv197
    have x198 := HI.eqA hI185 (p := 233) (j := 6) ((((eA_c (hF186.2.1 233 (by decide))).trans (eA_c gA_sI)).trans hv197))
    have x199 := HI.eqA hI0 (p := 233) (j := 0) (hv191)
    have x200 := HI.eqA hI0 (p := 233) (j := 4) (hv193)
    have x201 := HI.eqA hI0 (p := 233) (j := 5) (hv195)
    have x202 := HI.eqA hI0 (p := 233) (j := 6) (hv197)
    exact ⟨_, rfl, hI185, hF189, _, rfl, by omega, ⟨by omega, by omega, by omega, by omega⟩⟩
  · have c183_ : v179.toInt ≥ 0 := en_j_lt_f c183
    refine At.enter rfl ?_
    refine r_lload_n rfl ?_
    refine r_lload rfl ?_
    refine r_lcmp _ rfl ?_
    refine r_ifs 13 rfl (fun c203 => ?_) (fun c203 => ?_)
    · have c203_ : v179.toInt > v182.toInt := en_j_gt_t c203
      refine At.enter rfl ?_
      refine r_iconst 0 rfl ?_
      refine Ar.fall 18 rfl ?_
      refine At.enter rfl ?_
      refine q_iretz (by decide) ?_
      refine At.enter rfl ?_
      refine q_iretz (by decide) ?_
      refine At.enter rfl ?_
      refine r_iff 13 rfl (by decide) ?_
      refine At.enter rfl ?_
      refine r_aload_n rfl ?_
      refine r_bipush (-2) rfl ?_
      refine r_callV 19 rfl [.ref 231, .int (-2)] [] (Nat.le_of_ble_eq_true rfl) rfl (T_X11_tell_231 _ hI177 (-2) (by decide)) ?_
      rintro _ _ ⟨g204, rfl, hI205, hF206, v207, rfl, hr208⟩
      refine At.sti ?_
      have hF209 := Fr.tr hF178 hF206 rfl rfl
      have zv210 : ((-2) : Int32).toInt = (-2) := rfl
      refine At.enter rfl ?_
      refine r_ireti ?_
      obtain ⟨v211, hv211⟩ : ∃ v, eA g0 233 0 = v := ⟨_, rfl⟩
      have tv211 := congrArg Int32.toInt hv211
      have wv211 := HI.t0 hI0
      rw [hv211] at wv211
      have tv211 := congrArg Int32.toInt hv211
      have x212 := HI.eqA hI205 (p := 233) (j := 0) ((((eA_c (hF206.2.1 233 (by decide))).trans (eA_c gA_sI)).trans hv211))
      obtain ⟨v213, hv213⟩ : ∃ v, eA g0 233 4 = v := ⟨_, rfl⟩
      have wv213 := HI.t4 hI0
      rw [hv213] at wv213
      have tv213 := congrArg Int32.toInt hv213
      have x214 := HI.eqA hI205 (p := 233) (j := 4) ((((eA_c (hF206.2.1 233 (by decide))).trans (eA_c gA_sI)).trans hv213))
      obtain ⟨v215, hv215⟩ : ∃ v, eA g0 233 5 = v := ⟨_, rfl⟩
      have wv215 := HI.t5 hI0
      rw [hv215] at wv215
      have tv215 := congrArg Int32.toInt hv215
      have x216 := HI.eqA hI205 (p := 233) (j := 5) ((((eA_c (hF206.2.1 233 (by decide))).trans (eA_c gA_sI)).trans hv215))
      obtain ⟨v217, hv217⟩ : ∃ v, eA g0 233 6 = v := ⟨_, rfl⟩
      have wv217 := HI.t6 hI0
      rw [hv217] at wv217
      have tv217 := congrArg Int32.toInt hv217
      have x218 := HI.eqA hI205 (p := 233) (j := 6) ((((eA_c (hF206.2.1 233 (by decide))).trans (eA_c gA_sI)).trans hv217))
      have x219 := HI.eqA hI0 (p := 233) (j := 0) (hv211)
      have x220 := HI.eqA hI0 (p := 233) (j := 4) (hv213)
      have x221 := HI.eqA hI0 (p := 233) (j := 5) (hv215)
      have x222 := HI.eqA hI0 (p := 233) (j := 6) (hv217)
      exact ⟨_, rfl, hI205, hF209, _, rfl, by omega, ⟨by omega, by omega, by omega, by omega⟩⟩
    · have c203_ : v179.toInt ≤ v182.toInt := en_j_gt_f c203
      refine At.enter rfl ?_
      refine r_iconst 1 rfl ?_
      refine r_goto ?_
      refine At.enter rfl ?_
      refine q_iretz (by decide) ?_
      refine At.enter rfl ?_
      refine q_iretz (by decide) ?_
      refine At.enter rfl ?_
      refine r_ift (by decide) ?_
      refine At.enter rfl ?_
      refine r_bipush 46 rfl ?_
      refine r_bipush 6 rfl ?_
      refine r_iload_n rfl ?_
      refine q_imul (6 * a1.toInt) rfl (by omega) (fun v223 hv223 => ?_)
      refine q_iadd (46 + v223.toInt) rfl (by omega) (fun v224 hv224 => ?_)
      refine r_istore_n ([(2, .int v224), (0, .ref 231), (1, .int a1)]) rfl ?_
      refine Ar.fall 28 rfl ?_
      obtain ⟨v225, hv225⟩ : ∃ v, eA g0 233 0 = v := ⟨_, rfl⟩
      have tv225 := congrArg Int32.toInt hv225
      have wv225 := HI.t0 hI0
      rw [hv225] at wv225
      have tv225 := congrArg Int32.toInt hv225
      obtain ⟨v226, hv226⟩ : ∃ v, eA g0 233 4 = v := ⟨_, rfl⟩
      have wv226 := HI.t4 hI0
      rw [hv226] at wv226
      have tv226 := congrArg Int32.toInt hv226
      obtain ⟨v227, hv227⟩ : ∃ v, eA g0 233 5 = v := ⟨_, rfl⟩
      have wv227 := HI.t5 hI0
      rw [hv227] at wv227
      have tv227 := congrArg Int32.toInt hv227
      obtain ⟨v228, hv228⟩ : ∃ v, eA g0 233 6 = v := ⟨_, rfl⟩
      have wv228 := HI.t6 hI0
      rw [hv228] at wv228
      have tv228 := congrArg Int32.toInt hv228
      refine w_loopI (fun n_ l_ g_ => ∃ x249 : Int32, n_ = 88 - x249.toInt ∧ HI g_ ∧ Fr F_X11_drop_231 A_X11_drop_231 g0 g_ ∧ eA g_ 233 0 = v225 ∧ eA g_ 233 1 = v180 ∧ eA g_ 233 4 = v226 ∧ eA g_ 233 5 = v227 ∧ eA g_ 233 6 = v228 ∧ en_get 0 l_ = some (.ref 231) ∧ en_get 1 l_ = some (.int a1) ∧ en_get 2 l_ = some (.int x249) ∧ (46 ≤ x249.toInt ∧ x249.toInt ≤ 88)) ?_ (88 - v224.toInt) ⟨v224, by first | rfl | omega, hI177, hF178, ((eA_c gA_sI).trans hv225), ((eA_c gA_sI).trans hv180), ((eA_c gA_sI).trans hv226), ((eA_c gA_sI).trans hv227), ((eA_c gA_sI).trans hv228), rfl, rfl, rfl, by omega⟩
      rintro n254 l253 g250 ⟨x249, hm265, hI251, hF252, e256, e257, e258, e259, e260, e261, e262, e263, r264⟩ ih255
      have tv266 := congrArg Int32.toInt e256
      have tv267 := congrArg Int32.toInt e257
      have tv268 := congrArg Int32.toInt e258
      have tv269 := congrArg Int32.toInt e259
      have tv270 := congrArg Int32.toInt e260
      refine At.enter rfl ?_
      refine r_iload_n e263 ?_
      refine r_bipush 88 rfl ?_
      refine r_ics 34 rfl (fun c271 => ?_) (fun c271 => ?_)
      · have c271_ : x249.toInt ≥ 88 := en_i_ge_t c271
        refine At.enter rfl ?_
        refine r_aload_n e261 ?_
        refine q_getR (Sh.ref hI251.1 kx_231 rfl) ?_
        refine r_iconst 1 rfl ?_
        refine r_dup2 ⟨rfl, rfl⟩ ?_
        refine q_iald (Sh.arr hI251.1 ka_233) 1 rfl (by decide) v180 e257 ?_
        refine r_iconst 1 rfl ?_
        refine q_isub (v180.toInt - 1) rfl (by omega) (fun v272 hv272 => ?_)
        refine q_iast (Sh.arr hI251.1 ka_233) (1) rfl (by decide) ?_
        have x275 := HI.eqA hI251 (p := 233) (j := 0) (e256)
        have x276 := HI.eqA hI251 (p := 233) (j := 1) (e257)
        have yv277 := HI.lt hI251
        have hI273 := HI.wt hI251 (j := 1) (v := v272) (by omega) (by omega)
        have hF274 := Fr.wA (p := 233) (j := 1) (v := v272) hF252 rfl
        refine r_aload_n e261 ?_
        refine r_aload_n e261 ?_
        refine q_getR (Sh.ref hI273.1 kx_231 rfl) ?_
        refine r_iconst 1 rfl ?_
        refine q_iald (Sh.arr hI273.1 ka_233) 1 rfl (by decide) v272 (eA_sA_eq hI251.1 ka_233 (by first | rfl | omega) (by first | decide | omega) (by first | decide | omega)) ?_
        refine r_callV 75 rfl [.ref 231, .int v272] [] (Nat.le_of_ble_eq_true rfl) rfl (T_X11_tell_231 _ hI273 v272 (by omega)) ?_
        rintro _ _ ⟨g278, rfl, hI279, hF280, v281, rfl, hr282⟩
        refine At.sti ?_
        have hF283 := Fr.tr hF274 hF280 rfl rfl
        refine At.enter rfl ?_
        refine r_ireti ?_
        have x284 := HI.eqA hI279 (p := 233) (j := 0) ((((eA_c (hF280.2.1 233 (by decide))).trans (eA_sA_ne hI251.1 ka_233 (by first | decide | omega) (by first | decide | omega) (by first | decide | omega))).trans e256))
        have x285 := HI.eqA hI279 (p := 233) (j := 4) ((((eA_c (hF280.2.1 233 (by decide))).trans (eA_sA_ne hI251.1 ka_233 (by first | decide | omega) (by first | decide | omega) (by first | decide | omega))).trans e258))
        have x286 := HI.eqA hI279 (p := 233) (j := 5) ((((eA_c (hF280.2.1 233 (by decide))).trans (eA_sA_ne hI251.1 ka_233 (by first | decide | omega) (by first | decide | omega) (by first | decide | omega))).trans e259))
        have x287 := HI.eqA hI279 (p := 233) (j := 6) ((((eA_c (hF280.2.1 233 (by decide))).trans (eA_sA_ne hI251.1 ka_233 (by first | decide | omega) (by first | decide | omega) (by first | decide | omega))).trans e260))
        have x288 := HI.eqA hI0 (p := 233) (j := 0) (hv225)
        have x289 := HI.eqA hI0 (p := 233) (j := 4) (hv226)
        have x290 := HI.eqA hI0 (p := 233) (j := 5) (hv227)
        have x291 := HI.eqA hI0 (p := 233) (j := 6) (hv228)
        exact ⟨_, rfl, hI279, hF283, _, rfl, by omega, ⟨by omega, by omega, by omega, by omega⟩⟩
      · have c271_ : x249.toInt < 88 := en_i_ge_f c271
        refine At.enter rfl ?_
        refine r_aload_n e261 ?_
        refine q_getR (Sh.ref hI251.1 kx_231 rfl) ?_
        refine r_iload_n e263 ?_
        refine r_aload_n e261 ?_
        refine q_getR (Sh.ref hI251.1 kx_231 rfl) ?_
        refine r_iload_n e263 ?_
        refine r_bipush 6 rfl ?_
        refine q_iadd (x249.toInt + 6) rfl (by omega) (fun v292 hv292 => ?_)
        obtain ⟨v293, hv293⟩ : ∃ v, eA g250 233 (x249.toInt + 6) = v := ⟨_, rfl⟩
        refine q_iald (Sh.arr hI251.1 ka_233) (x249.toInt + 6) (by omega) (by omega) v293 hv293 ?_
        refine q_iast (Sh.arr hI251.1 ka_233) (x249.toInt) rfl (by omega) ?_
        have hI294 := HI.wcp hI251 (k := x249.toInt) (by omega) (by omega) hv293
        have hF295 := Fr.wA (p := 233) (j := x249.toInt) (v := v293) hF252 rfl
        refine q_iinc e263 (x249.toInt + 1) rfl (by omega) (fun v296 hv296 => ?_)
        refine r_goto ?_
        exact ih255 (88 - v296.toInt) _ _ ⟨v296, by first | rfl | omega, hI294, hF295, ((eA_sA_ne hI251.1 ka_233 (by first | decide | omega) (by first | decide | omega) (by first | decide | omega)).trans e256), ((eA_sA_ne hI251.1 ka_233 (by first | decide | omega) (by first | decide | omega) (by first | decide | omega)).trans e257), ((eA_sA_ne hI251.1 ka_233 (by first | decide | omega) (by first | decide | omega) (by first | decide | omega)).trans e258), ((eA_sA_ne hI251.1 ka_233 (by first | decide | omega) (by first | decide | omega) (by first | decide | omega)).trans e259), ((eA_sA_ne hI251.1 ka_233 (by first | decide | omega) (by first | decide | omega) (by first | decide | omega)).trans e260), (w_p1 (by decide) (Or.inr rfl) e261), (w_p1 (by decide) (Or.inr rfl) e262), (w_e1 _ _ _), by omega⟩ ⟨by omega, by omega⟩

def F_X11_terms_231 : List (Nat × Nat) := [(231, 0), (231, 1)]
def A_X11_terms_231 : List Nat := [232, 233]
set_option maxRecDepth 100000 in
set_option maxHeartbeats 4000000 in
theorem T_X11_terms_231 (d : Nat) {N : Nat} {g0 : List en_E} (hI0 : HI g0) (a1 : Int32) (a2 : Int32) : Ev (d + 3) 181 [.ref 231, .int a1, .int a2] (g0, N) (fun w h' => ∃ g', h' = (g', N) ∧ HI g' ∧ Fr F_X11_terms_231 A_X11_terms_231 g0 g' ∧ ∃ r : Int32, w = some (.int r) ∧ ((-1) ≤ r.toInt ∧ r.toInt ≤ 99) ∧ ((((a1.toInt = 0 ∧ 0 ≤ a2.toInt ∧ a2.toInt ≤ 99) → r.toInt = (eA g0 233 5).toInt ∧ (eA g' 233 5).toInt = a2.toInt ∧ (eA g' 233 6).toInt = (eA g0 233 6).toInt) ∧ ((a1.toInt = 1 ∧ 1 ≤ a2.toInt ∧ a2.toInt ≤ 4) → r.toInt = (eA g0 233 6).toInt ∧ (eA g' 233 6).toInt = a2.toInt ∧ (eA g' 233 5).toInt = (eA g0 233 5).toInt) ∧ (¬ (a1.toInt = 0 ∧ 0 ≤ a2.toInt ∧ a2.toInt ≤ 99) ∧ ¬ (a1.toInt = 1 ∧ 1 ≤ a2.toInt ∧ a2.toInt ≤ 4) → r.toInt = -1 ∧ (eA g' 233 5).toInt = (eA g0 233 5).toInt ∧ (eA g' 233 6).toInt = (eA g0 233 6).toInt)) ∧ (eA g' 233 0).toInt = (eA g0 233 0).toInt ∧ (eA g' 233 4).toInt = (eA g0 233 4).toInt)) := by
  have hF0 : Fr F_X11_terms_231 A_X11_terms_231 g0 g0 := Fr.rf
  refine Ev.mk rfl rfl ⟨Nat.le_of_ble_eq_true rfl, Or.inr (q_rc hI0.1 kx_231 rfl)⟩ ?_
  show At _ none _ _ (0, [(0, .ref 231), (1, .int a1), (2, .int a2)], [], (_, _)) _
  refine At.enter rfl ?_
  refine r_aload_n rfl ?_
  refine r_iconst 0 rfl ?_
  refine q_putI (Sh.int hI0.1 kx_231 rfl) rfl ?_
  have hI115 := HI.wI0 hI0 kx_231 rfl (p := 231) (b := 0) (v := 0) rfl
  have hF116 := Fr.wI (p := 231) (b := 0) (v := 0) hF0 rfl
  refine r_iload_n rfl ?_
  refine r_ifs 9 rfl (fun c117 => ?_) (fun c117 => ?_)
  · have c117_ : a1.toInt ≠ 0 := en_k_ne_t c117
    refine At.enter rfl ?_
    refine r_iload_n rfl ?_
    refine r_iconst 1 rfl ?_
    refine r_ics 26 rfl (fun c118 => ?_) (fun c118 => ?_)
    · have c118_ : a1.toInt ≠ 1 := en_i_ne_t c118
      refine At.enter rfl ?_
      refine r_iconst 0 rfl ?_
      refine Ar.fall 43 rfl ?_
      refine At.enter rfl ?_
      refine r_istore_n ([(3, .int 0), (0, .ref 231), (1, .int a1), (2, .int a2)]) rfl ?_
      refine r_iload_n rfl ?_
      refine r_ift (by decide) ?_
      refine At.enter rfl ?_
      refine r_aload_n rfl ?_
      refine r_iconst (-1) rfl ?_
      refine r_callV 64 rfl [.ref 231, .int (-1)] [] (Nat.le_of_ble_eq_true rfl) rfl (T_X11_tell_231 _ hI115 (-1) (by decide)) ?_
      rintro _ _ ⟨g119, rfl, hI120, hF121, v122, rfl, hr123⟩
      refine At.sti ?_
      have hF124 := Fr.tr hF116 hF121 rfl rfl
      have zv125 : ((-1) : Int32).toInt = (-1) := rfl
      refine At.enter rfl ?_
      refine r_ireti ?_
      obtain ⟨v126, hv126⟩ : ∃ v, eA g0 233 5 = v := ⟨_, rfl⟩
      have wv126 := HI.t5 hI0
      rw [hv126] at wv126
      have tv126 := congrArg Int32.toInt hv126
      have x127 := HI.eqA hI120 (p := 233) (j := 5) ((((eA_c (hF121.2.1 233 (by decide))).trans (eA_c gA_sI)).trans hv126))
      obtain ⟨v128, hv128⟩ : ∃ v, eA g0 233 6 = v := ⟨_, rfl⟩
      have wv128 := HI.t6 hI0
      rw [hv128] at wv128
      have tv128 := congrArg Int32.toInt hv128
      have x129 := HI.eqA hI120 (p := 233) (j := 6) ((((eA_c (hF121.2.1 233 (by decide))).trans (eA_c gA_sI)).trans hv128))
      obtain ⟨v130, hv130⟩ : ∃ v, eA g0 233 0 = v := ⟨_, rfl⟩
      have tv130 := congrArg Int32.toInt hv130
      have wv130 := HI.t0 hI0
      rw [hv130] at wv130
      have tv130 := congrArg Int32.toInt hv130
      have x131 := HI.eqA hI120 (p := 233) (j := 0) ((((eA_c (hF121.2.1 233 (by decide))).trans (eA_c gA_sI)).trans hv130))
      obtain ⟨v132, hv132⟩ : ∃ v, eA g0 233 4 = v := ⟨_, rfl⟩
      have wv132 := HI.t4 hI0
      rw [hv132] at wv132
      have tv132 := congrArg Int32.toInt hv132
      have x133 := HI.eqA hI120 (p := 233) (j := 4) ((((eA_c (hF121.2.1 233 (by decide))).trans (eA_c gA_sI)).trans hv132))
      have x134 := HI.eqA hI0 (p := 233) (j := 5) (hv126)
      have x135 := HI.eqA hI0 (p := 233) (j := 6) (hv128)
      have x136 := HI.eqA hI0 (p := 233) (j := 0) (hv130)
      have x137 := HI.eqA hI0 (p := 233) (j := 4) (hv132)
      exact ⟨_, rfl, hI120, hF124, _, rfl, by omega, ⟨by omega, by omega, by omega⟩⟩
    · have c118_ : a1.toInt = 1 := en_i_ne_f c118
      refine At.enter rfl ?_
      refine r_iload_n rfl ?_
      refine q_i2l (fun v138 hv138 => ?_)
      refine r_lconst 1 rfl ?_
      refine r_ldc2 4 rfl ?_
      refine q_inlS 35 rfl [.long v138, .long 1, .long 4] [] (Nat.le_of_ble_eq_true rfl) rfl ?_
      refine Ev.mk rfl rfl ⟨Nat.le_of_ble_eq_true rfl, Or.inl rfl⟩ ?_
      show At _ none _ _ (0, [(0, .long v138), (2, .long 1), (4, .long 4)], [], (_, _)) _
      refine At.enter rfl ?_
      refine r_lload_n rfl ?_
      refine r_lload_n rfl ?_
      refine r_lcmp _ rfl ?_
      refine r_ifs 6 rfl (fun c139 => ?_) (fun c139 => ?_)
      · have c139_ : v138.toInt < 1 := en_j_lt_t c139
        refine At.enter rfl ?_
        refine r_iconst 0 rfl ?_
        refine Ar.fall 18 rfl ?_
        refine At.enter rfl ?_
        refine q_iretz (by decide) ?_
        refine At.enter rfl ?_
        refine r_ift (by decide) ?_
        refine At.enter rfl ?_
        refine r_iconst 0 rfl ?_
        refine Ar.fall 43 rfl ?_
        refine At.enter rfl ?_
        refine r_istore_n ([(3, .int 0), (0, .ref 231), (1, .int a1), (2, .int a2)]) rfl ?_
        refine r_iload_n rfl ?_
        refine r_ift (by decide) ?_
        refine At.enter rfl ?_
        refine r_aload_n rfl ?_
        refine r_iconst (-1) rfl ?_
        refine r_callV 64 rfl [.ref 231, .int (-1)] [] (Nat.le_of_ble_eq_true rfl) rfl (T_X11_tell_231 _ hI115 (-1) (by decide)) ?_
        rintro _ _ ⟨g140, rfl, hI141, hF142, v143, rfl, hr144⟩
        refine At.sti ?_
        have hF145 := Fr.tr hF116 hF142 rfl rfl
        have zv146 : ((-1) : Int32).toInt = (-1) := rfl
        refine At.enter rfl ?_
        refine r_ireti ?_
        obtain ⟨v147, hv147⟩ : ∃ v, eA g0 233 5 = v := ⟨_, rfl⟩
        have wv147 := HI.t5 hI0
        rw [hv147] at wv147
        have tv147 := congrArg Int32.toInt hv147
        have x148 := HI.eqA hI141 (p := 233) (j := 5) ((((eA_c (hF142.2.1 233 (by decide))).trans (eA_c gA_sI)).trans hv147))
        obtain ⟨v149, hv149⟩ : ∃ v, eA g0 233 6 = v := ⟨_, rfl⟩
        have wv149 := HI.t6 hI0
        rw [hv149] at wv149
        have tv149 := congrArg Int32.toInt hv149
        have x150 := HI.eqA hI141 (p := 233) (j := 6) ((((eA_c (hF142.2.1 233 (by decide))).trans (eA_c gA_sI)).trans hv149))
        obtain ⟨v151, hv151⟩ : ∃ v, eA g0 233 0 = v := ⟨_, rfl⟩
        have tv151 := congrArg Int32.toInt hv151
        have wv151 := HI.t0 hI0
        rw [hv151] at wv151
        have tv151 := congrArg Int32.toInt hv151
        have x152 := HI.eqA hI141 (p := 233) (j := 0) ((((eA_c (hF142.2.1 233 (by decide))).trans (eA_c gA_sI)).trans hv151))
        obtain ⟨v153, hv153⟩ : ∃ v, eA g0 233 4 = v := ⟨_, rfl⟩
        have wv153 := HI.t4 hI0
        rw [hv153] at wv153
        have tv153 := congrArg Int32.toInt hv153
        have x154 := HI.eqA hI141 (p := 233) (j := 4) ((((eA_c (hF142.2.1 233 (by decide))).trans (eA_c gA_sI)).trans hv153))
        have x155 := HI.eqA hI0 (p := 233) (j := 5) (hv147)
        have x156 := HI.eqA hI0 (p := 233) (j := 6) (hv149)
        have x157 := HI.eqA hI0 (p := 233) (j := 0) (hv151)
        have x158 := HI.eqA hI0 (p := 233) (j := 4) (hv153)
        exact ⟨_, rfl, hI141, hF145, _, rfl, by omega, ⟨by omega, by omega, by omega⟩⟩
      · have c139_ : v138.toInt ≥ 1 := en_j_lt_f c139
        refine At.enter rfl ?_
        refine r_lload_n rfl ?_
        refine r_lload rfl ?_
        refine r_lcmp _ rfl ?_
        refine r_ifs 13 rfl (fun c159 => ?_) (fun c159 => ?_)
        · have c159_ : v138.toInt > 4 := en_j_gt_t c159
          refine At.enter rfl ?_
          refine r_iconst 0 rfl ?_
          refine Ar.fall 18 rfl ?_
          refine At.enter rfl ?_
          refine q_iretz (by decide) ?_
          refine At.enter rfl ?_
          refine r_ift (by decide) ?_
          refine At.enter rfl ?_
          refine r_iconst 0 rfl ?_
          refine Ar.fall 43 rfl ?_
          refine At.enter rfl ?_
          refine r_istore_n ([(3, .int 0), (0, .ref 231), (1, .int a1), (2, .int a2)]) rfl ?_
          refine r_iload_n rfl ?_
          refine r_ift (by decide) ?_
          refine At.enter rfl ?_
          refine r_aload_n rfl ?_
          refine r_iconst (-1) rfl ?_
          refine r_callV 64 rfl [.ref 231, .int (-1)] [] (Nat.le_of_ble_eq_true rfl) rfl (T_X11_tell_231 _ hI115 (-1) (by decide)) ?_
          rintro _ _ ⟨g160, rfl, hI161, hF162, v163, rfl, hr164⟩
          refine At.sti ?_
          have hF165 := Fr.tr hF116 hF162 rfl rfl
          have zv166 : ((-1) : Int32).toInt = (-1) := rfl
          refine At.enter rfl ?_
          refine r_ireti ?_
          obtain ⟨v167, hv167⟩ : ∃ v, eA g0 233 5 = v := ⟨_, rfl⟩
          have wv167 := HI.t5 hI0
          rw [hv167] at wv167
          have tv167 := congrArg Int32.toInt hv167
          have x168 := HI.eqA hI161 (p := 233) (j := 5) ((((eA_c (hF162.2.1 233 (by decide))).trans (eA_c gA_sI)).trans hv167))
          obtain ⟨v169, hv169⟩ : ∃ v, eA g0 233 6 = v := ⟨_, rfl⟩
          have wv169 := HI.t6 hI0
          rw [hv169] at wv169
          have tv169 := congrArg Int32.toInt hv169
          have x170 := HI.eqA hI161 (p := 233) (j := 6) ((((eA_c (hF162.2.1 233 (by decide))).trans (eA_c gA_sI)).trans hv169))
          obtain ⟨v171, hv171⟩ : ∃ v, eA g0 233 0 = v := ⟨_, rfl⟩
          have tv171 := congrArg Int32.toInt hv171
          have wv171 := HI.t0 hI0
          rw [hv171] at wv171
          have tv171 := congrArg Int32.toInt hv171
          have x172 := HI.eqA hI161 (p := 233) (j := 0) ((((eA_c (hF162.2.1 233 (by decide))).trans (eA_c gA_sI)).trans hv171))
          obtain ⟨v173, hv173⟩ : ∃ v, eA g0 233 4 = v := ⟨_, rfl⟩
          have wv173 := HI.t4 hI0
          rw [hv173] at wv173
          have tv173 := congrArg Int32.toInt hv173
          have x174 := HI.eqA hI161 (p := 233) (j := 4) ((((eA_c (hF162.2.1 233 (by decide))).trans (eA_c gA_sI)).trans hv173))
          have x175 := HI.eqA hI0 (p := 233) (j := 5) (hv167)
          have x176 := HI.eqA hI0 (p := 233) (j := 6) (hv169)
          have x177 := HI.eqA hI0 (p := 233) (j := 0) (hv171)
          have x178 := HI.eqA hI0 (p := 233) (j := 4) (hv173)
          exact ⟨_, rfl, hI161, hF165, _, rfl, by omega, ⟨by omega, by omega, by omega⟩⟩
        · have c159_ : v138.toInt ≤ 4 := en_j_gt_f c159
          refine At.enter rfl ?_
          refine r_iconst 1 rfl ?_
          refine r_goto ?_
          refine At.enter rfl ?_
          refine q_iretz (by decide) ?_
          refine At.enter rfl ?_
          refine r_iff 38 rfl (by decide) ?_
          refine At.enter rfl ?_
          refine r_iconst 1 rfl ?_
          refine r_goto ?_
          refine At.enter rfl ?_
          refine r_istore_n ([(3, .int 1), (0, .ref 231), (1, .int a1), (2, .int a2)]) rfl ?_
          refine r_iload_n rfl ?_
          refine r_iff 48 rfl (by decide) ?_
          refine At.enter rfl ?_
          refine r_aload_n rfl ?_
          refine r_iconst 5 rfl ?_
          refine r_iload_n rfl ?_
          refine q_iadd (5 + a1.toInt) rfl (by omega) (fun v179 hv179 => ?_)
          refine r_iload_n rfl ?_
          refine q_inlV 56 rfl [.ref 231, .int v179, .int a2] [] (Nat.le_of_ble_eq_true rfl) rfl ?_
          refine Ev.mk rfl rfl ⟨Nat.le_of_ble_eq_true rfl, Or.inr (q_rc hI115.1 kx_231 rfl)⟩ ?_
          show At _ none _ _ (0, [(0, .ref 231), (1, .int v179), (2, .int a2)], [], (_, _)) _
          refine At.enter rfl ?_
          refine r_aload_n rfl ?_
          refine q_getR (Sh.ref hI115.1 kx_231 rfl) ?_
          refine r_iload_n rfl ?_
          obtain ⟨v180, hv180⟩ : ∃ v, eA g0 233 (a1.toInt + 5) = v := ⟨_, rfl⟩
          have wv180 : 1 ≤ v180.toInt ∧ v180.toInt ≤ 4 := by have z := HI.t6 hI0; rw [← hv180, show (a1.toInt + 5) = 6 by omega]; exact z
          refine q_iald (Sh.arr hI115.1 ka_233) (a1.toInt + 5) (by omega) (by omega) v180 ((eA_c (gA_sI)).trans hv180) ?_
          refine r_istore_n ([(3, .int v180), (0, .ref 231), (1, .int v179), (2, .int a2)]) rfl ?_
          refine r_aload_n rfl ?_
          refine q_getR (Sh.ref hI115.1 kx_231 rfl) ?_
          refine r_iload_n rfl ?_
          refine r_iload_n rfl ?_
          refine q_iast (Sh.arr hI115.1 ka_233) ((a1.toInt + 5)) (by omega) (by omega) ?_
          have hI181 := HI.wt hI115 (j := (a1.toInt + 5)) (v := a2) (by omega) (by omega)
          have hF182 := Fr.wA (p := 233) (j := (a1.toInt + 5)) (v := a2) hF116 rfl
          refine r_aload_n rfl ?_
          refine r_iload_n rfl ?_
          refine q_inlV 19 rfl [.ref 231, .int v180] [] (Nat.le_of_ble_eq_true rfl) rfl ?_
          refine Ev.mk rfl rfl ⟨Nat.le_of_ble_eq_true rfl, Or.inr (q_rc hI181.1 kx_231 rfl)⟩ ?_
          show At _ none _ _ (0, [(0, .ref 231), (1, .int v180)], [], (_, _)) _
          refine At.enter rfl ?_
          refine r_aload_n rfl ?_
          refine r_iconst 0 rfl ?_
          refine q_putI (Sh.int hI181.1 kx_231 rfl) rfl ?_
          have hI183 := HI.wI0 hI181 kx_231 rfl (p := 231) (b := 1) (v := 0) rfl
          have hF184 := Fr.wI (p := 231) (b := 1) (v := 0) hF182 rfl
          refine r_iload_n rfl ?_
          refine q_ireti ?_
          refine At.enter rfl ?_
          refine q_ireti ?_
          refine At.enter rfl ?_
          refine r_goto ?_
          refine At.enter rfl ?_
          refine r_ireti ?_
          obtain ⟨v185, hv185⟩ : ∃ v, eA g0 233 5 = v := ⟨_, rfl⟩
          have wv185 := HI.t5 hI0
          rw [hv185] at wv185
          have tv185 := congrArg Int32.toInt hv185
          have x186 := HI.eqA hI183 (p := 233) (j := 5) ((((eA_c gA_sI).trans ((eA_sA_ne hI115.1 ka_233 (by first | decide | omega) (by first | decide | omega) (by first | decide | omega)).trans (eA_c gA_sI))).trans hv185))
          have x187 := HI.eqA hI183 (p := 233) (j := 6) (((eA_c gA_sI).trans (eA_sA_eq hI115.1 ka_233 (by omega) (by first | decide | omega) (by first | decide | omega))))
          obtain ⟨v188, hv188⟩ : ∃ v, eA g0 233 0 = v := ⟨_, rfl⟩
          have tv188 := congrArg Int32.toInt hv188
          have wv188 := HI.t0 hI0
          rw [hv188] at wv188
          have tv188 := congrArg Int32.toInt hv188
          have x189 := HI.eqA hI183 (p := 233) (j := 0) ((((eA_c gA_sI).trans ((eA_sA_ne hI115.1 ka_233 (by first | decide | omega) (by first | decide | omega) (by first | decide | omega)).trans (eA_c gA_sI))).trans hv188))
          obtain ⟨v190, hv190⟩ : ∃ v, eA g0 233 4 = v := ⟨_, rfl⟩
          have wv190 := HI.t4 hI0
          rw [hv190] at wv190
          have tv190 := congrArg Int32.toInt hv190
          have x191 := HI.eqA hI183 (p := 233) (j := 4) ((((eA_c gA_sI).trans ((eA_sA_ne hI115.1 ka_233 (by first | decide | omega) (by first | decide | omega) (by first | decide | omega)).trans (eA_c gA_sI))).trans hv190))
          have x192 := HI.eqA hI0 (p := 233) (j := 5) (hv185)
          obtain ⟨v193, hv193⟩ : ∃ v, eA g0 233 6 = v := ⟨_, rfl⟩
          have wv193 := HI.t6 hI0
          rw [hv193] at wv193
          have tv193 := congrArg Int32.toInt hv193
          have x194 := HI.eqA hI0 (p := 233) (j := 6) (hv193)
          have x195 := HI.eqA hI0 (p := 233) (j := 0) (hv188)
          have x196 := HI.eqA hI0 (p := 233) (j := 4) (hv190)
          exact ⟨_, rfl, hI183, hF184, _, rfl, by omega, ⟨by omega, by omega, by omega⟩⟩
  · have c117_ : a1.toInt = 0 := en_k_ne_f c117
    refine At.enter rfl ?_
    refine r_iload_n rfl ?_
    refine q_i2l (fun v197 hv197 => ?_)
    refine r_lconst 0 rfl ?_
    refine r_ldc2 99 rfl ?_
    refine q_inlS 18 rfl [.long v197, .long 0, .long 99] [] (Nat.le_of_ble_eq_true rfl) rfl ?_
    refine Ev.mk rfl rfl ⟨Nat.le_of_ble_eq_true rfl, Or.inl rfl⟩ ?_
    show At _ none _ _ (0, [(0, .long v197), (2, .long 0), (4, .long 99)], [], (_, _)) _
    refine At.enter rfl ?_
    refine r_lload_n rfl ?_
    refine r_lload_n rfl ?_
    refine r_lcmp _ rfl ?_
    refine r_ifs 6 rfl (fun c198 => ?_) (fun c198 => ?_)
    · have c198_ : v197.toInt < 0 := en_j_lt_t c198
      refine At.enter rfl ?_
      refine r_iconst 0 rfl ?_
      refine Ar.fall 18 rfl ?_
      refine At.enter rfl ?_
      refine q_iretz (by decide) ?_
      refine At.enter rfl ?_
      refine r_goto ?_
      refine At.enter rfl ?_
      refine r_istore_n ([(3, .int 0), (0, .ref 231), (1, .int a1), (2, .int a2)]) rfl ?_
      refine r_iload_n rfl ?_
      refine r_ift (by decide) ?_
      refine At.enter rfl ?_
      refine r_aload_n rfl ?_
      refine r_iconst (-1) rfl ?_
      refine r_callV 64 rfl [.ref 231, .int (-1)] [] (Nat.le_of_ble_eq_true rfl) rfl (T_X11_tell_231 _ hI115 (-1) (by decide)) ?_
      rintro _ _ ⟨g199, rfl, hI200, hF201, v202, rfl, hr203⟩
      refine At.sti ?_
      have hF204 := Fr.tr hF116 hF201 rfl rfl
      have zv205 : ((-1) : Int32).toInt = (-1) := rfl
      refine At.enter rfl ?_
      refine r_ireti ?_
      obtain ⟨v206, hv206⟩ : ∃ v, eA g0 233 5 = v := ⟨_, rfl⟩
      have wv206 := HI.t5 hI0
      rw [hv206] at wv206
      have tv206 := congrArg Int32.toInt hv206
      have x207 := HI.eqA hI200 (p := 233) (j := 5) ((((eA_c (hF201.2.1 233 (by decide))).trans (eA_c gA_sI)).trans hv206))
      obtain ⟨v208, hv208⟩ : ∃ v, eA g0 233 6 = v := ⟨_, rfl⟩
      have wv208 := HI.t6 hI0
      rw [hv208] at wv208
      have tv208 := congrArg Int32.toInt hv208
      have x209 := HI.eqA hI200 (p := 233) (j := 6) ((((eA_c (hF201.2.1 233 (by decide))).trans (eA_c gA_sI)).trans hv208))
      obtain ⟨v210, hv210⟩ : ∃ v, eA g0 233 0 = v := ⟨_, rfl⟩
      have tv210 := congrArg Int32.toInt hv210
      have wv210 := HI.t0 hI0
      rw [hv210] at wv210
      have tv210 := congrArg Int32.toInt hv210
      have x211 := HI.eqA hI200 (p := 233) (j := 0) ((((eA_c (hF201.2.1 233 (by decide))).trans (eA_c gA_sI)).trans hv210))
      obtain ⟨v212, hv212⟩ : ∃ v, eA g0 233 4 = v := ⟨_, rfl⟩
      have wv212 := HI.t4 hI0
      rw [hv212] at wv212
      have tv212 := congrArg Int32.toInt hv212
      have x213 := HI.eqA hI200 (p := 233) (j := 4) ((((eA_c (hF201.2.1 233 (by decide))).trans (eA_c gA_sI)).trans hv212))
      have x214 := HI.eqA hI0 (p := 233) (j := 5) (hv206)
      have x215 := HI.eqA hI0 (p := 233) (j := 6) (hv208)
      have x216 := HI.eqA hI0 (p := 233) (j := 0) (hv210)
      have x217 := HI.eqA hI0 (p := 233) (j := 4) (hv212)
      exact ⟨_, rfl, hI200, hF204, _, rfl, by omega, ⟨by omega, by omega, by omega⟩⟩
    · have c198_ : v197.toInt ≥ 0 := en_j_lt_f c198
      refine At.enter rfl ?_
      refine r_lload_n rfl ?_
      refine r_lload rfl ?_
      refine r_lcmp _ rfl ?_
      refine r_ifs 13 rfl (fun c218 => ?_) (fun c218 => ?_)
      · have c218_ : v197.toInt > 99 := en_j_gt_t c218
        refine At.enter rfl ?_
        refine r_iconst 0 rfl ?_
        refine Ar.fall 18 rfl ?_
        refine At.enter rfl ?_
        refine q_iretz (by decide) ?_
        refine At.enter rfl ?_
        refine r_goto ?_
        refine At.enter rfl ?_
        refine r_istore_n ([(3, .int 0), (0, .ref 231), (1, .int a1), (2, .int a2)]) rfl ?_
        refine r_iload_n rfl ?_
        refine r_ift (by decide) ?_
        refine At.enter rfl ?_
        refine r_aload_n rfl ?_
        refine r_iconst (-1) rfl ?_
        refine r_callV 64 rfl [.ref 231, .int (-1)] [] (Nat.le_of_ble_eq_true rfl) rfl (T_X11_tell_231 _ hI115 (-1) (by decide)) ?_
        rintro _ _ ⟨g219, rfl, hI220, hF221, v222, rfl, hr223⟩
        refine At.sti ?_
        have hF224 := Fr.tr hF116 hF221 rfl rfl
        have zv225 : ((-1) : Int32).toInt = (-1) := rfl
        refine At.enter rfl ?_
        refine r_ireti ?_
        obtain ⟨v226, hv226⟩ : ∃ v, eA g0 233 5 = v := ⟨_, rfl⟩
        have wv226 := HI.t5 hI0
        rw [hv226] at wv226
        have tv226 := congrArg Int32.toInt hv226
        have x227 := HI.eqA hI220 (p := 233) (j := 5) ((((eA_c (hF221.2.1 233 (by decide))).trans (eA_c gA_sI)).trans hv226))
        obtain ⟨v228, hv228⟩ : ∃ v, eA g0 233 6 = v := ⟨_, rfl⟩
        have wv228 := HI.t6 hI0
        rw [hv228] at wv228
        have tv228 := congrArg Int32.toInt hv228
        have x229 := HI.eqA hI220 (p := 233) (j := 6) ((((eA_c (hF221.2.1 233 (by decide))).trans (eA_c gA_sI)).trans hv228))
        obtain ⟨v230, hv230⟩ : ∃ v, eA g0 233 0 = v := ⟨_, rfl⟩
        have tv230 := congrArg Int32.toInt hv230
        have wv230 := HI.t0 hI0
        rw [hv230] at wv230
        have tv230 := congrArg Int32.toInt hv230
        have x231 := HI.eqA hI220 (p := 233) (j := 0) ((((eA_c (hF221.2.1 233 (by decide))).trans (eA_c gA_sI)).trans hv230))
        obtain ⟨v232, hv232⟩ : ∃ v, eA g0 233 4 = v := ⟨_, rfl⟩
        have wv232 := HI.t4 hI0
        rw [hv232] at wv232
        have tv232 := congrArg Int32.toInt hv232
        have x233 := HI.eqA hI220 (p := 233) (j := 4) ((((eA_c (hF221.2.1 233 (by decide))).trans (eA_c gA_sI)).trans hv232))
        have x234 := HI.eqA hI0 (p := 233) (j := 5) (hv226)
        have x235 := HI.eqA hI0 (p := 233) (j := 6) (hv228)
        have x236 := HI.eqA hI0 (p := 233) (j := 0) (hv230)
        have x237 := HI.eqA hI0 (p := 233) (j := 4) (hv232)
        exact ⟨_, rfl, hI220, hF224, _, rfl, by omega, ⟨by omega, by omega, by omega⟩⟩
      · have c218_ : v197.toInt ≤ 99 := en_j_gt_f c218
        refine At.enter rfl ?_
        refine r_iconst 1 rfl ?_
        refine r_goto ?_
        refine At.enter rfl ?_
        refine q_iretz (by decide) ?_
        refine At.enter rfl ?_
        refine r_goto ?_
        refine At.enter rfl ?_
        refine r_istore_n ([(3, .int 1), (0, .ref 231), (1, .int a1), (2, .int a2)]) rfl ?_
        refine r_iload_n rfl ?_
        refine r_iff 48 rfl (by decide) ?_
        refine At.enter rfl ?_
        refine r_aload_n rfl ?_
        refine r_iconst 5 rfl ?_
        refine r_iload_n rfl ?_
        refine q_iadd (5 + a1.toInt) rfl (by omega) (fun v238 hv238 => ?_)
        refine r_iload_n rfl ?_
        refine q_inlV 56 rfl [.ref 231, .int v238, .int a2] [] (Nat.le_of_ble_eq_true rfl) rfl ?_
        refine Ev.mk rfl rfl ⟨Nat.le_of_ble_eq_true rfl, Or.inr (q_rc hI115.1 kx_231 rfl)⟩ ?_
        show At _ none _ _ (0, [(0, .ref 231), (1, .int v238), (2, .int a2)], [], (_, _)) _
        refine At.enter rfl ?_
        refine r_aload_n rfl ?_
        refine q_getR (Sh.ref hI115.1 kx_231 rfl) ?_
        refine r_iload_n rfl ?_
        obtain ⟨v239, hv239⟩ : ∃ v, eA g0 233 (a1.toInt + 5) = v := ⟨_, rfl⟩
        have wv239 : 0 ≤ v239.toInt ∧ v239.toInt ≤ 99 := by have z := HI.t5 hI0; rw [← hv239, show (a1.toInt + 5) = 5 by omega]; exact z
        refine q_iald (Sh.arr hI115.1 ka_233) (a1.toInt + 5) (by omega) (by omega) v239 ((eA_c (gA_sI)).trans hv239) ?_
        refine r_istore_n ([(3, .int v239), (0, .ref 231), (1, .int v238), (2, .int a2)]) rfl ?_
        refine r_aload_n rfl ?_
        refine q_getR (Sh.ref hI115.1 kx_231 rfl) ?_
        refine r_iload_n rfl ?_
        refine r_iload_n rfl ?_
        refine q_iast (Sh.arr hI115.1 ka_233) ((a1.toInt + 5)) (by omega) (by omega) ?_
        have hI240 := HI.wt hI115 (j := (a1.toInt + 5)) (v := a2) (by omega) (by omega)
        have hF241 := Fr.wA (p := 233) (j := (a1.toInt + 5)) (v := a2) hF116 rfl
        refine r_aload_n rfl ?_
        refine r_iload_n rfl ?_
        refine q_inlV 19 rfl [.ref 231, .int v239] [] (Nat.le_of_ble_eq_true rfl) rfl ?_
        refine Ev.mk rfl rfl ⟨Nat.le_of_ble_eq_true rfl, Or.inr (q_rc hI240.1 kx_231 rfl)⟩ ?_
        show At _ none _ _ (0, [(0, .ref 231), (1, .int v239)], [], (_, _)) _
        refine At.enter rfl ?_
        refine r_aload_n rfl ?_
        refine r_iconst 0 rfl ?_
        refine q_putI (Sh.int hI240.1 kx_231 rfl) rfl ?_
        have hI242 := HI.wI0 hI240 kx_231 rfl (p := 231) (b := 1) (v := 0) rfl
        have hF243 := Fr.wI (p := 231) (b := 1) (v := 0) hF241 rfl
        refine r_iload_n rfl ?_
        refine q_ireti ?_
        refine At.enter rfl ?_
        refine q_ireti ?_
        refine At.enter rfl ?_
        refine r_goto ?_
        refine At.enter rfl ?_
        refine r_ireti ?_
        have x244 := HI.eqA hI242 (p := 233) (j := 5) (((eA_c gA_sI).trans (eA_sA_eq hI115.1 ka_233 (by omega) (by first | decide | omega) (by first | decide | omega))))
        obtain ⟨v245, hv245⟩ : ∃ v, eA g0 233 6 = v := ⟨_, rfl⟩
        have wv245 := HI.t6 hI0
        rw [hv245] at wv245
        have tv245 := congrArg Int32.toInt hv245
        have x246 := HI.eqA hI242 (p := 233) (j := 6) ((((eA_c gA_sI).trans ((eA_sA_ne hI115.1 ka_233 (by first | decide | omega) (by first | decide | omega) (by first | decide | omega)).trans (eA_c gA_sI))).trans hv245))
        obtain ⟨v247, hv247⟩ : ∃ v, eA g0 233 0 = v := ⟨_, rfl⟩
        have tv247 := congrArg Int32.toInt hv247
        have wv247 := HI.t0 hI0
        rw [hv247] at wv247
        have tv247 := congrArg Int32.toInt hv247
        have x248 := HI.eqA hI242 (p := 233) (j := 0) ((((eA_c gA_sI).trans ((eA_sA_ne hI115.1 ka_233 (by first | decide | omega) (by first | decide | omega) (by first | decide | omega)).trans (eA_c gA_sI))).trans hv247))
        obtain ⟨v249, hv249⟩ : ∃ v, eA g0 233 4 = v := ⟨_, rfl⟩
        have wv249 := HI.t4 hI0
        rw [hv249] at wv249
        have tv249 := congrArg Int32.toInt hv249
        have x250 := HI.eqA hI242 (p := 233) (j := 4) ((((eA_c gA_sI).trans ((eA_sA_ne hI115.1 ka_233 (by first | decide | omega) (by first | decide | omega) (by first | decide | omega)).trans (eA_c gA_sI))).trans hv249))
        obtain ⟨v251, hv251⟩ : ∃ v, eA g0 233 5 = v := ⟨_, rfl⟩
        have wv251 := HI.t5 hI0
        rw [hv251] at wv251
        have tv251 := congrArg Int32.toInt hv251
        have x252 := HI.eqA hI0 (p := 233) (j := 5) (hv251)
        have x253 := HI.eqA hI0 (p := 233) (j := 6) (hv245)
        have x254 := HI.eqA hI0 (p := 233) (j := 0) (hv247)
        have x255 := HI.eqA hI0 (p := 233) (j := 4) (hv249)
        exact ⟨_, rfl, hI242, hF243, _, rfl, by omega, ⟨by omega, by omega, by omega⟩⟩

def F_X11_four_231 : List (Nat × Nat) := [(231, 8)]
def A_X11_four_231 : List Nat := [236]
set_option maxRecDepth 100000 in
set_option maxHeartbeats 4000000 in
theorem T_X11_four_231 (d : Nat) {N : Nat} {g0 : List en_E} (hI0 : HI g0) (a1 : Int32) (h4 : (gI g0 231 8).toInt ≤ 396) : Ev (d + 1) 184 [.ref 231, .int a1] (g0, N) (fun w h' => ∃ g', h' = (g', N) ∧ HI g' ∧ Fr F_X11_four_231 A_X11_four_231 g0 g' ∧ w = none ∧ ((gI g' 231 8).toInt = (gI g0 231 8).toInt + 4)) := by
  have hF0 : Fr F_X11_four_231 A_X11_four_231 g0 g0 := Fr.rf
  refine Ev.mk rfl rfl ⟨Nat.le_of_ble_eq_true rfl, Or.inr (q_rc hI0.1 kx_231 rfl)⟩ ?_
  show At _ none _ _ (0, [(0, .ref 231), (1, .int a1)], [], (_, _)) _
  refine At.enter rfl ?_
  refine r_bipush 24 rfl ?_
  refine r_istore_n ([(2, .int 24), (0, .ref 231), (1, .int a1)]) rfl ?_
  refine Ar.fall 3 rfl ?_
  obtain ⟨v271, hv271⟩ : ∃ v, gI g0 231 8 = v := ⟨_, rfl⟩
  have rv271 := RgF.at hI0.2.1 (p := 231) (b := 8) rfl
  rw [hv271] at rv271
  dsimp only at rv271
  have tv271 := congrArg Int32.toInt hv271
  have z_395 : (24 : Int32).toInt = 24 := rfl
  refine w_loopI (fun n_ l_ g_ => ∃ x380 : Int32, ∃ x381 : Int32, n_ = x380.toInt + 8 ∧ HI g_ ∧ Fr F_X11_four_231 A_X11_four_231 g0 g_ ∧ gI g_ 231 8 = x381 ∧ en_get 0 l_ = some (.ref 231) ∧ en_get 1 l_ = some (.int a1) ∧ en_get 2 l_ = some (.int x380) ∧ ((-8) ≤ x380.toInt ∧ x380.toInt ≤ 24) ∧ (0 ≤ x381.toInt ∧ x381.toInt ≤ 400) ∧ (8 * x381.toInt + x380.toInt = 8 * (gI g0 231 8).toInt + 24)) ?_ (24 + 8) ⟨24, v271, by first | rfl | omega, hI0, hF0, hv271, rfl, rfl, rfl, by decide, by omega, by omega⟩
  rintro n386 l385 g382 ⟨x380, x381, hm396, hI383, hF384, e388, e389, e390, e391, r392, r393, q394⟩ ih387
  refine At.enter rfl ?_
  refine r_iload_n e391 ?_
  refine r_ifs 7 rfl (fun c397 => ?_) (fun c397 => ?_)
  · have c397_ : x380.toInt < 0 := en_k_lt_t c397
    refine At.enter rfl ?_
    refine r_vret ?_
    exact ⟨_, rfl, hI383, hF384, rfl, (by rw [e388]; omega)⟩
  · have c397_ : x380.toInt ≥ 0 := en_k_lt_f c397
    refine At.enter rfl ?_
    refine r_aload_n e389 ?_
    refine q_getR (Sh.ref hI383.1 kx_231 rfl) ?_
    refine r_aload_n e389 ?_
    refine q_getI (Sh.int hI383.1 kx_231 rfl) x381 e388 ?_
    refine r_iload_n e390 ?_
    refine r_iload_n e391 ?_
    refine q_ishrO (fun v398 hv398 => ?_)
    refine r_sipush 255 rfl ?_
    refine q_iandO (fun v399 hv399 => ?_)
    refine q_iast (Sh.arr hI383.1 ka_236) (x381.toInt) rfl (by omega) ?_
    have hI400 := HI.wA0 hI383 ka_236 (p := 236) rfl rfl (x381.toInt) (v399)
    have hF401 := Fr.wA (p := 236) (j := x381.toInt) (v := v399) hF384 rfl
    refine r_aload_n e389 ?_
    refine r_dup rfl ?_
    refine q_getI (Sh.int hI400.1 kx_231 rfl) x381 ((gI_sW).trans e388) ?_
    refine r_iconst 1 rfl ?_
    refine q_iadd (x381.toInt + 1) rfl (by omega) (fun v402 hv402 => ?_)
    refine q_putI (Sh.int hI400.1 kx_231 rfl) rfl ?_
    have hI403 := HI.wI1 hI400 kx_231 rfl (p := 231) (b := 8) (v := v402) rfl (by dsimp only; omega)
    have hF404 := Fr.wI (p := 231) (b := 8) (v := v402) hF401 rfl
    refine q_iinc e391 (x380.toInt + (-8)) rfl (by omega) (fun v405 hv405 => ?_)
    refine r_goto ?_
    exact ih387 (v405.toInt + 8) _ _ ⟨v405, v402, by first | rfl | omega, hI403, hF404, (gI_sI_eq hI400.1 kx_231 rfl _), (w_p1 (by decide) (Or.inr rfl) e389), (w_p1 (by decide) (Or.inr rfl) e390), (w_e1 _ _ _), by omega, by omega, by omega⟩ ⟨by omega, by omega⟩

def F_X11_feed_231 : List (Nat × Nat) := [(231, 0), (231, 8)]
def A_X11_feed_231 : List Nat := [236]
set_option maxRecDepth 100000 in
set_option maxHeartbeats 4000000 in
theorem T_X11_feed_231 (d : Nat) {N : Nat} {g0 : List en_E} (hI0 : HI g0) (a1 : Int32) (a2 : Int32) (a3 : Int32) (a4 : Int32) (a5 : Int32) : Ev (d + 2) 185 [.ref 231, .int a1, .int a2, .int a3, .int a4, .int a5] (g0, N) (fun w h' => ∃ g', h' = (g', N) ∧ HI g' ∧ Fr F_X11_feed_231 A_X11_feed_231 g0 g' ∧ ∃ r : Int32, w = some (.int r) ∧ ((-1) ≤ r.toInt ∧ r.toInt ≤ 400) ∧ ((380 < (gI g0 231 8).toInt → r.toInt = -1 ∧ (gI g' 231 8).toInt = (gI g0 231 8).toInt) ∧ ((gI g0 231 8).toInt ≤ 380 → r.toInt = (gI g0 231 8).toInt + 20 ∧ (gI g' 231 8).toInt = (gI g0 231 8).toInt + 20))) := by
  have hF0 : Fr F_X11_feed_231 A_X11_feed_231 g0 g0 := Fr.rf
  refine Ev.mk rfl rfl ⟨Nat.le_of_ble_eq_true rfl, Or.inr (q_rc hI0.1 kx_231 rfl)⟩ ?_
  show At _ none _ _ (0, [(0, .ref 231), (1, .int a1), (2, .int a2), (3, .int a3), (4, .int a4), (5, .int a5)], [], (_, _)) _
  refine At.enter rfl ?_
  refine r_aload_n rfl ?_
  refine r_iconst 0 rfl ?_
  refine q_putI (Sh.int hI0.1 kx_231 rfl) rfl ?_
  have hI81 := HI.wI0 hI0 kx_231 rfl (p := 231) (b := 0) (v := 0) rfl
  have hF82 := Fr.wI (p := 231) (b := 0) (v := 0) hF0 rfl
  refine r_aload_n rfl ?_
  obtain ⟨v83, hv83⟩ : ∃ v, gI g0 231 8 = v := ⟨_, rfl⟩
  have rv83 := RgF.at hI0.2.1 (p := 231) (b := 8) rfl
  rw [hv83] at rv83
  dsimp only at rv83
  refine q_getI (Sh.int hI81.1 kx_231 rfl) v83 ((gI_sI_ne (by decide)).trans hv83) ?_
  refine r_bipush 20 rfl ?_
  refine q_iadd (v83.toInt + 20) rfl (by omega) (fun v84 hv84 => ?_)
  refine r_sipush 400 rfl ?_
  refine r_ics 18 rfl (fun c85 => ?_) (fun c85 => ?_)
  · have c85_ : v84.toInt ≤ 400 := en_i_le_t c85
    refine At.enter rfl ?_
    refine r_aload_n rfl ?_
    refine r_iload_n rfl ?_
    refine r_callV 25 rfl [.ref 231, .int a1] [] (Nat.le_of_ble_eq_true rfl) rfl (T_X11_four_231 _ hI81 a1 (by rw [((gI_sI_ne (by decide)).trans hv83)]; omega)) ?_
    rintro _ _ ⟨g86, rfl, hI87, hF88, rfl, hr90⟩
    refine At.stn ?_
    have hF91 := Fr.tr hF82 hF88 rfl rfl
    rw [((gI_sI_ne (by decide)).trans hv83)] at hr90
    obtain ⟨v92, hv92⟩ : ∃ v, gI g86 231 8 = v := ⟨_, rfl⟩
    rw [hv92] at hr90
    refine At.enter rfl ?_
    refine r_aload_n rfl ?_
    refine r_iload_n rfl ?_
    refine r_callV 30 rfl [.ref 231, .int a2] [] (Nat.le_of_ble_eq_true rfl) rfl (T_X11_four_231 _ hI87 a2 (by rw [hv92]; omega)) ?_
    rintro _ _ ⟨g93, rfl, hI94, hF95, rfl, hr97⟩
    refine At.stn ?_
    have hF98 := Fr.tr hF91 hF95 rfl rfl
    rw [hv92] at hr97
    obtain ⟨v99, hv99⟩ : ∃ v, gI g93 231 8 = v := ⟨_, rfl⟩
    rw [hv99] at hr97
    refine At.enter rfl ?_
    refine r_aload_n rfl ?_
    refine r_iload_n rfl ?_
    refine r_callV 35 rfl [.ref 231, .int a3] [] (Nat.le_of_ble_eq_true rfl) rfl (T_X11_four_231 _ hI94 a3 (by rw [hv99]; omega)) ?_
    rintro _ _ ⟨g100, rfl, hI101, hF102, rfl, hr104⟩
    refine At.stn ?_
    have hF105 := Fr.tr hF98 hF102 rfl rfl
    rw [hv99] at hr104
    obtain ⟨v106, hv106⟩ : ∃ v, gI g100 231 8 = v := ⟨_, rfl⟩
    rw [hv106] at hr104
    refine At.enter rfl ?_
    refine r_aload_n rfl ?_
    refine r_iload rfl ?_
    refine r_callV 41 rfl [.ref 231, .int a4] [] (Nat.le_of_ble_eq_true rfl) rfl (T_X11_four_231 _ hI101 a4 (by rw [hv106]; omega)) ?_
    rintro _ _ ⟨g107, rfl, hI108, hF109, rfl, hr111⟩
    refine At.stn ?_
    have hF112 := Fr.tr hF105 hF109 rfl rfl
    rw [hv106] at hr111
    obtain ⟨v113, hv113⟩ : ∃ v, gI g107 231 8 = v := ⟨_, rfl⟩
    rw [hv113] at hr111
    refine At.enter rfl ?_
    refine r_aload_n rfl ?_
    refine r_iload rfl ?_
    refine r_callV 47 rfl [.ref 231, .int a5] [] (Nat.le_of_ble_eq_true rfl) rfl (T_X11_four_231 _ hI108 a5 (by rw [hv113]; omega)) ?_
    rintro _ _ ⟨g114, rfl, hI115, hF116, rfl, hr118⟩
    refine At.stn ?_
    have hF119 := Fr.tr hF112 hF116 rfl rfl
    rw [hv113] at hr118
    obtain ⟨v120, hv120⟩ : ∃ v, gI g114 231 8 = v := ⟨_, rfl⟩
    rw [hv120] at hr118
    refine At.enter rfl ?_
    refine r_aload_n rfl ?_
    refine q_getI (Sh.int hI115.1 kx_231 rfl) v120 hv120 ?_
    refine r_ireti ?_
    have x121 := HI.eqI hI115 (p := 231) (b := 8) (hv120)
    have x122 := HI.eqI hI0 (p := 231) (b := 8) (hv83)
    exact ⟨_, rfl, hI115, hF119, _, rfl, by omega, (by omega)⟩
  · have c85_ : v84.toInt > 400 := en_i_le_f c85
    refine At.enter rfl ?_
    refine r_iconst (-1) rfl ?_
    refine r_ireti ?_
    have zv123 : ((-1) : Int32).toInt = (-1) := rfl
    have x124 := HI.eqI hI81 (p := 231) (b := 8) (((gI_sI_ne (by decide)).trans hv83))
    have x125 := HI.eqI hI0 (p := 231) (b := 8) (hv83)
    exact ⟨_, rfl, hI81, hF82, _, rfl, by decide, (by omega)⟩

def F_X11_force_231 : List (Nat × Nat) := [(231, 0), (231, 1)]
def A_X11_force_231 : List Nat := [232, 233]
set_option maxRecDepth 100000 in
set_option maxHeartbeats 4000000 in
theorem T_X11_force_231 (d : Nat) {N : Nat} {g0 : List en_E} (hI0 : HI g0) (a1 : Int32) : Ev (d + 3) 211 [.ref 231, .int a1] (g0, N) (fun w h' => ∃ g', h' = (g', N) ∧ HI g' ∧ Fr F_X11_force_231 A_X11_force_231 g0 g' ∧ ∃ r : Int32, w = some (.int r) ∧ ((-2) ≤ r.toInt ∧ r.toInt ≤ 5) ∧ ((eA g' 233 0).toInt = (eA g0 233 0).toInt ∧ (eA g' 233 4).toInt = (eA g0 233 4).toInt ∧ (eA g' 233 5).toInt = (eA g0 233 5).toInt ∧ (eA g' 233 6).toInt = (eA g0 233 6).toInt)) := by
  have hF0 : Fr F_X11_force_231 A_X11_force_231 g0 g0 := Fr.rf
  refine Ev.mk rfl rfl ⟨Nat.le_of_ble_eq_true rfl, Or.inr (q_rc hI0.1 kx_231 rfl)⟩ ?_
  show At _ none _ _ (0, [(0, .ref 231), (1, .int a1)], [], (_, _)) _
  refine At.enter rfl ?_
  refine r_aload_n rfl ?_
  refine r_iconst 0 rfl ?_
  refine q_putI (Sh.int hI0.1 kx_231 rfl) rfl ?_
  have hI73 := HI.wI0 hI0 kx_231 rfl (p := 231) (b := 0) (v := 0) rfl
  have hF74 := Fr.wI (p := 231) (b := 0) (v := 0) hF0 rfl
  refine r_iload_n rfl ?_
  refine r_iconst (-1) rfl ?_
  refine r_ics 10 rfl (fun c75 => ?_) (fun c75 => ?_)
  · have c75_ : a1.toInt = (-1) := en_i_eq_t c75
    refine At.enter rfl ?_
    refine r_aload_n rfl ?_
    refine r_iconst 3 rfl ?_
    refine r_iload_n rfl ?_
    refine q_inlV 34 rfl [.ref 231, .int 3, .int a1] [] (Nat.le_of_ble_eq_true rfl) rfl ?_
    refine Ev.mk rfl rfl ⟨Nat.le_of_ble_eq_true rfl, Or.inr (q_rc hI73.1 kx_231 rfl)⟩ ?_
    show At _ none _ _ (0, [(0, .ref 231), (1, .int 3), (2, .int a1)], [], (_, _)) _
    refine At.enter rfl ?_
    refine r_aload_n rfl ?_
    refine q_getR (Sh.ref hI73.1 kx_231 rfl) ?_
    refine r_iload_n rfl ?_
    obtain ⟨v76, hv76⟩ : ∃ v, eA g0 233 3 = v := ⟨_, rfl⟩
    have wv76 := HI.t3 hI0
    rw [hv76] at wv76
    refine q_iald (Sh.arr hI73.1 ka_233) 3 rfl (by decide) v76 ((eA_c (gA_sI)).trans hv76) ?_
    refine r_istore_n ([(3, .int v76), (0, .ref 231), (1, .int 3), (2, .int a1)]) rfl ?_
    refine r_aload_n rfl ?_
    refine q_getR (Sh.ref hI73.1 kx_231 rfl) ?_
    refine r_iload_n rfl ?_
    refine r_iload_n rfl ?_
    refine q_iast (Sh.arr hI73.1 ka_233) (3) rfl (by decide) ?_
    obtain ⟨v79, hv79⟩ : ∃ v, eA g0 233 2 = v := ⟨_, rfl⟩
    have tv79 := congrArg Int32.toInt hv79
    have wv79 := HI.t2 hI0
    rw [hv79] at wv79
    have tv79 := congrArg Int32.toInt hv79
    have x80 := HI.eqA hI73 (p := 233) (j := 2) (((eA_c gA_sI).trans hv79))
    have hI77 := HI.wt hI73 (j := 3) (v := a1) (by omega) (by omega)
    have hF78 := Fr.wA (p := 233) (j := 3) (v := a1) hF74 rfl
    refine r_aload_n rfl ?_
    refine r_iload_n rfl ?_
    refine q_inlV 19 rfl [.ref 231, .int v76] [] (Nat.le_of_ble_eq_true rfl) rfl ?_
    refine Ev.mk rfl rfl ⟨Nat.le_of_ble_eq_true rfl, Or.inr (q_rc hI77.1 kx_231 rfl)⟩ ?_
    show At _ none _ _ (0, [(0, .ref 231), (1, .int v76)], [], (_, _)) _
    refine At.enter rfl ?_
    refine r_aload_n rfl ?_
    refine r_iconst 0 rfl ?_
    refine q_putI (Sh.int hI77.1 kx_231 rfl) rfl ?_
    have hI81 := HI.wI0 hI77 kx_231 rfl (p := 231) (b := 1) (v := 0) rfl
    have hF82 := Fr.wI (p := 231) (b := 1) (v := 0) hF78 rfl
    refine r_iload_n rfl ?_
    refine q_ireti ?_
    refine At.enter rfl ?_
    refine q_ireti ?_
    refine At.enter rfl ?_
    refine r_goto ?_
    refine At.enter rfl ?_
    refine r_ireti ?_
    obtain ⟨v83, hv83⟩ : ∃ v, eA g0 233 0 = v := ⟨_, rfl⟩
    have tv83 := congrArg Int32.toInt hv83
    have wv83 := HI.t0 hI0
    rw [hv83] at wv83
    have tv83 := congrArg Int32.toInt hv83
    have x84 := HI.eqA hI81 (p := 233) (j := 0) ((((eA_c gA_sI).trans ((eA_sA_ne hI73.1 ka_233 (by first | decide | omega) (by first | decide | omega) (by first | decide | omega)).trans (eA_c gA_sI))).trans hv83))
    obtain ⟨v85, hv85⟩ : ∃ v, eA g0 233 4 = v := ⟨_, rfl⟩
    have wv85 := HI.t4 hI0
    rw [hv85] at wv85
    have tv85 := congrArg Int32.toInt hv85
    have x86 := HI.eqA hI81 (p := 233) (j := 4) ((((eA_c gA_sI).trans ((eA_sA_ne hI73.1 ka_233 (by first | decide | omega) (by first | decide | omega) (by first | decide | omega)).trans (eA_c gA_sI))).trans hv85))
    obtain ⟨v87, hv87⟩ : ∃ v, eA g0 233 5 = v := ⟨_, rfl⟩
    have wv87 := HI.t5 hI0
    rw [hv87] at wv87
    have tv87 := congrArg Int32.toInt hv87
    have x88 := HI.eqA hI81 (p := 233) (j := 5) ((((eA_c gA_sI).trans ((eA_sA_ne hI73.1 ka_233 (by first | decide | omega) (by first | decide | omega) (by first | decide | omega)).trans (eA_c gA_sI))).trans hv87))
    obtain ⟨v89, hv89⟩ : ∃ v, eA g0 233 6 = v := ⟨_, rfl⟩
    have wv89 := HI.t6 hI0
    rw [hv89] at wv89
    have tv89 := congrArg Int32.toInt hv89
    have x90 := HI.eqA hI81 (p := 233) (j := 6) ((((eA_c gA_sI).trans ((eA_sA_ne hI73.1 ka_233 (by first | decide | omega) (by first | decide | omega) (by first | decide | omega)).trans (eA_c gA_sI))).trans hv89))
    have x91 := HI.eqA hI0 (p := 233) (j := 0) (hv83)
    have x92 := HI.eqA hI0 (p := 233) (j := 4) (hv85)
    have x93 := HI.eqA hI0 (p := 233) (j := 5) (hv87)
    have x94 := HI.eqA hI0 (p := 233) (j := 6) (hv89)
    exact ⟨_, rfl, hI81, hF82, _, rfl, by omega, ⟨by omega, by omega, by omega, by omega⟩⟩
  · have c75_ : a1.toInt ≠ (-1) := en_i_eq_f c75
    refine At.enter rfl ?_
    refine r_iload_n rfl ?_
    refine q_i2l (fun v95 hv95 => ?_)
    refine r_lconst 0 rfl ?_
    refine r_aload_n rfl ?_
    refine q_getR (Sh.ref hI73.1 kx_231 rfl) ?_
    refine r_iconst 2 rfl ?_
    obtain ⟨v96, hv96⟩ : ∃ v, eA g0 233 2 = v := ⟨_, rfl⟩
    have tv96 := congrArg Int32.toInt hv96
    have wv96 := HI.t2 hI0
    rw [hv96] at wv96
    refine q_iald (Sh.arr hI73.1 ka_233) 2 rfl (by decide) v96 ((eA_c (gA_sI)).trans hv96) ?_
    refine q_i2l (fun v97 hv97 => ?_)
    refine r_lconst 1 rfl ?_
    refine q_lsub (v97.toInt - 1) rfl (by omega) (fun v98 hv98 => ?_)
    refine q_inlS 25 rfl [.long v95, .long 0, .long v98] [] (Nat.le_of_ble_eq_true rfl) rfl ?_
    refine Ev.mk rfl rfl ⟨Nat.le_of_ble_eq_true rfl, Or.inl rfl⟩ ?_
    show At _ none _ _ (0, [(0, .long v95), (2, .long 0), (4, .long v98)], [], (_, _)) _
    refine At.enter rfl ?_
    refine r_lload_n rfl ?_
    refine r_lload_n rfl ?_
    refine r_lcmp _ rfl ?_
    refine r_ifs 6 rfl (fun c99 => ?_) (fun c99 => ?_)
    · have c99_ : v95.toInt < 0 := en_j_lt_t c99
      refine At.enter rfl ?_
      refine r_iconst 0 rfl ?_
      refine Ar.fall 18 rfl ?_
      refine At.enter rfl ?_
      refine q_iretz (by decide) ?_
      refine At.enter rfl ?_
      refine r_ift (by decide) ?_
      refine At.enter rfl ?_
      refine r_aload_n rfl ?_
      refine r_bipush (-2) rfl ?_
      refine r_callV 43 rfl [.ref 231, .int (-2)] [] (Nat.le_of_ble_eq_true rfl) rfl (T_X11_tell_231 _ hI73 (-2) (by decide)) ?_
      rintro _ _ ⟨g100, rfl, hI101, hF102, v103, rfl, hr104⟩
      refine At.sti ?_
      have hF105 := Fr.tr hF74 hF102 rfl rfl
      have zv106 : ((-2) : Int32).toInt = (-2) := rfl
      refine At.enter rfl ?_
      refine r_ireti ?_
      obtain ⟨v107, hv107⟩ : ∃ v, eA g0 233 0 = v := ⟨_, rfl⟩
      have tv107 := congrArg Int32.toInt hv107
      have wv107 := HI.t0 hI0
      rw [hv107] at wv107
      have tv107 := congrArg Int32.toInt hv107
      have x108 := HI.eqA hI101 (p := 233) (j := 0) ((((eA_c (hF102.2.1 233 (by decide))).trans (eA_c gA_sI)).trans hv107))
      obtain ⟨v109, hv109⟩ : ∃ v, eA g0 233 4 = v := ⟨_, rfl⟩
      have wv109 := HI.t4 hI0
      rw [hv109] at wv109
      have tv109 := congrArg Int32.toInt hv109
      have x110 := HI.eqA hI101 (p := 233) (j := 4) ((((eA_c (hF102.2.1 233 (by decide))).trans (eA_c gA_sI)).trans hv109))
      obtain ⟨v111, hv111⟩ : ∃ v, eA g0 233 5 = v := ⟨_, rfl⟩
      have wv111 := HI.t5 hI0
      rw [hv111] at wv111
      have tv111 := congrArg Int32.toInt hv111
      have x112 := HI.eqA hI101 (p := 233) (j := 5) ((((eA_c (hF102.2.1 233 (by decide))).trans (eA_c gA_sI)).trans hv111))
      obtain ⟨v113, hv113⟩ : ∃ v, eA g0 233 6 = v := ⟨_, rfl⟩
      have wv113 := HI.t6 hI0
      rw [hv113] at wv113
      have tv113 := congrArg Int32.toInt hv113
      have x114 := HI.eqA hI101 (p := 233) (j := 6) ((((eA_c (hF102.2.1 233 (by decide))).trans (eA_c gA_sI)).trans hv113))
      have x115 := HI.eqA hI0 (p := 233) (j := 0) (hv107)
      have x116 := HI.eqA hI0 (p := 233) (j := 4) (hv109)
      have x117 := HI.eqA hI0 (p := 233) (j := 5) (hv111)
      have x118 := HI.eqA hI0 (p := 233) (j := 6) (hv113)
      exact ⟨_, rfl, hI101, hF105, _, rfl, by omega, ⟨by omega, by omega, by omega, by omega⟩⟩
    · have c99_ : v95.toInt ≥ 0 := en_j_lt_f c99
      refine At.enter rfl ?_
      refine r_lload_n rfl ?_
      refine r_lload rfl ?_
      refine r_lcmp _ rfl ?_
      refine r_ifs 13 rfl (fun c119 => ?_) (fun c119 => ?_)
      · have c119_ : v95.toInt > v98.toInt := en_j_gt_t c119
        refine At.enter rfl ?_
        refine r_iconst 0 rfl ?_
        refine Ar.fall 18 rfl ?_
        refine At.enter rfl ?_
        refine q_iretz (by decide) ?_
        refine At.enter rfl ?_
        refine r_ift (by decide) ?_
        refine At.enter rfl ?_
        refine r_aload_n rfl ?_
        refine r_bipush (-2) rfl ?_
        refine r_callV 43 rfl [.ref 231, .int (-2)] [] (Nat.le_of_ble_eq_true rfl) rfl (T_X11_tell_231 _ hI73 (-2) (by decide)) ?_
        rintro _ _ ⟨g120, rfl, hI121, hF122, v123, rfl, hr124⟩
        refine At.sti ?_
        have hF125 := Fr.tr hF74 hF122 rfl rfl
        have zv126 : ((-2) : Int32).toInt = (-2) := rfl
        refine At.enter rfl ?_
        refine r_ireti ?_
        obtain ⟨v127, hv127⟩ : ∃ v, eA g0 233 0 = v := ⟨_, rfl⟩
        have tv127 := congrArg Int32.toInt hv127
        have wv127 := HI.t0 hI0
        rw [hv127] at wv127
        have tv127 := congrArg Int32.toInt hv127
        have x128 := HI.eqA hI121 (p := 233) (j := 0) ((((eA_c (hF122.2.1 233 (by decide))).trans (eA_c gA_sI)).trans hv127))
        obtain ⟨v129, hv129⟩ : ∃ v, eA g0 233 4 = v := ⟨_, rfl⟩
        have wv129 := HI.t4 hI0
        rw [hv129] at wv129
        have tv129 := congrArg Int32.toInt hv129
        have x130 := HI.eqA hI121 (p := 233) (j := 4) ((((eA_c (hF122.2.1 233 (by decide))).trans (eA_c gA_sI)).trans hv129))
        obtain ⟨v131, hv131⟩ : ∃ v, eA g0 233 5 = v := ⟨_, rfl⟩
        have wv131 := HI.t5 hI0
        rw [hv131] at wv131
        have tv131 := congrArg Int32.toInt hv131
        have x132 := HI.eqA hI121 (p := 233) (j := 5) ((((eA_c (hF122.2.1 233 (by decide))).trans (eA_c gA_sI)).trans hv131))
        obtain ⟨v133, hv133⟩ : ∃ v, eA g0 233 6 = v := ⟨_, rfl⟩
        have wv133 := HI.t6 hI0
        rw [hv133] at wv133
        have tv133 := congrArg Int32.toInt hv133
        have x134 := HI.eqA hI121 (p := 233) (j := 6) ((((eA_c (hF122.2.1 233 (by decide))).trans (eA_c gA_sI)).trans hv133))
        have x135 := HI.eqA hI0 (p := 233) (j := 0) (hv127)
        have x136 := HI.eqA hI0 (p := 233) (j := 4) (hv129)
        have x137 := HI.eqA hI0 (p := 233) (j := 5) (hv131)
        have x138 := HI.eqA hI0 (p := 233) (j := 6) (hv133)
        exact ⟨_, rfl, hI121, hF125, _, rfl, by omega, ⟨by omega, by omega, by omega, by omega⟩⟩
      · have c119_ : v95.toInt ≤ v98.toInt := en_j_gt_f c119
        refine At.enter rfl ?_
        refine r_iconst 1 rfl ?_
        refine r_goto ?_
        refine At.enter rfl ?_
        refine q_iretz (by decide) ?_
        refine At.enter rfl ?_
        refine r_iff 28 rfl (by decide) ?_
        refine At.enter rfl ?_
        refine r_aload_n rfl ?_
        refine r_iconst 3 rfl ?_
        refine r_iload_n rfl ?_
        refine q_inlV 34 rfl [.ref 231, .int 3, .int a1] [] (Nat.le_of_ble_eq_true rfl) rfl ?_
        refine Ev.mk rfl rfl ⟨Nat.le_of_ble_eq_true rfl, Or.inr (q_rc hI73.1 kx_231 rfl)⟩ ?_
        show At _ none _ _ (0, [(0, .ref 231), (1, .int 3), (2, .int a1)], [], (_, _)) _
        refine At.enter rfl ?_
        refine r_aload_n rfl ?_
        refine q_getR (Sh.ref hI73.1 kx_231 rfl) ?_
        refine r_iload_n rfl ?_
        obtain ⟨v139, hv139⟩ : ∃ v, eA g0 233 3 = v := ⟨_, rfl⟩
        have wv139 := HI.t3 hI0
        rw [hv139] at wv139
        refine q_iald (Sh.arr hI73.1 ka_233) 3 rfl (by decide) v139 ((eA_c (gA_sI)).trans hv139) ?_
        refine r_istore_n ([(3, .int v139), (0, .ref 231), (1, .int 3), (2, .int a1)]) rfl ?_
        refine r_aload_n rfl ?_
        refine q_getR (Sh.ref hI73.1 kx_231 rfl) ?_
        refine r_iload_n rfl ?_
        refine r_iload_n rfl ?_
        refine q_iast (Sh.arr hI73.1 ka_233) (3) rfl (by decide) ?_
        have x142 := HI.eqA hI73 (p := 233) (j := 2) (((eA_c gA_sI).trans hv96))
        have hI140 := HI.wt hI73 (j := 3) (v := a1) (by omega) (by omega)
        have hF141 := Fr.wA (p := 233) (j := 3) (v := a1) hF74 rfl
        refine r_aload_n rfl ?_
        refine r_iload_n rfl ?_
        refine q_inlV 19 rfl [.ref 231, .int v139] [] (Nat.le_of_ble_eq_true rfl) rfl ?_
        refine Ev.mk rfl rfl ⟨Nat.le_of_ble_eq_true rfl, Or.inr (q_rc hI140.1 kx_231 rfl)⟩ ?_
        show At _ none _ _ (0, [(0, .ref 231), (1, .int v139)], [], (_, _)) _
        refine At.enter rfl ?_
        refine r_aload_n rfl ?_
        refine r_iconst 0 rfl ?_
        refine q_putI (Sh.int hI140.1 kx_231 rfl) rfl ?_
        have hI143 := HI.wI0 hI140 kx_231 rfl (p := 231) (b := 1) (v := 0) rfl
        have hF144 := Fr.wI (p := 231) (b := 1) (v := 0) hF141 rfl
        refine r_iload_n rfl ?_
        refine q_ireti ?_
        refine At.enter rfl ?_
        refine q_ireti ?_
        refine At.enter rfl ?_
        refine r_goto ?_
        refine At.enter rfl ?_
        refine r_ireti ?_
        obtain ⟨v145, hv145⟩ : ∃ v, eA g0 233 0 = v := ⟨_, rfl⟩
        have tv145 := congrArg Int32.toInt hv145
        have wv145 := HI.t0 hI0
        rw [hv145] at wv145
        have tv145 := congrArg Int32.toInt hv145
        have x146 := HI.eqA hI143 (p := 233) (j := 0) ((((eA_c gA_sI).trans ((eA_sA_ne hI73.1 ka_233 (by first | decide | omega) (by first | decide | omega) (by first | decide | omega)).trans (eA_c gA_sI))).trans hv145))
        obtain ⟨v147, hv147⟩ : ∃ v, eA g0 233 4 = v := ⟨_, rfl⟩
        have wv147 := HI.t4 hI0
        rw [hv147] at wv147
        have tv147 := congrArg Int32.toInt hv147
        have x148 := HI.eqA hI143 (p := 233) (j := 4) ((((eA_c gA_sI).trans ((eA_sA_ne hI73.1 ka_233 (by first | decide | omega) (by first | decide | omega) (by first | decide | omega)).trans (eA_c gA_sI))).trans hv147))
        obtain ⟨v149, hv149⟩ : ∃ v, eA g0 233 5 = v := ⟨_, rfl⟩
        have wv149 := HI.t5 hI0
        rw [hv149] at wv149
        have tv149 := congrArg Int32.toInt hv149
        have x150 := HI.eqA hI143 (p := 233) (j := 5) ((((eA_c gA_sI).trans ((eA_sA_ne hI73.1 ka_233 (by first | decide | omega) (by first | decide | omega) (by first | decide | omega)).trans (eA_c gA_sI))).trans hv149))
        obtain ⟨v151, hv151⟩ : ∃ v, eA g0 233 6 = v := ⟨_, rfl⟩
        have wv151 := HI.t6 hI0
        rw [hv151] at wv151
        have tv151 := congrArg Int32.toInt hv151
        have x152 := HI.eqA hI143 (p := 233) (j := 6) ((((eA_c gA_sI).trans ((eA_sA_ne hI73.1 ka_233 (by first | decide | omega) (by first | decide | omega) (by first | decide | omega)).trans (eA_c gA_sI))).trans hv151))
        have x153 := HI.eqA hI0 (p := 233) (j := 0) (hv145)
        have x154 := HI.eqA hI0 (p := 233) (j := 4) (hv147)
        have x155 := HI.eqA hI0 (p := 233) (j := 5) (hv149)
        have x156 := HI.eqA hI0 (p := 233) (j := 6) (hv151)
        exact ⟨_, rfl, hI143, hF144, _, rfl, by omega, ⟨by omega, by omega, by omega, by omega⟩⟩

def F_X11_swap_231 : List (Nat × Nat) := [(231, 0), (231, 1)]
def A_X11_swap_231 : List Nat := [232, 233]
set_option maxRecDepth 100000 in
set_option maxHeartbeats 4000000 in
theorem T_X11_swap_231 (d : Nat) {N : Nat} {g0 : List en_E} (hI0 : HI g0) (a1 : Int32) (a2 : Int32) : Ev (d + 3) 240 [.ref 231, .int a1, .int a2] (g0, N) (fun w h' => ∃ g', h' = (g', N) ∧ HI g' ∧ Fr F_X11_swap_231 A_X11_swap_231 g0 g' ∧ ∃ r : Int32, w = some (.int r) ∧ ((-3) ≤ r.toInt ∧ r.toInt ≤ 0) ∧ (((¬ (0 ≤ a1.toInt ∧ a1.toInt < (eA g0 233 0).toInt ∧ 0 ≤ a2.toInt ∧ a2.toInt < (eA g0 233 0).toInt) → r.toInt = -2) ∧ ((0 ≤ a1.toInt ∧ a1.toInt < (eA g0 233 0).toInt ∧ 0 ≤ a2.toInt ∧ a2.toInt < (eA g0 233 0).toInt) ∧ a1.toInt = a2.toInt → r.toInt = -3) ∧ ((0 ≤ a1.toInt ∧ a1.toInt < (eA g0 233 0).toInt ∧ 0 ≤ a2.toInt ∧ a2.toInt < (eA g0 233 0).toInt) ∧ a1.toInt ≠ a2.toInt → r.toInt = 0)) ∧ (eA g' 233 0).toInt = (eA g0 233 0).toInt ∧ (eA g' 233 4).toInt = (eA g0 233 4).toInt ∧ (eA g' 233 5).toInt = (eA g0 233 5).toInt ∧ (eA g' 233 6).toInt = (eA g0 233 6).toInt)) := by
  have hF0 : Fr F_X11_swap_231 A_X11_swap_231 g0 g0 := Fr.rf
  refine Ev.mk rfl rfl ⟨Nat.le_of_ble_eq_true rfl, Or.inr (q_rc hI0.1 kx_231 rfl)⟩ ?_
  show At _ none _ _ (0, [(0, .ref 231), (1, .int a1), (2, .int a2)], [], (_, _)) _
  refine At.enter rfl ?_
  refine r_aload_n rfl ?_
  refine r_iconst 0 rfl ?_
  refine q_putI (Sh.int hI0.1 kx_231 rfl) rfl ?_
  have hI349 := HI.wI0 hI0 kx_231 rfl (p := 231) (b := 0) (v := 0) rfl
  have hF350 := Fr.wI (p := 231) (b := 0) (v := 0) hF0 rfl
  refine r_aload_n rfl ?_
  refine r_iload_n rfl ?_
  refine q_inlV 10 rfl [.ref 231, .int a1] [] (Nat.le_of_ble_eq_true rfl) rfl ?_
  refine Ev.mk rfl rfl ⟨Nat.le_of_ble_eq_true rfl, Or.inr (q_rc hI349.1 kx_231 rfl)⟩ ?_
  show At _ none _ _ (0, [(0, .ref 231), (1, .int a1)], [], (_, _)) _
  refine At.enter rfl ?_
  refine r_iload_n rfl ?_
  refine q_i2l (fun v351 hv351 => ?_)
  refine r_lconst 0 rfl ?_
  refine r_aload_n rfl ?_
  refine q_getR (Sh.ref hI349.1 kx_231 rfl) ?_
  refine r_iconst 0 rfl ?_
  obtain ⟨v352, hv352⟩ : ∃ v, eA g0 233 0 = v := ⟨_, rfl⟩
  have tv352 := congrArg Int32.toInt hv352
  have wv352 := HI.t0 hI0
  rw [hv352] at wv352
  refine q_iald (Sh.arr hI349.1 ka_233) 0 rfl (by decide) v352 ((eA_c (gA_sI)).trans hv352) ?_
  refine q_i2l (fun v353 hv353 => ?_)
  refine r_lconst 1 rfl ?_
  refine q_lsub (v353.toInt - 1) rfl (by omega) (fun v354 hv354 => ?_)
  refine q_inlS 15 rfl [.long v351, .long 0, .long v354] [] (Nat.le_of_ble_eq_true rfl) rfl ?_
  refine Ev.mk rfl rfl ⟨Nat.le_of_ble_eq_true rfl, Or.inl rfl⟩ ?_
  show At _ none _ _ (0, [(0, .long v351), (2, .long 0), (4, .long v354)], [], (_, _)) _
  refine At.enter rfl ?_
  refine r_lload_n rfl ?_
  refine r_lload_n rfl ?_
  refine r_lcmp _ rfl ?_
  refine r_ifs 6 rfl (fun c355 => ?_) (fun c355 => ?_)
  · have c355_ : v351.toInt < 0 := en_j_lt_t c355
    refine At.enter rfl ?_
    refine r_iconst 0 rfl ?_
    refine Ar.fall 18 rfl ?_
    refine At.enter rfl ?_
    refine q_iretz (by decide) ?_
    refine At.enter rfl ?_
    refine q_iretz (by decide) ?_
    refine At.enter rfl ?_
    refine r_ift (by decide) ?_
    refine At.enter rfl ?_
    refine r_aload_n rfl ?_
    refine r_bipush (-2) rfl ?_
    refine r_callV 27 rfl [.ref 231, .int (-2)] [] (Nat.le_of_ble_eq_true rfl) rfl (T_X11_tell_231 _ hI349 (-2) (by decide)) ?_
    rintro _ _ ⟨g356, rfl, hI357, hF358, v359, rfl, hr360⟩
    refine At.sti ?_
    have hF361 := Fr.tr hF350 hF358 rfl rfl
    have zv362 : ((-2) : Int32).toInt = (-2) := rfl
    refine At.enter rfl ?_
    refine r_ireti ?_
    have x363 := HI.eqA hI357 (p := 233) (j := 0) ((((eA_c (hF358.2.1 233 (by decide))).trans (eA_c gA_sI)).trans hv352))
    obtain ⟨v364, hv364⟩ : ∃ v, eA g0 233 4 = v := ⟨_, rfl⟩
    have wv364 := HI.t4 hI0
    rw [hv364] at wv364
    have tv364 := congrArg Int32.toInt hv364
    have x365 := HI.eqA hI357 (p := 233) (j := 4) ((((eA_c (hF358.2.1 233 (by decide))).trans (eA_c gA_sI)).trans hv364))
    obtain ⟨v366, hv366⟩ : ∃ v, eA g0 233 5 = v := ⟨_, rfl⟩
    have wv366 := HI.t5 hI0
    rw [hv366] at wv366
    have tv366 := congrArg Int32.toInt hv366
    have x367 := HI.eqA hI357 (p := 233) (j := 5) ((((eA_c (hF358.2.1 233 (by decide))).trans (eA_c gA_sI)).trans hv366))
    obtain ⟨v368, hv368⟩ : ∃ v, eA g0 233 6 = v := ⟨_, rfl⟩
    have wv368 := HI.t6 hI0
    rw [hv368] at wv368
    have tv368 := congrArg Int32.toInt hv368
    have x369 := HI.eqA hI357 (p := 233) (j := 6) ((((eA_c (hF358.2.1 233 (by decide))).trans (eA_c gA_sI)).trans hv368))
    have x370 := HI.eqA hI0 (p := 233) (j := 0) (hv352)
    have x371 := HI.eqA hI0 (p := 233) (j := 0) (hv352)
    have x372 := HI.eqA hI0 (p := 233) (j := 4) (hv364)
    have x373 := HI.eqA hI0 (p := 233) (j := 5) (hv366)
    have x374 := HI.eqA hI0 (p := 233) (j := 6) (hv368)
    exact ⟨_, rfl, hI357, hF361, _, rfl, by omega, ⟨by omega, by omega, by omega, by omega, by omega⟩⟩
  · have c355_ : v351.toInt ≥ 0 := en_j_lt_f c355
    refine At.enter rfl ?_
    refine r_lload_n rfl ?_
    refine r_lload rfl ?_
    refine r_lcmp _ rfl ?_
    refine r_ifs 13 rfl (fun c375 => ?_) (fun c375 => ?_)
    · have c375_ : v351.toInt > v354.toInt := en_j_gt_t c375
      refine At.enter rfl ?_
      refine r_iconst 0 rfl ?_
      refine Ar.fall 18 rfl ?_
      refine At.enter rfl ?_
      refine q_iretz (by decide) ?_
      refine At.enter rfl ?_
      refine q_iretz (by decide) ?_
      refine At.enter rfl ?_
      refine r_ift (by decide) ?_
      refine At.enter rfl ?_
      refine r_aload_n rfl ?_
      refine r_bipush (-2) rfl ?_
      refine r_callV 27 rfl [.ref 231, .int (-2)] [] (Nat.le_of_ble_eq_true rfl) rfl (T_X11_tell_231 _ hI349 (-2) (by decide)) ?_
      rintro _ _ ⟨g376, rfl, hI377, hF378, v379, rfl, hr380⟩
      refine At.sti ?_
      have hF381 := Fr.tr hF350 hF378 rfl rfl
      have zv382 : ((-2) : Int32).toInt = (-2) := rfl
      refine At.enter rfl ?_
      refine r_ireti ?_
      have x383 := HI.eqA hI377 (p := 233) (j := 0) ((((eA_c (hF378.2.1 233 (by decide))).trans (eA_c gA_sI)).trans hv352))
      obtain ⟨v384, hv384⟩ : ∃ v, eA g0 233 4 = v := ⟨_, rfl⟩
      have wv384 := HI.t4 hI0
      rw [hv384] at wv384
      have tv384 := congrArg Int32.toInt hv384
      have x385 := HI.eqA hI377 (p := 233) (j := 4) ((((eA_c (hF378.2.1 233 (by decide))).trans (eA_c gA_sI)).trans hv384))
      obtain ⟨v386, hv386⟩ : ∃ v, eA g0 233 5 = v := ⟨_, rfl⟩
      have wv386 := HI.t5 hI0
      rw [hv386] at wv386
      have tv386 := congrArg Int32.toInt hv386
      have x387 := HI.eqA hI377 (p := 233) (j := 5) ((((eA_c (hF378.2.1 233 (by decide))).trans (eA_c gA_sI)).trans hv386))
      obtain ⟨v388, hv388⟩ : ∃ v, eA g0 233 6 = v := ⟨_, rfl⟩
      have wv388 := HI.t6 hI0
      rw [hv388] at wv388
      have tv388 := congrArg Int32.toInt hv388
      have x389 := HI.eqA hI377 (p := 233) (j := 6) ((((eA_c (hF378.2.1 233 (by decide))).trans (eA_c gA_sI)).trans hv388))
      have x390 := HI.eqA hI0 (p := 233) (j := 0) (hv352)
      have x391 := HI.eqA hI0 (p := 233) (j := 0) (hv352)
      have x392 := HI.eqA hI0 (p := 233) (j := 4) (hv384)
      have x393 := HI.eqA hI0 (p := 233) (j := 5) (hv386)
      have x394 := HI.eqA hI0 (p := 233) (j := 6) (hv388)
      exact ⟨_, rfl, hI377, hF381, _, rfl, by omega, ⟨by omega, by omega, by omega, by omega, by omega⟩⟩
    · have c375_ : v351.toInt ≤ v354.toInt := en_j_gt_f c375
      refine At.enter rfl ?_
      refine r_iconst 1 rfl ?_
      refine r_goto ?_
      refine At.enter rfl ?_
      refine q_iretz (by decide) ?_
      refine At.enter rfl ?_
      refine q_iretz (by decide) ?_
      refine At.enter rfl ?_
      refine r_iff 13 rfl (by decide) ?_
      refine At.enter rfl ?_
      refine r_aload_n rfl ?_
      refine r_iload_n rfl ?_
      refine q_inlV 18 rfl [.ref 231, .int a2] [] (Nat.le_of_ble_eq_true rfl) rfl ?_
      refine Ev.mk rfl rfl ⟨Nat.le_of_ble_eq_true rfl, Or.inr (q_rc hI349.1 kx_231 rfl)⟩ ?_
      show At _ none _ _ (0, [(0, .ref 231), (1, .int a2)], [], (_, _)) _
      refine At.enter rfl ?_
      refine r_iload_n rfl ?_
      refine q_i2l (fun v395 hv395 => ?_)
      refine r_lconst 0 rfl ?_
      refine r_aload_n rfl ?_
      refine q_getR (Sh.ref hI349.1 kx_231 rfl) ?_
      refine r_iconst 0 rfl ?_
      refine q_iald (Sh.arr hI349.1 ka_233) 0 rfl (by decide) v352 ((eA_c (gA_sI)).trans hv352) ?_
      refine q_i2l (fun v396 hv396 => ?_)
      refine r_lconst 1 rfl ?_
      refine q_lsub (v396.toInt - 1) rfl (by omega) (fun v397 hv397 => ?_)
      refine q_inlS 15 rfl [.long v395, .long 0, .long v397] [] (Nat.le_of_ble_eq_true rfl) rfl ?_
      refine Ev.mk rfl rfl ⟨Nat.le_of_ble_eq_true rfl, Or.inl rfl⟩ ?_
      show At _ none _ _ (0, [(0, .long v395), (2, .long 0), (4, .long v397)], [], (_, _)) _
      refine At.enter rfl ?_
      refine r_lload_n rfl ?_
      refine r_lload_n rfl ?_
      refine r_lcmp _ rfl ?_
      refine r_ifs 6 rfl (fun c398 => ?_) (fun c398 => ?_)
      · have c398_ : v395.toInt < 0 := en_j_lt_t c398
        refine At.enter rfl ?_
        refine r_iconst 0 rfl ?_
        refine Ar.fall 18 rfl ?_
        refine At.enter rfl ?_
        refine q_iretz (by decide) ?_
        refine At.enter rfl ?_
        refine q_iretz (by decide) ?_
        refine At.enter rfl ?_
        refine r_iff 21 rfl (by decide) ?_
        refine At.enter rfl ?_
        refine r_aload_n rfl ?_
        refine r_bipush (-2) rfl ?_
        refine r_callV 27 rfl [.ref 231, .int (-2)] [] (Nat.le_of_ble_eq_true rfl) rfl (T_X11_tell_231 _ hI349 (-2) (by decide)) ?_
        rintro _ _ ⟨g399, rfl, hI400, hF401, v402, rfl, hr403⟩
        refine At.sti ?_
        have hF404 := Fr.tr hF350 hF401 rfl rfl
        have zv405 : ((-2) : Int32).toInt = (-2) := rfl
        refine At.enter rfl ?_
        refine r_ireti ?_
        have x406 := HI.eqA hI400 (p := 233) (j := 0) ((((eA_c (hF401.2.1 233 (by decide))).trans (eA_c gA_sI)).trans hv352))
        obtain ⟨v407, hv407⟩ : ∃ v, eA g0 233 4 = v := ⟨_, rfl⟩
        have wv407 := HI.t4 hI0
        rw [hv407] at wv407
        have tv407 := congrArg Int32.toInt hv407
        have x408 := HI.eqA hI400 (p := 233) (j := 4) ((((eA_c (hF401.2.1 233 (by decide))).trans (eA_c gA_sI)).trans hv407))
        obtain ⟨v409, hv409⟩ : ∃ v, eA g0 233 5 = v := ⟨_, rfl⟩
        have wv409 := HI.t5 hI0
        rw [hv409] at wv409
        have tv409 := congrArg Int32.toInt hv409
        have x410 := HI.eqA hI400 (p := 233) (j := 5) ((((eA_c (hF401.2.1 233 (by decide))).trans (eA_c gA_sI)).trans hv409))
        obtain ⟨v411, hv411⟩ : ∃ v, eA g0 233 6 = v := ⟨_, rfl⟩
        have wv411 := HI.t6 hI0
        rw [hv411] at wv411
        have tv411 := congrArg Int32.toInt hv411
        have x412 := HI.eqA hI400 (p := 233) (j := 6) ((((eA_c (hF401.2.1 233 (by decide))).trans (eA_c gA_sI)).trans hv411))
        have x413 := HI.eqA hI0 (p := 233) (j := 0) (hv352)
        have x414 := HI.eqA hI0 (p := 233) (j := 0) (hv352)
        have x415 := HI.eqA hI0 (p := 233) (j := 4) (hv407)
        have x416 := HI.eqA hI0 (p := 233) (j := 5) (hv409)
        have x417 := HI.eqA hI0 (p := 233) (j := 6) (hv411)
        exact ⟨_, rfl, hI400, hF404, _, rfl, by omega, ⟨by omega, by omega, by omega, by omega, by omega⟩⟩
      · have c398_ : v395.toInt ≥ 0 := en_j_lt_f c398
        refine At.enter rfl ?_
        refine r_lload_n rfl ?_
        refine r_lload rfl ?_
        refine r_lcmp _ rfl ?_
        refine r_ifs 13 rfl (fun c418 => ?_) (fun c418 => ?_)
        · have c418_ : v395.toInt > v397.toInt := en_j_gt_t c418
          refine At.enter rfl ?_
          refine r_iconst 0 rfl ?_
          refine Ar.fall 18 rfl ?_
          refine At.enter rfl ?_
          refine q_iretz (by decide) ?_
          refine At.enter rfl ?_
          refine q_iretz (by decide) ?_
          refine At.enter rfl ?_
          refine r_iff 21 rfl (by decide) ?_
          refine At.enter rfl ?_
          refine r_aload_n rfl ?_
          refine r_bipush (-2) rfl ?_
          refine r_callV 27 rfl [.ref 231, .int (-2)] [] (Nat.le_of_ble_eq_true rfl) rfl (T_X11_tell_231 _ hI349 (-2) (by decide)) ?_
          rintro _ _ ⟨g419, rfl, hI420, hF421, v422, rfl, hr423⟩
          refine At.sti ?_
          have hF424 := Fr.tr hF350 hF421 rfl rfl
          have zv425 : ((-2) : Int32).toInt = (-2) := rfl
          refine At.enter rfl ?_
          refine r_ireti ?_
          have x426 := HI.eqA hI420 (p := 233) (j := 0) ((((eA_c (hF421.2.1 233 (by decide))).trans (eA_c gA_sI)).trans hv352))
          obtain ⟨v427, hv427⟩ : ∃ v, eA g0 233 4 = v := ⟨_, rfl⟩
          have wv427 := HI.t4 hI0
          rw [hv427] at wv427
          have tv427 := congrArg Int32.toInt hv427
          have x428 := HI.eqA hI420 (p := 233) (j := 4) ((((eA_c (hF421.2.1 233 (by decide))).trans (eA_c gA_sI)).trans hv427))
          obtain ⟨v429, hv429⟩ : ∃ v, eA g0 233 5 = v := ⟨_, rfl⟩
          have wv429 := HI.t5 hI0
          rw [hv429] at wv429
          have tv429 := congrArg Int32.toInt hv429
          have x430 := HI.eqA hI420 (p := 233) (j := 5) ((((eA_c (hF421.2.1 233 (by decide))).trans (eA_c gA_sI)).trans hv429))
          obtain ⟨v431, hv431⟩ : ∃ v, eA g0 233 6 = v := ⟨_, rfl⟩
          have wv431 := HI.t6 hI0
          rw [hv431] at wv431
          have tv431 := congrArg Int32.toInt hv431
          have x432 := HI.eqA hI420 (p := 233) (j := 6) ((((eA_c (hF421.2.1 233 (by decide))).trans (eA_c gA_sI)).trans hv431))
          have x433 := HI.eqA hI0 (p := 233) (j := 0) (hv352)
          have x434 := HI.eqA hI0 (p := 233) (j := 0) (hv352)
          have x435 := HI.eqA hI0 (p := 233) (j := 4) (hv427)
          have x436 := HI.eqA hI0 (p := 233) (j := 5) (hv429)
          have x437 := HI.eqA hI0 (p := 233) (j := 6) (hv431)
          exact ⟨_, rfl, hI420, hF424, _, rfl, by omega, ⟨by omega, by omega, by omega, by omega, by omega⟩⟩
        · have c418_ : v395.toInt ≤ v397.toInt := en_j_gt_f c418
          refine At.enter rfl ?_
          refine r_iconst 1 rfl ?_
          refine r_goto ?_
          refine At.enter rfl ?_
          refine q_iretz (by decide) ?_
          refine At.enter rfl ?_
          refine q_iretz (by decide) ?_
          refine At.enter rfl ?_
          refine r_ift (by decide) ?_
          refine At.enter rfl ?_
          refine r_iload_n rfl ?_
          refine r_iload_n rfl ?_
          refine r_ics 33 rfl (fun c438 => ?_) (fun c438 => ?_)
          · have c438_ : a1.toInt ≠ a2.toInt := en_i_ne_t c438
            refine At.enter rfl ?_
            refine r_iconst 1 rfl ?_
            refine r_istore_n ([(3, .int 1), (0, .ref 231), (1, .int a1), (2, .int a2)]) rfl ?_
            refine Ar.fall 42 rfl ?_
            obtain ⟨v439, hv439⟩ : ∃ v, eA g0 233 4 = v := ⟨_, rfl⟩
            have wv439 := HI.t4 hI0
            rw [hv439] at wv439
            have tv439 := congrArg Int32.toInt hv439
            obtain ⟨v440, hv440⟩ : ∃ v, eA g0 233 5 = v := ⟨_, rfl⟩
            have wv440 := HI.t5 hI0
            rw [hv440] at wv440
            have tv440 := congrArg Int32.toInt hv440
            obtain ⟨v441, hv441⟩ : ∃ v, eA g0 233 6 = v := ⟨_, rfl⟩
            have wv441 := HI.t6 hI0
            rw [hv441] at wv441
            have tv441 := congrArg Int32.toInt hv441
            have z_531 : (1 : Int32).toInt = 1 := rfl
            refine w_loopI (fun n_ l_ g_ => ∃ x515 : Int32, n_ = 3 - x515.toInt ∧ HI g_ ∧ Fr F_X11_swap_231 A_X11_swap_231 g0 g_ ∧ eA g_ 233 0 = v352 ∧ eA g_ 233 4 = v439 ∧ eA g_ 233 5 = v440 ∧ eA g_ 233 6 = v441 ∧ en_get 0 l_ = some (.ref 231) ∧ en_get 1 l_ = some (.int a1) ∧ en_get 2 l_ = some (.int a2) ∧ en_get 3 l_ = some (.int x515) ∧ (1 ≤ x515.toInt ∧ x515.toInt ≤ 3)) ?_ (3 - 1) ⟨1, by first | rfl | omega, hI349, hF350, ((eA_c gA_sI).trans hv352), ((eA_c gA_sI).trans hv439), ((eA_c gA_sI).trans hv440), ((eA_c gA_sI).trans hv441), rfl, rfl, rfl, rfl, by decide⟩
            rintro n520 l519 g516 ⟨x515, hm532, hI517, hF518, e522, e523, e524, e525, e526, e527, e528, e529, r530⟩ ih521
            have tv533 := congrArg Int32.toInt e522
            have tv534 := congrArg Int32.toInt e523
            have tv535 := congrArg Int32.toInt e524
            have tv536 := congrArg Int32.toInt e525
            refine At.enter rfl ?_
            refine r_iload_n e529 ?_
            refine r_iconst 3 rfl ?_
            refine r_ics 47 rfl (fun c537 => ?_) (fun c537 => ?_)
            · have c537_ : x515.toInt ≥ 3 := en_i_ge_t c537
              refine At.enter rfl ?_
              refine r_aload_n e526 ?_
              refine r_iconst 0 rfl ?_
              refine r_callV 114 rfl [.ref 231, .int 0] [] (Nat.le_of_ble_eq_true rfl) rfl (T_X11_tell_231 _ hI517 0 (by decide)) ?_
              rintro _ _ ⟨g538, rfl, hI539, hF540, v541, rfl, hr542⟩
              refine At.sti ?_
              have hF543 := Fr.tr hF518 hF540 rfl rfl
              have zv544 : (0 : Int32).toInt = 0 := rfl
              refine At.enter rfl ?_
              refine r_ireti ?_
              have x545 := HI.eqA hI539 (p := 233) (j := 0) (((eA_c (hF540.2.1 233 (by decide))).trans e522))
              have x546 := HI.eqA hI539 (p := 233) (j := 4) (((eA_c (hF540.2.1 233 (by decide))).trans e523))
              have x547 := HI.eqA hI539 (p := 233) (j := 5) (((eA_c (hF540.2.1 233 (by decide))).trans e524))
              have x548 := HI.eqA hI539 (p := 233) (j := 6) (((eA_c (hF540.2.1 233 (by decide))).trans e525))
              have x549 := HI.eqA hI0 (p := 233) (j := 0) (hv352)
              have x550 := HI.eqA hI0 (p := 233) (j := 0) (hv352)
              have x551 := HI.eqA hI0 (p := 233) (j := 4) (hv439)
              have x552 := HI.eqA hI0 (p := 233) (j := 5) (hv440)
              have x553 := HI.eqA hI0 (p := 233) (j := 6) (hv441)
              exact ⟨_, rfl, hI539, hF543, _, rfl, by omega, ⟨by omega, by omega, by omega, by omega, by omega⟩⟩
            · have c537_ : x515.toInt < 3 := en_i_ge_f c537
              refine At.enter rfl ?_
              refine r_aload_n e526 ?_
              refine q_getR (Sh.ref hI517.1 kx_231 rfl) ?_
              refine r_bipush 10 rfl ?_
              refine r_iconst 3 rfl ?_
              refine r_iload_n e527 ?_
              refine q_imul (3 * a1.toInt) rfl (by omega) (fun v554 hv554 => ?_)
              refine q_iadd (10 + v554.toInt) rfl (by omega) (fun v555 hv555 => ?_)
              refine r_iload_n e529 ?_
              refine q_iadd (v555.toInt + x515.toInt) rfl (by omega) (fun v556 hv556 => ?_)
              obtain ⟨v557, hv557⟩ : ∃ v, eA g516 233 (3 * a1.toInt + x515.toInt + 10) = v := ⟨_, rfl⟩
              have wv557 := HI.s12 hI517 (j := (3 * a1.toInt + x515.toInt + 10)) a1.toInt x515.toInt (by omega) (by omega) (by omega)
              rw [hv557] at wv557
              refine q_iald (Sh.arr hI517.1 ka_233) (3 * a1.toInt + x515.toInt + 10) (by omega) (by omega) v557 hv557 ?_
              refine r_istore _ rfl ?_
              refine r_aload_n (w_p1 (by decide) (Or.inr rfl) e526) ?_
              refine q_getR (Sh.ref hI517.1 kx_231 rfl) ?_
              refine r_bipush 10 rfl ?_
              refine r_iconst 3 rfl ?_
              refine r_iload_n (w_p1 (by decide) (Or.inr rfl) e527) ?_
              refine q_imul (3 * a1.toInt) rfl (by omega) (fun v558 hv558 => ?_)
              refine q_iadd (10 + v558.toInt) rfl (by omega) (fun v559 hv559 => ?_)
              refine r_iload_n (w_p1 (by decide) (Or.inr rfl) e529) ?_
              refine q_iadd (v559.toInt + x515.toInt) rfl (by omega) (fun v560 hv560 => ?_)
              refine r_aload_n (w_p1 (by decide) (Or.inr rfl) e526) ?_
              refine q_getR (Sh.ref hI517.1 kx_231 rfl) ?_
              refine r_bipush 10 rfl ?_
              refine r_iconst 3 rfl ?_
              refine r_iload_n (w_p1 (by decide) (Or.inr rfl) e528) ?_
              refine q_imul (3 * a2.toInt) rfl (by omega) (fun v561 hv561 => ?_)
              refine q_iadd (10 + v561.toInt) rfl (by omega) (fun v562 hv562 => ?_)
              refine r_iload_n (w_p1 (by decide) (Or.inr rfl) e529) ?_
              refine q_iadd (v562.toInt + x515.toInt) rfl (by omega) (fun v563 hv563 => ?_)
              obtain ⟨v564, hv564⟩ : ∃ v, eA g516 233 (3 * a2.toInt + x515.toInt + 10) = v := ⟨_, rfl⟩
              have wv564 := HI.s12 hI517 (j := (3 * a2.toInt + x515.toInt + 10)) a2.toInt x515.toInt (by omega) (by omega) (by omega)
              rw [hv564] at wv564
              refine q_iald (Sh.arr hI517.1 ka_233) (3 * a2.toInt + x515.toInt + 10) (by omega) (by omega) v564 hv564 ?_
              refine q_iast (Sh.arr hI517.1 ka_233) ((3 * a1.toInt + x515.toInt + 10)) (by omega) (by omega) ?_
              have hI565 := HI.ws hI517 (j := (3 * a1.toInt + x515.toInt + 10)) (v := v564) a1.toInt x515.toInt (by omega) (by omega) (by omega) (by omega)
              have hF566 := Fr.wA (p := 233) (j := (3 * a1.toInt + x515.toInt + 10)) (v := v564) hF518 rfl
              refine r_aload_n (w_p1 (by decide) (Or.inr rfl) e526) ?_
              refine q_getR (Sh.ref hI565.1 kx_231 rfl) ?_
              refine r_bipush 10 rfl ?_
              refine r_iconst 3 rfl ?_
              refine r_iload_n (w_p1 (by decide) (Or.inr rfl) e528) ?_
              refine q_imul (3 * a2.toInt) rfl (by omega) (fun v567 hv567 => ?_)
              refine q_iadd (10 + v567.toInt) rfl (by omega) (fun v568 hv568 => ?_)
              refine r_iload_n (w_p1 (by decide) (Or.inr rfl) e529) ?_
              refine q_iadd (v568.toInt + x515.toInt) rfl (by omega) (fun v569 hv569 => ?_)
              refine r_iload (w_e1 _ _ _) ?_
              refine q_iast (Sh.arr hI565.1 ka_233) ((3 * a2.toInt + x515.toInt + 10)) (by omega) (by omega) ?_
              have hI570 := HI.ws hI565 (j := (3 * a2.toInt + x515.toInt + 10)) (v := v557) a2.toInt x515.toInt (by omega) (by omega) (by omega) (by omega)
              have hF571 := Fr.wA (p := 233) (j := (3 * a2.toInt + x515.toInt + 10)) (v := v557) hF566 rfl
              refine q_iinc (w_p1 (by decide) (Or.inr rfl) e529) (x515.toInt + 1) rfl (by omega) (fun v572 hv572 => ?_)
              refine r_goto ?_
              exact ih521 (3 - v572.toInt) _ _ ⟨v572, by first | rfl | omega, hI570, hF571, (((eA_sA_ne hI565.1 ka_233 (by first | decide | omega) (by first | decide | omega) (by first | decide | omega)).trans (eA_sA_ne hI517.1 ka_233 (by first | decide | omega) (by first | decide | omega) (by first | decide | omega))).trans e522), (((eA_sA_ne hI565.1 ka_233 (by first | decide | omega) (by first | decide | omega) (by first | decide | omega)).trans (eA_sA_ne hI517.1 ka_233 (by first | decide | omega) (by first | decide | omega) (by first | decide | omega))).trans e523), (((eA_sA_ne hI565.1 ka_233 (by first | decide | omega) (by first | decide | omega) (by first | decide | omega)).trans (eA_sA_ne hI517.1 ka_233 (by first | decide | omega) (by first | decide | omega) (by first | decide | omega))).trans e524), (((eA_sA_ne hI565.1 ka_233 (by first | decide | omega) (by first | decide | omega) (by first | decide | omega)).trans (eA_sA_ne hI517.1 ka_233 (by first | decide | omega) (by first | decide | omega) (by first | decide | omega))).trans e525), (w_p1 (by decide) (Or.inr rfl) (w_p1 (by decide) (Or.inr rfl) e526)), (w_p1 (by decide) (Or.inr rfl) (w_p1 (by decide) (Or.inr rfl) e527)), (w_p1 (by decide) (Or.inr rfl) (w_p1 (by decide) (Or.inr rfl) e528)), (w_e1 _ _ _), by omega⟩ ⟨by omega, by omega⟩
          · have c438_ : a1.toInt = a2.toInt := en_i_ne_f c438
            refine At.enter rfl ?_
            refine r_aload_n rfl ?_
            refine r_bipush (-3) rfl ?_
            refine r_callV 39 rfl [.ref 231, .int (-3)] [] (Nat.le_of_ble_eq_true rfl) rfl (T_X11_tell_231 _ hI349 (-3) (by decide)) ?_
            rintro _ _ ⟨g573, rfl, hI574, hF575, v576, rfl, hr577⟩
            refine At.sti ?_
            have hF578 := Fr.tr hF350 hF575 rfl rfl
            have zv579 : ((-3) : Int32).toInt = (-3) := rfl
            refine At.enter rfl ?_
            refine r_ireti ?_
            have x580 := HI.eqA hI574 (p := 233) (j := 0) ((((eA_c (hF575.2.1 233 (by decide))).trans (eA_c gA_sI)).trans hv352))
            obtain ⟨v581, hv581⟩ : ∃ v, eA g0 233 4 = v := ⟨_, rfl⟩
            have wv581 := HI.t4 hI0
            rw [hv581] at wv581
            have tv581 := congrArg Int32.toInt hv581
            have x582 := HI.eqA hI574 (p := 233) (j := 4) ((((eA_c (hF575.2.1 233 (by decide))).trans (eA_c gA_sI)).trans hv581))
            obtain ⟨v583, hv583⟩ : ∃ v, eA g0 233 5 = v := ⟨_, rfl⟩
            have wv583 := HI.t5 hI0
            rw [hv583] at wv583
            have tv583 := congrArg Int32.toInt hv583
            have x584 := HI.eqA hI574 (p := 233) (j := 5) ((((eA_c (hF575.2.1 233 (by decide))).trans (eA_c gA_sI)).trans hv583))
            obtain ⟨v585, hv585⟩ : ∃ v, eA g0 233 6 = v := ⟨_, rfl⟩
            have wv585 := HI.t6 hI0
            rw [hv585] at wv585
            have tv585 := congrArg Int32.toInt hv585
            have x586 := HI.eqA hI574 (p := 233) (j := 6) ((((eA_c (hF575.2.1 233 (by decide))).trans (eA_c gA_sI)).trans hv585))
            have x587 := HI.eqA hI0 (p := 233) (j := 0) (hv352)
            have x588 := HI.eqA hI0 (p := 233) (j := 0) (hv352)
            have x589 := HI.eqA hI0 (p := 233) (j := 4) (hv581)
            have x590 := HI.eqA hI0 (p := 233) (j := 5) (hv583)
            have x591 := HI.eqA hI0 (p := 233) (j := 6) (hv585)
            exact ⟨_, rfl, hI574, hF578, _, rfl, by omega, ⟨by omega, by omega, by omega, by omega, by omega⟩⟩

def F_X11_sign_231 : List (Nat × Nat) := [(231, 0), (231, 1)]
def A_X11_sign_231 : List Nat := [232, 233]
set_option maxRecDepth 100000 in
set_option maxHeartbeats 4000000 in
theorem T_X11_sign_231 (d : Nat) {N : Nat} {g0 : List en_E} (hI0 : HI g0) (a1 : Int32) (a2 : Int32) : Ev (d + 3) 254 [.ref 231, .int a1, .int a2] (g0, N) (fun w h' => ∃ g', h' = (g', N) ∧ HI g' ∧ Fr F_X11_sign_231 A_X11_sign_231 g0 g' ∧ ∃ r : Int32, w = some (.int r) ∧ ((-5) ≤ r.toInt ∧ r.toInt ≤ 8) ∧ (((¬ (0 ≤ a2.toInt ∧ a2.toInt ≤ 99) → r.toInt = -1 ∧ (eA g' 233 4).toInt = (eA g0 233 4).toInt) ∧ ((0 ≤ a2.toInt ∧ a2.toInt ≤ 99) ∧ ¬ (0 ≤ a1.toInt ∧ a1.toInt < (eA g0 233 0).toInt) → r.toInt = -2 ∧ (eA g' 233 4).toInt = (eA g0 233 4).toInt) ∧ ((0 ≤ a2.toInt ∧ a2.toInt ≤ 99) ∧ (0 ≤ a1.toInt ∧ a1.toInt < (eA g0 233 0).toInt) ∧ 8 ≤ (eA g0 233 4).toInt → r.toInt = -5 ∧ (eA g' 233 4).toInt = (eA g0 233 4).toInt) ∧ ((0 ≤ a2.toInt ∧ a2.toInt ≤ 99) ∧ (0 ≤ a1.toInt ∧ a1.toInt < (eA g0 233 0).toInt) ∧ (eA g0 233 4).toInt < 8 → r.toInt = (eA g0 233 4).toInt + 1 ∧ (eA g' 233 4).toInt = (eA g0 233 4).toInt + 1)) ∧ (eA g' 233 0).toInt = (eA g0 233 0).toInt ∧ (eA g' 233 5).toInt = (eA g0 233 5).toInt ∧ (eA g' 233 6).toInt = (eA g0 233 6).toInt)) := by
  have hF0 : Fr F_X11_sign_231 A_X11_sign_231 g0 g0 := Fr.rf
  refine Ev.mk rfl rfl ⟨Nat.le_of_ble_eq_true rfl, Or.inr (q_rc hI0.1 kx_231 rfl)⟩ ?_
  show At _ none _ _ (0, [(0, .ref 231), (1, .int a1), (2, .int a2)], [], (_, _)) _
  refine At.enter rfl ?_
  refine r_aload_n rfl ?_
  refine r_iconst 0 rfl ?_
  refine q_putI (Sh.int hI0.1 kx_231 rfl) rfl ?_
  have hI135 := HI.wI0 hI0 kx_231 rfl (p := 231) (b := 0) (v := 0) rfl
  have hF136 := Fr.wI (p := 231) (b := 0) (v := 0) hF0 rfl
  refine r_iload_n rfl ?_
  refine q_i2l (fun v137 hv137 => ?_)
  refine r_lconst 0 rfl ?_
  refine r_ldc2 99 rfl ?_
  refine q_inlS 14 rfl [.long v137, .long 0, .long 99] [] (Nat.le_of_ble_eq_true rfl) rfl ?_
  refine Ev.mk rfl rfl ⟨Nat.le_of_ble_eq_true rfl, Or.inl rfl⟩ ?_
  show At _ none _ _ (0, [(0, .long v137), (2, .long 0), (4, .long 99)], [], (_, _)) _
  refine At.enter rfl ?_
  refine r_lload_n rfl ?_
  refine r_lload_n rfl ?_
  refine r_lcmp _ rfl ?_
  refine r_ifs 6 rfl (fun c138 => ?_) (fun c138 => ?_)
  · have c138_ : v137.toInt < 0 := en_j_lt_t c138
    refine At.enter rfl ?_
    refine r_iconst 0 rfl ?_
    refine Ar.fall 18 rfl ?_
    refine At.enter rfl ?_
    refine q_iretz (by decide) ?_
    refine At.enter rfl ?_
    refine r_iff 17 rfl (by decide) ?_
    refine At.enter rfl ?_
    refine r_aload_n rfl ?_
    refine r_iconst (-1) rfl ?_
    refine r_callV 22 rfl [.ref 231, .int (-1)] [] (Nat.le_of_ble_eq_true rfl) rfl (T_X11_tell_231 _ hI135 (-1) (by decide)) ?_
    rintro _ _ ⟨g139, rfl, hI140, hF141, v142, rfl, hr143⟩
    refine At.sti ?_
    have hF144 := Fr.tr hF136 hF141 rfl rfl
    have zv145 : ((-1) : Int32).toInt = (-1) := rfl
    refine At.enter rfl ?_
    refine r_ireti ?_
    obtain ⟨v146, hv146⟩ : ∃ v, eA g0 233 4 = v := ⟨_, rfl⟩
    have wv146 := HI.t4 hI0
    rw [hv146] at wv146
    have tv146 := congrArg Int32.toInt hv146
    have x147 := HI.eqA hI140 (p := 233) (j := 4) ((((eA_c (hF141.2.1 233 (by decide))).trans (eA_c gA_sI)).trans hv146))
    obtain ⟨v148, hv148⟩ : ∃ v, eA g0 233 0 = v := ⟨_, rfl⟩
    have tv148 := congrArg Int32.toInt hv148
    have wv148 := HI.t0 hI0
    rw [hv148] at wv148
    have tv148 := congrArg Int32.toInt hv148
    have x149 := HI.eqA hI140 (p := 233) (j := 0) ((((eA_c (hF141.2.1 233 (by decide))).trans (eA_c gA_sI)).trans hv148))
    obtain ⟨v150, hv150⟩ : ∃ v, eA g0 233 5 = v := ⟨_, rfl⟩
    have wv150 := HI.t5 hI0
    rw [hv150] at wv150
    have tv150 := congrArg Int32.toInt hv150
    have x151 := HI.eqA hI140 (p := 233) (j := 5) ((((eA_c (hF141.2.1 233 (by decide))).trans (eA_c gA_sI)).trans hv150))
    obtain ⟨v152, hv152⟩ : ∃ v, eA g0 233 6 = v := ⟨_, rfl⟩
    have wv152 := HI.t6 hI0
    rw [hv152] at wv152
    have tv152 := congrArg Int32.toInt hv152
    have x153 := HI.eqA hI140 (p := 233) (j := 6) ((((eA_c (hF141.2.1 233 (by decide))).trans (eA_c gA_sI)).trans hv152))
    have x154 := HI.eqA hI0 (p := 233) (j := 4) (hv146)
    have x155 := HI.eqA hI0 (p := 233) (j := 0) (hv148)
    have x156 := HI.eqA hI0 (p := 233) (j := 0) (hv148)
    have x157 := HI.eqA hI0 (p := 233) (j := 5) (hv150)
    have x158 := HI.eqA hI0 (p := 233) (j := 6) (hv152)
    exact ⟨_, rfl, hI140, hF144, _, rfl, by omega, ⟨by omega, by omega, by omega, by omega⟩⟩
  · have c138_ : v137.toInt ≥ 0 := en_j_lt_f c138
    refine At.enter rfl ?_
    refine r_lload_n rfl ?_
    refine r_lload rfl ?_
    refine r_lcmp _ rfl ?_
    refine r_ifs 13 rfl (fun c159 => ?_) (fun c159 => ?_)
    · have c159_ : v137.toInt > 99 := en_j_gt_t c159
      refine At.enter rfl ?_
      refine r_iconst 0 rfl ?_
      refine Ar.fall 18 rfl ?_
      refine At.enter rfl ?_
      refine q_iretz (by decide) ?_
      refine At.enter rfl ?_
      refine r_iff 17 rfl (by decide) ?_
      refine At.enter rfl ?_
      refine r_aload_n rfl ?_
      refine r_iconst (-1) rfl ?_
      refine r_callV 22 rfl [.ref 231, .int (-1)] [] (Nat.le_of_ble_eq_true rfl) rfl (T_X11_tell_231 _ hI135 (-1) (by decide)) ?_
      rintro _ _ ⟨g160, rfl, hI161, hF162, v163, rfl, hr164⟩
      refine At.sti ?_
      have hF165 := Fr.tr hF136 hF162 rfl rfl
      have zv166 : ((-1) : Int32).toInt = (-1) := rfl
      refine At.enter rfl ?_
      refine r_ireti ?_
      obtain ⟨v167, hv167⟩ : ∃ v, eA g0 233 4 = v := ⟨_, rfl⟩
      have wv167 := HI.t4 hI0
      rw [hv167] at wv167
      have tv167 := congrArg Int32.toInt hv167
      have x168 := HI.eqA hI161 (p := 233) (j := 4) ((((eA_c (hF162.2.1 233 (by decide))).trans (eA_c gA_sI)).trans hv167))
      obtain ⟨v169, hv169⟩ : ∃ v, eA g0 233 0 = v := ⟨_, rfl⟩
      have tv169 := congrArg Int32.toInt hv169
      have wv169 := HI.t0 hI0
      rw [hv169] at wv169
      have tv169 := congrArg Int32.toInt hv169
      have x170 := HI.eqA hI161 (p := 233) (j := 0) ((((eA_c (hF162.2.1 233 (by decide))).trans (eA_c gA_sI)).trans hv169))
      obtain ⟨v171, hv171⟩ : ∃ v, eA g0 233 5 = v := ⟨_, rfl⟩
      have wv171 := HI.t5 hI0
      rw [hv171] at wv171
      have tv171 := congrArg Int32.toInt hv171
      have x172 := HI.eqA hI161 (p := 233) (j := 5) ((((eA_c (hF162.2.1 233 (by decide))).trans (eA_c gA_sI)).trans hv171))
      obtain ⟨v173, hv173⟩ : ∃ v, eA g0 233 6 = v := ⟨_, rfl⟩
      have wv173 := HI.t6 hI0
      rw [hv173] at wv173
      have tv173 := congrArg Int32.toInt hv173
      have x174 := HI.eqA hI161 (p := 233) (j := 6) ((((eA_c (hF162.2.1 233 (by decide))).trans (eA_c gA_sI)).trans hv173))
      have x175 := HI.eqA hI0 (p := 233) (j := 4) (hv167)
      have x176 := HI.eqA hI0 (p := 233) (j := 0) (hv169)
      have x177 := HI.eqA hI0 (p := 233) (j := 0) (hv169)
      have x178 := HI.eqA hI0 (p := 233) (j := 5) (hv171)
      have x179 := HI.eqA hI0 (p := 233) (j := 6) (hv173)
      exact ⟨_, rfl, hI161, hF165, _, rfl, by omega, ⟨by omega, by omega, by omega, by omega⟩⟩
    · have c159_ : v137.toInt ≤ 99 := en_j_gt_f c159
      refine At.enter rfl ?_
      refine r_iconst 1 rfl ?_
      refine r_goto ?_
      refine At.enter rfl ?_
      refine q_iretz (by decide) ?_
      refine At.enter rfl ?_
      refine r_ift (by decide) ?_
      refine At.enter rfl ?_
      refine r_aload_n rfl ?_
      refine r_iload_n rfl ?_
      refine q_inlV 28 rfl [.ref 231, .int a1] [] (Nat.le_of_ble_eq_true rfl) rfl ?_
      refine Ev.mk rfl rfl ⟨Nat.le_of_ble_eq_true rfl, Or.inr (q_rc hI135.1 kx_231 rfl)⟩ ?_
      show At _ none _ _ (0, [(0, .ref 231), (1, .int a1)], [], (_, _)) _
      refine At.enter rfl ?_
      refine r_iload_n rfl ?_
      refine q_i2l (fun v180 hv180 => ?_)
      refine r_lconst 0 rfl ?_
      refine r_aload_n rfl ?_
      refine q_getR (Sh.ref hI135.1 kx_231 rfl) ?_
      refine r_iconst 0 rfl ?_
      obtain ⟨v181, hv181⟩ : ∃ v, eA g0 233 0 = v := ⟨_, rfl⟩
      have tv181 := congrArg Int32.toInt hv181
      have wv181 := HI.t0 hI0
      rw [hv181] at wv181
      refine q_iald (Sh.arr hI135.1 ka_233) 0 rfl (by decide) v181 ((eA_c (gA_sI)).trans hv181) ?_
      refine q_i2l (fun v182 hv182 => ?_)
      refine r_lconst 1 rfl ?_
      refine q_lsub (v182.toInt - 1) rfl (by omega) (fun v183 hv183 => ?_)
      refine q_inlS 15 rfl [.long v180, .long 0, .long v183] [] (Nat.le_of_ble_eq_true rfl) rfl ?_
      refine Ev.mk rfl rfl ⟨Nat.le_of_ble_eq_true rfl, Or.inl rfl⟩ ?_
      show At _ none _ _ (0, [(0, .long v180), (2, .long 0), (4, .long v183)], [], (_, _)) _
      refine At.enter rfl ?_
      refine r_lload_n rfl ?_
      refine r_lload_n rfl ?_
      refine r_lcmp _ rfl ?_
      refine r_ifs 6 rfl (fun c184 => ?_) (fun c184 => ?_)
      · have c184_ : v180.toInt < 0 := en_j_lt_t c184
        refine At.enter rfl ?_
        refine r_iconst 0 rfl ?_
        refine Ar.fall 18 rfl ?_
        refine At.enter rfl ?_
        refine q_iretz (by decide) ?_
        refine At.enter rfl ?_
        refine q_iretz (by decide) ?_
        refine At.enter rfl ?_
        refine r_iff 31 rfl (by decide) ?_
        refine At.enter rfl ?_
        refine r_aload_n rfl ?_
        refine r_bipush (-2) rfl ?_
        refine r_callV 37 rfl [.ref 231, .int (-2)] [] (Nat.le_of_ble_eq_true rfl) rfl (T_X11_tell_231 _ hI135 (-2) (by decide)) ?_
        rintro _ _ ⟨g185, rfl, hI186, hF187, v188, rfl, hr189⟩
        refine At.sti ?_
        have hF190 := Fr.tr hF136 hF187 rfl rfl
        have zv191 : ((-2) : Int32).toInt = (-2) := rfl
        refine At.enter rfl ?_
        refine r_ireti ?_
        obtain ⟨v192, hv192⟩ : ∃ v, eA g0 233 4 = v := ⟨_, rfl⟩
        have wv192 := HI.t4 hI0
        rw [hv192] at wv192
        have tv192 := congrArg Int32.toInt hv192
        have x193 := HI.eqA hI186 (p := 233) (j := 4) ((((eA_c (hF187.2.1 233 (by decide))).trans (eA_c gA_sI)).trans hv192))
        have x194 := HI.eqA hI186 (p := 233) (j := 0) ((((eA_c (hF187.2.1 233 (by decide))).trans (eA_c gA_sI)).trans hv181))
        obtain ⟨v195, hv195⟩ : ∃ v, eA g0 233 5 = v := ⟨_, rfl⟩
        have wv195 := HI.t5 hI0
        rw [hv195] at wv195
        have tv195 := congrArg Int32.toInt hv195
        have x196 := HI.eqA hI186 (p := 233) (j := 5) ((((eA_c (hF187.2.1 233 (by decide))).trans (eA_c gA_sI)).trans hv195))
        obtain ⟨v197, hv197⟩ : ∃ v, eA g0 233 6 = v := ⟨_, rfl⟩
        have wv197 := HI.t6 hI0
        rw [hv197] at wv197
        have tv197 := congrArg Int32.toInt hv197
        have x198 := HI.eqA hI186 (p := 233) (j := 6) ((((eA_c (hF187.2.1 233 (by decide))).trans (eA_c gA_sI)).trans hv197))
        have x199 := HI.eqA hI0 (p := 233) (j := 4) (hv192)
        have x200 := HI.eqA hI0 (p := 233) (j := 0) (hv181)
        have x201 := HI.eqA hI0 (p := 233) (j := 0) (hv181)
        have x202 := HI.eqA hI0 (p := 233) (j := 5) (hv195)
        have x203 := HI.eqA hI0 (p := 233) (j := 6) (hv197)
        exact ⟨_, rfl, hI186, hF190, _, rfl, by omega, ⟨by omega, by omega, by omega, by omega⟩⟩
      · have c184_ : v180.toInt ≥ 0 := en_j_lt_f c184
        refine At.enter rfl ?_
        refine r_lload_n rfl ?_
        refine r_lload rfl ?_
        refine r_lcmp _ rfl ?_
        refine r_ifs 13 rfl (fun c204 => ?_) (fun c204 => ?_)
        · have c204_ : v180.toInt > v183.toInt := en_j_gt_t c204
          refine At.enter rfl ?_
          refine r_iconst 0 rfl ?_
          refine Ar.fall 18 rfl ?_
          refine At.enter rfl ?_
          refine q_iretz (by decide) ?_
          refine At.enter rfl ?_
          refine q_iretz (by decide) ?_
          refine At.enter rfl ?_
          refine r_iff 31 rfl (by decide) ?_
          refine At.enter rfl ?_
          refine r_aload_n rfl ?_
          refine r_bipush (-2) rfl ?_
          refine r_callV 37 rfl [.ref 231, .int (-2)] [] (Nat.le_of_ble_eq_true rfl) rfl (T_X11_tell_231 _ hI135 (-2) (by decide)) ?_
          rintro _ _ ⟨g205, rfl, hI206, hF207, v208, rfl, hr209⟩
          refine At.sti ?_
          have hF210 := Fr.tr hF136 hF207 rfl rfl
          have zv211 : ((-2) : Int32).toInt = (-2) := rfl
          refine At.enter rfl ?_
          refine r_ireti ?_
          obtain ⟨v212, hv212⟩ : ∃ v, eA g0 233 4 = v := ⟨_, rfl⟩
          have wv212 := HI.t4 hI0
          rw [hv212] at wv212
          have tv212 := congrArg Int32.toInt hv212
          have x213 := HI.eqA hI206 (p := 233) (j := 4) ((((eA_c (hF207.2.1 233 (by decide))).trans (eA_c gA_sI)).trans hv212))
          have x214 := HI.eqA hI206 (p := 233) (j := 0) ((((eA_c (hF207.2.1 233 (by decide))).trans (eA_c gA_sI)).trans hv181))
          obtain ⟨v215, hv215⟩ : ∃ v, eA g0 233 5 = v := ⟨_, rfl⟩
          have wv215 := HI.t5 hI0
          rw [hv215] at wv215
          have tv215 := congrArg Int32.toInt hv215
          have x216 := HI.eqA hI206 (p := 233) (j := 5) ((((eA_c (hF207.2.1 233 (by decide))).trans (eA_c gA_sI)).trans hv215))
          obtain ⟨v217, hv217⟩ : ∃ v, eA g0 233 6 = v := ⟨_, rfl⟩
          have wv217 := HI.t6 hI0
          rw [hv217] at wv217
          have tv217 := congrArg Int32.toInt hv217
          have x218 := HI.eqA hI206 (p := 233) (j := 6) ((((eA_c (hF207.2.1 233 (by decide))).trans (eA_c gA_sI)).trans hv217))
          have x219 := HI.eqA hI0 (p := 233) (j := 4) (hv212)
          have x220 := HI.eqA hI0 (p := 233) (j := 0) (hv181)
          have x221 := HI.eqA hI0 (p := 233) (j := 0) (hv181)
          have x222 := HI.eqA hI0 (p := 233) (j := 5) (hv215)
          have x223 := HI.eqA hI0 (p := 233) (j := 6) (hv217)
          exact ⟨_, rfl, hI206, hF210, _, rfl, by omega, ⟨by omega, by omega, by omega, by omega⟩⟩
        · have c204_ : v180.toInt ≤ v183.toInt := en_j_gt_f c204
          refine At.enter rfl ?_
          refine r_iconst 1 rfl ?_
          refine r_goto ?_
          refine At.enter rfl ?_
          refine q_iretz (by decide) ?_
          refine At.enter rfl ?_
          refine q_iretz (by decide) ?_
          refine At.enter rfl ?_
          refine r_ift (by decide) ?_
          refine At.enter rfl ?_
          refine r_aload_n rfl ?_
          refine q_getR (Sh.ref hI135.1 kx_231 rfl) ?_
          refine r_iconst 4 rfl ?_
          obtain ⟨v224, hv224⟩ : ∃ v, eA g0 233 4 = v := ⟨_, rfl⟩
          have wv224 := HI.t4 hI0
          rw [hv224] at wv224
          refine q_iald (Sh.arr hI135.1 ka_233) 4 rfl (by decide) v224 ((eA_c (gA_sI)).trans hv224) ?_
          refine r_istore_n ([(3, .int v224), (0, .ref 231), (1, .int a1), (2, .int a2)]) rfl ?_
          refine r_iload_n rfl ?_
          refine r_bipush 8 rfl ?_
          refine r_ics 51 rfl (fun c225 => ?_) (fun c225 => ?_)
          · have c225_ : v224.toInt ≠ 8 := en_i_ne_t c225
            refine At.enter rfl ?_
            refine r_aload_n rfl ?_
            refine q_getR (Sh.ref hI135.1 kx_231 rfl) ?_
            refine r_bipush 94 rfl ?_
            refine r_iconst 2 rfl ?_
            refine r_iload_n rfl ?_
            refine q_imul (2 * v224.toInt) rfl (by omega) (fun v226 hv226 => ?_)
            refine q_iadd (94 + v226.toInt) rfl (by omega) (fun v227 hv227 => ?_)
            refine r_iload_n rfl ?_
            refine q_iast (Sh.arr hI135.1 ka_233) ((2 * v224.toInt + 94)) (by omega) (by omega) ?_
            have hI228 := HI.wg hI135 (j := (2 * v224.toInt + 94)) (v := a1) (v224.toInt) 0 (by omega) (by decide) (by omega) (by omega)
            have hF229 := Fr.wA (p := 233) (j := (2 * v224.toInt + 94)) (v := a1) hF136 rfl
            refine r_aload_n rfl ?_
            refine q_getR (Sh.ref hI228.1 kx_231 rfl) ?_
            refine r_bipush 94 rfl ?_
            refine r_iconst 2 rfl ?_
            refine r_iload_n rfl ?_
            refine q_imul (2 * v224.toInt) rfl (by omega) (fun v230 hv230 => ?_)
            refine q_iadd (94 + v230.toInt) rfl (by omega) (fun v231 hv231 => ?_)
            refine r_iconst 1 rfl ?_
            refine q_iadd (v231.toInt + 1) rfl (by omega) (fun v232 hv232 => ?_)
            refine r_iload_n rfl ?_
            refine q_iast (Sh.arr hI228.1 ka_233) ((2 * v224.toInt + 95)) (by omega) (by omega) ?_
            have hI233 := HI.wg hI228 (j := (2 * v224.toInt + 95)) (v := a2) (v224.toInt) 1 (by omega) (by decide) (by omega) (by omega)
            have hF234 := Fr.wA (p := 233) (j := (2 * v224.toInt + 95)) (v := a2) hF229 rfl
            refine r_aload_n rfl ?_
            refine q_getR (Sh.ref hI233.1 kx_231 rfl) ?_
            refine r_iconst 4 rfl ?_
            refine r_dup2 ⟨rfl, rfl⟩ ?_
            refine q_iald (Sh.arr hI233.1 ka_233) 4 rfl (by decide) v224 (((eA_sA_ne hI228.1 ka_233 (by first | decide | omega) (by first | decide | omega) (by first | decide | omega)).trans ((eA_sA_ne hI135.1 ka_233 (by first | decide | omega) (by first | decide | omega) (by first | decide | omega)).trans (eA_c gA_sI))).trans hv224) ?_
            refine r_iconst 1 rfl ?_
            refine q_iadd (v224.toInt + 1) rfl (by omega) (fun v235 hv235 => ?_)
            refine q_iast (Sh.arr hI233.1 ka_233) (4) rfl (by decide) ?_
            have hI236 := HI.wt hI233 (j := 4) (v := v235) (by omega) (by omega)
            have hF237 := Fr.wA (p := 233) (j := 4) (v := v235) hF234 rfl
            refine r_aload_n rfl ?_
            refine r_iload_n rfl ?_
            refine r_iconst 1 rfl ?_
            refine q_iadd (v224.toInt + 1) rfl (by omega) (fun v238 hv238 => ?_)
            refine r_callV 101 rfl [.ref 231, .int v238] [] (Nat.le_of_ble_eq_true rfl) rfl (T_X11_tell_231 _ hI236 v238 (by omega)) ?_
            rintro _ _ ⟨g239, rfl, hI240, hF241, v242, rfl, hr243⟩
            refine At.sti ?_
            have hF244 := Fr.tr hF237 hF241 rfl rfl
            refine At.enter rfl ?_
            refine r_ireti ?_
            have x245 := HI.eqA hI240 (p := 233) (j := 4) (((eA_c (hF241.2.1 233 (by decide))).trans (eA_sA_eq hI233.1 ka_233 (by first | rfl | omega) (by first | decide | omega) (by first | decide | omega))))
            have x246 := HI.eqA hI240 (p := 233) (j := 0) ((((eA_c (hF241.2.1 233 (by decide))).trans ((eA_sA_ne hI233.1 ka_233 (by first | decide | omega) (by first | decide | omega) (by first | decide | omega)).trans ((eA_sA_ne hI228.1 ka_233 (by first | decide | omega) (by first | decide | omega) (by first | decide | omega)).trans ((eA_sA_ne hI135.1 ka_233 (by first | decide | omega) (by first | decide | omega) (by first | decide | omega)).trans (eA_c gA_sI))))).trans hv181))
            obtain ⟨v247, hv247⟩ : ∃ v, eA g0 233 5 = v := ⟨_, rfl⟩
            have wv247 := HI.t5 hI0
            rw [hv247] at wv247
            have tv247 := congrArg Int32.toInt hv247
            have x248 := HI.eqA hI240 (p := 233) (j := 5) ((((eA_c (hF241.2.1 233 (by decide))).trans ((eA_sA_ne hI233.1 ka_233 (by first | decide | omega) (by first | decide | omega) (by first | decide | omega)).trans ((eA_sA_ne hI228.1 ka_233 (by first | decide | omega) (by first | decide | omega) (by first | decide | omega)).trans ((eA_sA_ne hI135.1 ka_233 (by first | decide | omega) (by first | decide | omega) (by first | decide | omega)).trans (eA_c gA_sI))))).trans hv247))
            obtain ⟨v249, hv249⟩ : ∃ v, eA g0 233 6 = v := ⟨_, rfl⟩
            have wv249 := HI.t6 hI0
            rw [hv249] at wv249
            have tv249 := congrArg Int32.toInt hv249
            have x250 := HI.eqA hI240 (p := 233) (j := 6) ((((eA_c (hF241.2.1 233 (by decide))).trans ((eA_sA_ne hI233.1 ka_233 (by first | decide | omega) (by first | decide | omega) (by first | decide | omega)).trans ((eA_sA_ne hI228.1 ka_233 (by first | decide | omega) (by first | decide | omega) (by first | decide | omega)).trans ((eA_sA_ne hI135.1 ka_233 (by first | decide | omega) (by first | decide | omega) (by first | decide | omega)).trans (eA_c gA_sI))))).trans hv249))
            have x251 := HI.eqA hI0 (p := 233) (j := 4) (hv224)
            have x252 := HI.eqA hI0 (p := 233) (j := 0) (hv181)
            have x253 := HI.eqA hI0 (p := 233) (j := 0) (hv181)
            have x254 := HI.eqA hI0 (p := 233) (j := 5) (hv247)
            have x255 := HI.eqA hI0 (p := 233) (j := 6) (hv249)
            exact ⟨_, rfl, hI240, hF244, _, rfl, by omega, ⟨by omega, by omega, by omega, by omega⟩⟩
          · have c225_ : v224.toInt = 8 := en_i_ne_f c225
            refine At.enter rfl ?_
            refine r_aload_n rfl ?_
            refine r_bipush (-5) rfl ?_
            refine r_callV 57 rfl [.ref 231, .int (-5)] [] (Nat.le_of_ble_eq_true rfl) rfl (T_X11_tell_231 _ hI135 (-5) (by decide)) ?_
            rintro _ _ ⟨g256, rfl, hI257, hF258, v259, rfl, hr260⟩
            refine At.sti ?_
            have hF261 := Fr.tr hF136 hF258 rfl rfl
            have zv262 : ((-5) : Int32).toInt = (-5) := rfl
            refine At.enter rfl ?_
            refine r_ireti ?_
            have x263 := HI.eqA hI257 (p := 233) (j := 4) ((((eA_c (hF258.2.1 233 (by decide))).trans (eA_c gA_sI)).trans hv224))
            have x264 := HI.eqA hI257 (p := 233) (j := 0) ((((eA_c (hF258.2.1 233 (by decide))).trans (eA_c gA_sI)).trans hv181))
            obtain ⟨v265, hv265⟩ : ∃ v, eA g0 233 5 = v := ⟨_, rfl⟩
            have wv265 := HI.t5 hI0
            rw [hv265] at wv265
            have tv265 := congrArg Int32.toInt hv265
            have x266 := HI.eqA hI257 (p := 233) (j := 5) ((((eA_c (hF258.2.1 233 (by decide))).trans (eA_c gA_sI)).trans hv265))
            obtain ⟨v267, hv267⟩ : ∃ v, eA g0 233 6 = v := ⟨_, rfl⟩
            have wv267 := HI.t6 hI0
            rw [hv267] at wv267
            have tv267 := congrArg Int32.toInt hv267
            have x268 := HI.eqA hI257 (p := 233) (j := 6) ((((eA_c (hF258.2.1 233 (by decide))).trans (eA_c gA_sI)).trans hv267))
            have x269 := HI.eqA hI0 (p := 233) (j := 4) (hv224)
            have x270 := HI.eqA hI0 (p := 233) (j := 0) (hv181)
            have x271 := HI.eqA hI0 (p := 233) (j := 0) (hv181)
            have x272 := HI.eqA hI0 (p := 233) (j := 5) (hv265)
            have x273 := HI.eqA hI0 (p := 233) (j := 6) (hv267)
            exact ⟨_, rfl, hI257, hF261, _, rfl, by omega, ⟨by omega, by omega, by omega, by omega⟩⟩

def F_X11_clear_231 : List (Nat × Nat) := [(231, 0)]
def A_X11_clear_231 : List Nat := [233]
set_option maxRecDepth 100000 in
set_option maxHeartbeats 4000000 in
theorem T_X11_clear_231 (d : Nat) {N : Nat} {g0 : List en_E} (hI0 : HI g0) : Ev (d + 1) 255 [.ref 231] (g0, N) (fun w h' => ∃ g', h' = (g', N) ∧ HI g' ∧ Fr F_X11_clear_231 A_X11_clear_231 g0 g' ∧ ∃ r : Int32, w = some (.int r) ∧ (0 ≤ r.toInt ∧ r.toInt ≤ 8) ∧ ((r.toInt = (eA g0 233 4).toInt ∧ (eA g' 233 4).toInt = 0) ∧ (eA g' 233 0).toInt = (eA g0 233 0).toInt ∧ (eA g' 233 5).toInt = (eA g0 233 5).toInt ∧ (eA g' 233 6).toInt = (eA g0 233 6).toInt)) := by
  have hF0 : Fr F_X11_clear_231 A_X11_clear_231 g0 g0 := Fr.rf
  refine Ev.mk rfl rfl ⟨Nat.le_of_ble_eq_true rfl, Or.inr (q_rc hI0.1 kx_231 rfl)⟩ ?_
  show At _ none _ _ (0, [(0, .ref 231)], [], (_, _)) _
  refine At.enter rfl ?_
  refine r_aload_n rfl ?_
  refine r_iconst 0 rfl ?_
  refine q_putI (Sh.int hI0.1 kx_231 rfl) rfl ?_
  have hI13 := HI.wI0 hI0 kx_231 rfl (p := 231) (b := 0) (v := 0) rfl
  have hF14 := Fr.wI (p := 231) (b := 0) (v := 0) hF0 rfl
  refine r_aload_n rfl ?_
  refine q_getR (Sh.ref hI13.1 kx_231 rfl) ?_
  refine r_iconst 4 rfl ?_
  obtain ⟨v15, hv15⟩ : ∃ v, eA g0 233 4 = v := ⟨_, rfl⟩
  have wv15 := HI.t4 hI0
  rw [hv15] at wv15
  refine q_iald (Sh.arr hI13.1 ka_233) 4 rfl (by decide) v15 ((eA_c (gA_sI)).trans hv15) ?_
  refine r_istore_n ([(1, .int v15), (0, .ref 231)]) rfl ?_
  refine r_aload_n rfl ?_
  refine q_getR (Sh.ref hI13.1 kx_231 rfl) ?_
  refine r_iconst 4 rfl ?_
  refine r_iconst 0 rfl ?_
  refine q_iast (Sh.arr hI13.1 ka_233) (4) rfl (by decide) ?_
  have zv18 : (0 : Int32).toInt = 0 := rfl
  have hI16 := HI.wt hI13 (j := 4) (v := 0) (by omega) (by omega)
  have hF17 := Fr.wA (p := 233) (j := 4) (v := 0) hF14 rfl
  refine r_iload_n rfl ?_
  refine r_ireti ?_
  have x19 := HI.eqA hI16 (p := 233) (j := 4) ((eA_sA_eq hI13.1 ka_233 (by first | rfl | omega) (by first | decide | omega) (by first | decide | omega)))
  obtain ⟨v20, hv20⟩ : ∃ v, eA g0 233 0 = v := ⟨_, rfl⟩
  have tv20 := congrArg Int32.toInt hv20
  have wv20 := HI.t0 hI0
  rw [hv20] at wv20
  have tv20 := congrArg Int32.toInt hv20
  have x21 := HI.eqA hI16 (p := 233) (j := 0) ((((eA_sA_ne hI13.1 ka_233 (by first | decide | omega) (by first | decide | omega) (by first | decide | omega)).trans (eA_c gA_sI)).trans hv20))
  obtain ⟨v22, hv22⟩ : ∃ v, eA g0 233 5 = v := ⟨_, rfl⟩
  have wv22 := HI.t5 hI0
  rw [hv22] at wv22
  have tv22 := congrArg Int32.toInt hv22
  have x23 := HI.eqA hI16 (p := 233) (j := 5) ((((eA_sA_ne hI13.1 ka_233 (by first | decide | omega) (by first | decide | omega) (by first | decide | omega)).trans (eA_c gA_sI)).trans hv22))
  obtain ⟨v24, hv24⟩ : ∃ v, eA g0 233 6 = v := ⟨_, rfl⟩
  have wv24 := HI.t6 hI0
  rw [hv24] at wv24
  have tv24 := congrArg Int32.toInt hv24
  have x25 := HI.eqA hI16 (p := 233) (j := 6) ((((eA_sA_ne hI13.1 ka_233 (by first | decide | omega) (by first | decide | omega) (by first | decide | omega)).trans (eA_c gA_sI)).trans hv24))
  have x26 := HI.eqA hI0 (p := 233) (j := 4) (hv15)
  have x27 := HI.eqA hI0 (p := 233) (j := 0) (hv20)
  have x28 := HI.eqA hI0 (p := 233) (j := 5) (hv22)
  have x29 := HI.eqA hI0 (p := 233) (j := 6) (hv24)
  exact ⟨_, rfl, hI16, hF17, _, rfl, by omega, ⟨by omega, by omega, by omega, by omega⟩⟩

def F_X11_row_231 : List (Nat × Nat) := [(231, 0), (231, 1), (231, 6), (231, 8)]
def A_X11_row_231 : List Nat := [232, 233]
set_option maxRecDepth 100000 in
set_option maxHeartbeats 4000000 in
theorem T_X11_row_231 (d : Nat) {N : Nat} {g0 : List en_E} (hI0 : HI g0) : Ev (d + 3) 182 [.ref 231] (g0, N) (fun w h' => ∃ g', h' = (g', N) ∧ HI g' ∧ Fr F_X11_row_231 A_X11_row_231 g0 g' ∧ ∃ r : Int32, w = some (.int r) ∧ ((-6) ≤ r.toInt ∧ r.toInt ≤ 400) ∧ ((gI g' 231 8).toInt = 0 ∧ (eA g' 233 0).toInt = (eA g0 233 0).toInt ∧ (eA g' 233 4).toInt = (eA g0 233 4).toInt ∧ (eA g' 233 5).toInt = (eA g0 233 5).toInt ∧ (eA g' 233 6).toInt = (eA g0 233 6).toInt)) := by
  have hF0 : Fr F_X11_row_231 A_X11_row_231 g0 g0 := Fr.rf
  refine Ev.mk rfl rfl ⟨Nat.le_of_ble_eq_true rfl, Or.inr (q_rc hI0.1 kx_231 rfl)⟩ ?_
  show At _ none _ _ (0, [(0, .ref 231)], [], (_, _)) _
  refine At.enter rfl ?_
  refine r_aload_n rfl ?_
  refine r_iconst 0 rfl ?_
  refine q_putI (Sh.int hI0.1 kx_231 rfl) rfl ?_
  have hI7773 := HI.wI0 hI0 kx_231 rfl (p := 231) (b := 0) (v := 0) rfl
  have hF7774 := Fr.wI (p := 231) (b := 0) (v := 0) hF0 rfl
  refine r_aload_n rfl ?_
  obtain ⟨v7775, hv7775⟩ : ∃ v, gI g0 231 8 = v := ⟨_, rfl⟩
  have rv7775 := RgF.at hI0.2.1 (p := 231) (b := 8) rfl
  rw [hv7775] at rv7775
  dsimp only at rv7775
  refine q_getI (Sh.int hI7773.1 kx_231 rfl) v7775 ((gI_sI_ne (by decide)).trans hv7775) ?_
  refine r_istore_n ([(1, .int v7775), (0, .ref 231)]) rfl ?_
  refine r_aload_n rfl ?_
  refine r_iconst 0 rfl ?_
  refine q_putI (Sh.int hI7773.1 kx_231 rfl) rfl ?_
  have hI7776 := HI.wI1 hI7773 kx_231 rfl (p := 231) (b := 8) (v := 0) rfl (by decide)
  have hF7777 := Fr.wI (p := 231) (b := 8) (v := 0) hF7774 rfl
  refine r_iload_n rfl ?_
  refine r_ifs 19 rfl (fun c7778 => ?_) (fun c7778 => ?_)
  · have c7778_ : v7775.toInt ≠ 0 := en_k_ne_t c7778
    refine At.enter rfl ?_
    refine r_aload_n rfl ?_
    refine r_iconst 0 rfl ?_
    refine q_putI (Sh.int hI7776.1 kx_231 rfl) rfl ?_
    have hI7779 := HI.wI0 hI7776 kx_231 rfl (p := 231) (b := 6) (v := 0) rfl
    have hF7780 := Fr.wI (p := 231) (b := 6) (v := 0) hF7777 rfl
    refine r_iconst 0 rfl ?_
    refine r_istore_n ([(2, .int 0), (1, .int v7775), (0, .ref 231)]) rfl ?_
    refine r_iconst 0 rfl ?_
    refine r_istore_n ([(3, .int 0), (2, .int 0), (1, .int v7775), (0, .ref 231)]) rfl ?_
    refine Ar.fall 35 rfl ?_
    obtain ⟨v7781, hv7781⟩ : ∃ v, eA g0 233 0 = v := ⟨_, rfl⟩
    have tv7781 := congrArg Int32.toInt hv7781
    have wv7781 := HI.t0 hI0
    rw [hv7781] at wv7781
    have tv7781 := congrArg Int32.toInt hv7781
    obtain ⟨v7782, hv7782⟩ : ∃ v, eA g0 233 4 = v := ⟨_, rfl⟩
    have wv7782 := HI.t4 hI0
    rw [hv7782] at wv7782
    have tv7782 := congrArg Int32.toInt hv7782
    obtain ⟨v7783, hv7783⟩ : ∃ v, eA g0 233 5 = v := ⟨_, rfl⟩
    have wv7783 := HI.t5 hI0
    rw [hv7783] at wv7783
    have tv7783 := congrArg Int32.toInt hv7783
    obtain ⟨v7784, hv7784⟩ : ∃ v, eA g0 233 6 = v := ⟨_, rfl⟩
    have wv7784 := HI.t6 hI0
    rw [hv7784] at wv7784
    have tv7784 := congrArg Int32.toInt hv7784
    have z_11494 : (0 : Int32).toInt = 0 := rfl
    have z_11495 : (0 : Int32).toInt = 0 := rfl
    refine w_loopI (fun n_ l_ g_ => ∃ x11475 : Int32, ∃ x11476 : Int32, n_ = 405 - x11476.toInt ∧ HI g_ ∧ Fr F_X11_row_231 A_X11_row_231 g0 g_ ∧ eA g_ 233 0 = v7781 ∧ eA g_ 233 4 = v7782 ∧ eA g_ 233 5 = v7783 ∧ eA g_ 233 6 = v7784 ∧ en_get 0 l_ = some (.ref 231) ∧ en_get 1 l_ = some (.int v7775) ∧ en_get 2 l_ = some (.int x11475) ∧ en_get 3 l_ = some (.int x11476) ∧ (0 ≤ x11475.toInt ∧ x11475.toInt ≤ 400) ∧ (0 ≤ x11476.toInt ∧ x11476.toInt ≤ 405) ∧ (x11475.toInt ≤ x11476.toInt)) ?_ (405 - 0) ⟨0, 0, by first | rfl | omega, hI7779, hF7780, (((eA_c gA_sI).trans ((eA_c gA_sI).trans (eA_c gA_sI))).trans hv7781), (((eA_c gA_sI).trans ((eA_c gA_sI).trans (eA_c gA_sI))).trans hv7782), (((eA_c gA_sI).trans ((eA_c gA_sI).trans (eA_c gA_sI))).trans hv7783), (((eA_c gA_sI).trans ((eA_c gA_sI).trans (eA_c gA_sI))).trans hv7784), rfl, rfl, rfl, rfl, by decide, by decide, by omega⟩
    rintro n11481 l11480 g11477 ⟨x11475, x11476, hm11496, hI11478, hF11479, e11483, e11484, e11485, e11486, e11487, e11488, e11489, e11490, r11491, r11492, q11493⟩ ih11482
    have tv11497 := congrArg Int32.toInt e11483
    have tv11498 := congrArg Int32.toInt e11484
    have tv11499 := congrArg Int32.toInt e11485
    have tv11500 := congrArg Int32.toInt e11486
    refine At.enter rfl ?_
    refine r_iload_n e11490 ?_
    refine r_iload_n e11488 ?_
    have bv11502 := q_bnd x11476
    have bv11503 := q_bnd v7775
    refine r_ics 40 rfl (fun c11501 => ?_) (fun c11501 => ?_)
    · have c11501_ : x11476.toInt ≥ v7775.toInt := en_i_ge_t c11501
      refine At.enter rfl ?_
      refine r_aload_n e11487 ?_
      refine r_iload_n e11489 ?_
      refine r_callV 225 rfl [.ref 231, .int x11475] [] (Nat.le_of_ble_eq_true rfl) rfl (T_X11_tell_231 _ hI11478 x11475 (by omega)) ?_
      rintro _ _ ⟨g11504, rfl, hI11505, hF11506, v11507, rfl, hr11508⟩
      refine At.sti ?_
      have hF11509 := Fr.tr hF11479 hF11506 rfl rfl
      refine At.enter rfl ?_
      refine r_ireti ?_
      obtain ⟨v11510, hv11510⟩ : ∃ v, gI g11477 231 8 = v := ⟨_, rfl⟩
      have rv11510 := RgF.at hI11478.2.1 (p := 231) (b := 8) rfl
      rw [hv11510] at rv11510
      dsimp only at rv11510
      have tv11510 := congrArg Int32.toInt hv11510
      have x11511 := HI.eqI hI11505 (p := 231) (b := 8) (((hF11506.1 231 8 (by decide)).trans hv11510))
      have x11512 := HI.eqA hI11505 (p := 233) (j := 0) (((eA_c (hF11506.2.1 233 (by decide))).trans e11483))
      have x11513 := HI.eqA hI11505 (p := 233) (j := 4) (((eA_c (hF11506.2.1 233 (by decide))).trans e11484))
      have x11514 := HI.eqA hI11505 (p := 233) (j := 5) (((eA_c (hF11506.2.1 233 (by decide))).trans e11485))
      have x11515 := HI.eqA hI11505 (p := 233) (j := 6) (((eA_c (hF11506.2.1 233 (by decide))).trans e11486))
      have x11516 := HI.eqA hI0 (p := 233) (j := 0) (hv7781)
      have x11517 := HI.eqA hI0 (p := 233) (j := 4) (hv7782)
      have x11518 := HI.eqA hI0 (p := 233) (j := 5) (hv7783)
      have x11519 := HI.eqA hI0 (p := 233) (j := 6) (hv7784)
      exact ⟨_, rfl, hI11505, hF11509, _, rfl, by omega, ⟨by omega, by omega, by omega, by omega, by omega⟩⟩
    · have c11501_ : x11476.toInt < v7775.toInt := en_i_ge_f c11501
      refine At.enter rfl ?_
      refine r_iload_n e11490 ?_
      refine r_iconst 5 rfl ?_
      refine q_iadd (x11476.toInt + 5) rfl (by omega) (fun v11520 hv11520 => ?_)
      refine r_iload_n e11488 ?_
      have bv11522 := q_bnd v11520
      refine r_ics 47 rfl (fun c11521 => ?_) (fun c11521 => ?_)
      · have c11521_ : v11520.toInt ≥ v7775.toInt := en_i_ge_t c11521
        refine At.enter rfl ?_
        refine r_iconst 0 rfl ?_
        refine Ar.fall 63 rfl ?_
        refine At.enter rfl ?_
        refine r_istore _ rfl ?_
        refine r_iload (w_e1 _ _ _) ?_
        refine r_ift (by decide) ?_
        refine At.enter rfl ?_
        refine r_iconst 0 rfl ?_
        refine Ar.fall 141 rfl ?_
        refine At.enter rfl ?_
        refine r_istore _ rfl ?_
        refine r_iload (w_e1 _ _ _) ?_
        refine r_ift (by decide) ?_
        refine At.enter rfl ?_
        refine r_aload_n (w_p1 (by decide) (Or.inr rfl) (w_p1 (by decide) (Or.inr rfl) e11487)) ?_
        refine r_dup rfl ?_
        obtain ⟨v11523, hv11523⟩ : ∃ v, gI g11477 231 6 = v := ⟨_, rfl⟩
        refine q_getI (Sh.int hI11478.1 kx_231 rfl) v11523 hv11523 ?_
        refine r_iconst 1 rfl ?_
        refine q_iaddO (fun v11524 _ => ?_)
        refine q_putI (Sh.int hI11478.1 kx_231 rfl) rfl ?_
        have hI11525 := HI.wI0 hI11478 kx_231 rfl (p := 231) (b := 6) (v := v11524) rfl
        have hF11526 := Fr.wI (p := 231) (b := 6) (v := v11524) hF11479 rfl
        refine Ar.fall 214 rfl ?_
        refine At.enter rfl ?_
        refine q_iinc (w_p1 (by decide) (Or.inr rfl) (w_p1 (by decide) (Or.inr rfl) e11490)) (x11476.toInt + 6) rfl (by omega) (fun v11527 hv11527 => ?_)
        refine r_goto ?_
        exact ih11482 (405 - v11527.toInt) _ _ ⟨x11475, v11527, by first | rfl | omega, hI11525, hF11526, ((eA_c gA_sI).trans e11483), ((eA_c gA_sI).trans e11484), ((eA_c gA_sI).trans e11485), ((eA_c gA_sI).trans e11486), (w_p1 (by decide) (Or.inr rfl) (w_p1 (by decide) (Or.inr rfl) (w_p1 (by decide) (Or.inr rfl) e11487))), (w_p1 (by decide) (Or.inr rfl) (w_p1 (by decide) (Or.inr rfl) (w_p1 (by decide) (Or.inr rfl) e11488))), (w_p1 (by decide) (Or.inr rfl) (w_p1 (by decide) (Or.inr rfl) (w_p1 (by decide) (Or.inr rfl) e11489))), (w_e1 _ _ _), by omega, by omega, by omega⟩ ⟨by omega, by omega⟩
      · have c11521_ : v11520.toInt < v7775.toInt := en_i_ge_f c11521
        refine At.enter rfl ?_
        refine r_aload_n e11487 ?_
        refine q_getR (Sh.ref hI11478.1 kx_231 rfl) ?_
        refine r_iconst 1 rfl ?_
        obtain ⟨v11528, hv11528⟩ : ∃ v, eA g11477 233 1 = v := ⟨_, rfl⟩
        have tv11528 := congrArg Int32.toInt hv11528
        have wv11528 := HI.t1 hI11478
        rw [hv11528] at wv11528
        refine q_iald (Sh.arr hI11478.1 ka_233) 1 rfl (by decide) v11528 hv11528 ?_
        refine r_bipush 8 rfl ?_
        refine r_ics 58 rfl (fun c11529 => ?_) (fun c11529 => ?_)
        · have c11529_ : v11528.toInt ≥ 8 := en_i_ge_t c11529
          refine At.enter rfl ?_
          refine r_iconst 0 rfl ?_
          refine Ar.fall 63 rfl ?_
          refine At.enter rfl ?_
          refine r_istore _ rfl ?_
          refine r_iload (w_e1 _ _ _) ?_
          refine r_ift (by decide) ?_
          refine At.enter rfl ?_
          refine r_iconst 0 rfl ?_
          refine Ar.fall 141 rfl ?_
          refine At.enter rfl ?_
          refine r_istore _ rfl ?_
          refine r_iload (w_e1 _ _ _) ?_
          refine r_ift (by decide) ?_
          refine At.enter rfl ?_
          refine r_aload_n (w_p1 (by decide) (Or.inr rfl) (w_p1 (by decide) (Or.inr rfl) e11487)) ?_
          refine r_dup rfl ?_
          obtain ⟨v11530, hv11530⟩ : ∃ v, gI g11477 231 6 = v := ⟨_, rfl⟩
          refine q_getI (Sh.int hI11478.1 kx_231 rfl) v11530 hv11530 ?_
          refine r_iconst 1 rfl ?_
          refine q_iaddO (fun v11531 _ => ?_)
          refine q_putI (Sh.int hI11478.1 kx_231 rfl) rfl ?_
          have hI11532 := HI.wI0 hI11478 kx_231 rfl (p := 231) (b := 6) (v := v11531) rfl
          have hF11533 := Fr.wI (p := 231) (b := 6) (v := v11531) hF11479 rfl
          refine Ar.fall 214 rfl ?_
          refine At.enter rfl ?_
          refine q_iinc (w_p1 (by decide) (Or.inr rfl) (w_p1 (by decide) (Or.inr rfl) e11490)) (x11476.toInt + 6) rfl (by omega) (fun v11534 hv11534 => ?_)
          refine r_goto ?_
          exact ih11482 (405 - v11534.toInt) _ _ ⟨x11475, v11534, by first | rfl | omega, hI11532, hF11533, ((eA_c gA_sI).trans e11483), ((eA_c gA_sI).trans e11484), ((eA_c gA_sI).trans e11485), ((eA_c gA_sI).trans e11486), (w_p1 (by decide) (Or.inr rfl) (w_p1 (by decide) (Or.inr rfl) (w_p1 (by decide) (Or.inr rfl) e11487))), (w_p1 (by decide) (Or.inr rfl) (w_p1 (by decide) (Or.inr rfl) (w_p1 (by decide) (Or.inr rfl) e11488))), (w_p1 (by decide) (Or.inr rfl) (w_p1 (by decide) (Or.inr rfl) (w_p1 (by decide) (Or.inr rfl) e11489))), (w_e1 _ _ _), by omega, by omega, by omega⟩ ⟨by omega, by omega⟩
        · have c11529_ : v11528.toInt < 8 := en_i_ge_f c11529
          refine At.enter rfl ?_
          refine r_iconst 1 rfl ?_
          refine r_goto ?_
          refine At.enter rfl ?_
          refine r_istore _ rfl ?_
          refine r_iload (w_e1 _ _ _) ?_
          refine r_iff 70 rfl (by decide) ?_
          refine At.enter rfl ?_
          refine r_aload_n (w_p1 (by decide) (Or.inr rfl) e11487) ?_
          refine q_getR (Sh.ref hI11478.1 kx_231 rfl) ?_
          refine r_iload_n (w_p1 (by decide) (Or.inr rfl) e11490) ?_
          obtain ⟨v11535, hv11535⟩ : ∃ v, eA g0 236 x11476.toInt = v := ⟨_, rfl⟩
          refine q_iald (Sh.arr hI11478.1 ka_236) x11476.toInt rfl (by omega) v11535 ((eA_c (hF11479.2.1 236 (by decide))).trans hv11535) ?_
          refine r_aload_n (w_p1 (by decide) (Or.inr rfl) e11487) ?_
          refine q_getR (Sh.ref hI11478.1 kx_231 rfl) ?_
          refine r_iload_n (w_p1 (by decide) (Or.inr rfl) e11490) ?_
          refine r_iconst 3 rfl ?_
          refine q_iadd (x11476.toInt + 3) rfl (by omega) (fun v11536 hv11536 => ?_)
          obtain ⟨v11537, hv11537⟩ : ∃ v, eA g0 236 (x11476.toInt + 3) = v := ⟨_, rfl⟩
          refine q_iald (Sh.arr hI11478.1 ka_236) (x11476.toInt + 3) (by omega) (by omega) v11537 ((eA_c (hF11479.2.1 236 (by decide))).trans hv11537) ?_
          refine r_aload_n (w_p1 (by decide) (Or.inr rfl) e11487) ?_
          refine q_getR (Sh.ref hI11478.1 kx_231 rfl) ?_
          refine r_iload_n (w_p1 (by decide) (Or.inr rfl) e11490) ?_
          refine r_iconst 4 rfl ?_
          refine q_iadd (x11476.toInt + 4) rfl (by omega) (fun v11538 hv11538 => ?_)
          obtain ⟨v11539, hv11539⟩ : ∃ v, eA g0 236 (x11476.toInt + 4) = v := ⟨_, rfl⟩
          refine q_iald (Sh.arr hI11478.1 ka_236) (x11476.toInt + 4) (by omega) (by omega) v11539 ((eA_c (hF11479.2.1 236 (by decide))).trans hv11539) ?_
          refine r_aload_n (w_p1 (by decide) (Or.inr rfl) e11487) ?_
          refine q_getR (Sh.ref hI11478.1 kx_231 rfl) ?_
          refine r_iload_n (w_p1 (by decide) (Or.inr rfl) e11490) ?_
          refine r_iconst 5 rfl ?_
          refine q_iadd (x11476.toInt + 5) rfl (by omega) (fun v11540 hv11540 => ?_)
          obtain ⟨v11541, hv11541⟩ : ∃ v, eA g0 236 (x11476.toInt + 5) = v := ⟨_, rfl⟩
          refine q_iald (Sh.arr hI11478.1 ka_236) (x11476.toInt + 5) (by omega) (by omega) v11541 ((eA_c (hF11479.2.1 236 (by decide))).trans hv11541) ?_
          refine q_inlS 103 rfl [.int v11535, .int v11537, .int v11539, .int v11541] [] (Nat.le_of_ble_eq_true rfl) rfl ?_
          refine Ev.mk rfl rfl ⟨Nat.le_of_ble_eq_true rfl, Or.inl rfl⟩ ?_
          show At _ none _ _ (0, [(0, .int v11535), (1, .int v11537), (2, .int v11539), (3, .int v11541)], [], (_, _)) _
          refine At.enter rfl ?_
          refine r_iload_n rfl ?_
          refine q_i2l (fun v11542 hv11542 => ?_)
          refine r_lconst 1 rfl ?_
          refine r_ldc2 9 rfl ?_
          refine q_inlS 9 rfl [.long v11542, .long 1, .long 9] [] (Nat.le_of_ble_eq_true rfl) rfl ?_
          refine Ev.mk rfl rfl ⟨Nat.le_of_ble_eq_true rfl, Or.inl rfl⟩ ?_
          show At _ none _ _ (0, [(0, .long v11542), (2, .long 1), (4, .long 9)], [], (_, _)) _
          refine At.enter rfl ?_
          refine r_lload_n rfl ?_
          refine r_lload_n rfl ?_
          refine r_lcmp _ rfl ?_
          refine r_ifs 6 rfl (fun c11543 => ?_) (fun c11543 => ?_)
          · have c11543_ : v11542.toInt < 1 := en_j_lt_t c11543
            refine At.enter rfl ?_
            refine r_iconst 0 rfl ?_
            refine Ar.fall 18 rfl ?_
            refine At.enter rfl ?_
            refine q_iretz (by decide) ?_
            refine At.enter rfl ?_
            refine r_ift (by decide) ?_
            refine At.enter rfl ?_
            refine r_iconst 0 rfl ?_
            refine Ar.fall 53 rfl ?_
            refine At.enter rfl ?_
            refine q_iretz (by decide) ?_
            refine At.enter rfl ?_
            refine r_ift (by decide) ?_
            refine At.enter rfl ?_
            refine r_iconst 0 rfl ?_
            refine Ar.fall 141 rfl ?_
            refine At.enter rfl ?_
            refine r_istore _ rfl ?_
            refine r_iload (w_e1 _ _ _) ?_
            refine r_ift (by decide) ?_
            refine At.enter rfl ?_
            refine r_aload_n (w_p1 (by decide) (Or.inr rfl) (w_p1 (by decide) (Or.inr rfl) e11487)) ?_
            refine r_dup rfl ?_
            obtain ⟨v11544, hv11544⟩ : ∃ v, gI g11477 231 6 = v := ⟨_, rfl⟩
            refine q_getI (Sh.int hI11478.1 kx_231 rfl) v11544 hv11544 ?_
            refine r_iconst 1 rfl ?_
            refine q_iaddO (fun v11545 _ => ?_)
            refine q_putI (Sh.int hI11478.1 kx_231 rfl) rfl ?_
            have hI11546 := HI.wI0 hI11478 kx_231 rfl (p := 231) (b := 6) (v := v11545) rfl
            have hF11547 := Fr.wI (p := 231) (b := 6) (v := v11545) hF11479 rfl
            refine Ar.fall 214 rfl ?_
            refine At.enter rfl ?_
            refine q_iinc (w_p1 (by decide) (Or.inr rfl) (w_p1 (by decide) (Or.inr rfl) e11490)) (x11476.toInt + 6) rfl (by omega) (fun v11548 hv11548 => ?_)
            refine r_goto ?_
            exact ih11482 (405 - v11548.toInt) _ _ ⟨x11475, v11548, by first | rfl | omega, hI11546, hF11547, ((eA_c gA_sI).trans e11483), ((eA_c gA_sI).trans e11484), ((eA_c gA_sI).trans e11485), ((eA_c gA_sI).trans e11486), (w_p1 (by decide) (Or.inr rfl) (w_p1 (by decide) (Or.inr rfl) (w_p1 (by decide) (Or.inr rfl) e11487))), (w_p1 (by decide) (Or.inr rfl) (w_p1 (by decide) (Or.inr rfl) (w_p1 (by decide) (Or.inr rfl) e11488))), (w_p1 (by decide) (Or.inr rfl) (w_p1 (by decide) (Or.inr rfl) (w_p1 (by decide) (Or.inr rfl) e11489))), (w_e1 _ _ _), by omega, by omega, by omega⟩ ⟨by omega, by omega⟩
          · have c11543_ : v11542.toInt ≥ 1 := en_j_lt_f c11543
            refine At.enter rfl ?_
            refine r_lload_n rfl ?_
            refine r_lload rfl ?_
            refine r_lcmp _ rfl ?_
            refine r_ifs 13 rfl (fun c11549 => ?_) (fun c11549 => ?_)
            · have c11549_ : v11542.toInt > 9 := en_j_gt_t c11549
              refine At.enter rfl ?_
              refine r_iconst 0 rfl ?_
              refine Ar.fall 18 rfl ?_
              refine At.enter rfl ?_
              refine q_iretz (by decide) ?_
              refine At.enter rfl ?_
              refine r_ift (by decide) ?_
              refine At.enter rfl ?_
              refine r_iconst 0 rfl ?_
              refine Ar.fall 53 rfl ?_
              refine At.enter rfl ?_
              refine q_iretz (by decide) ?_
              refine At.enter rfl ?_
              refine r_ift (by decide) ?_
              refine At.enter rfl ?_
              refine r_iconst 0 rfl ?_
              refine Ar.fall 141 rfl ?_
              refine At.enter rfl ?_
              refine r_istore _ rfl ?_
              refine r_iload (w_e1 _ _ _) ?_
              refine r_ift (by decide) ?_
              refine At.enter rfl ?_
              refine r_aload_n (w_p1 (by decide) (Or.inr rfl) (w_p1 (by decide) (Or.inr rfl) e11487)) ?_
              refine r_dup rfl ?_
              obtain ⟨v11550, hv11550⟩ : ∃ v, gI g11477 231 6 = v := ⟨_, rfl⟩
              refine q_getI (Sh.int hI11478.1 kx_231 rfl) v11550 hv11550 ?_
              refine r_iconst 1 rfl ?_
              refine q_iaddO (fun v11551 _ => ?_)
              refine q_putI (Sh.int hI11478.1 kx_231 rfl) rfl ?_
              have hI11552 := HI.wI0 hI11478 kx_231 rfl (p := 231) (b := 6) (v := v11551) rfl
              have hF11553 := Fr.wI (p := 231) (b := 6) (v := v11551) hF11479 rfl
              refine Ar.fall 214 rfl ?_
              refine At.enter rfl ?_
              refine q_iinc (w_p1 (by decide) (Or.inr rfl) (w_p1 (by decide) (Or.inr rfl) e11490)) (x11476.toInt + 6) rfl (by omega) (fun v11554 hv11554 => ?_)
              refine r_goto ?_
              exact ih11482 (405 - v11554.toInt) _ _ ⟨x11475, v11554, by first | rfl | omega, hI11552, hF11553, ((eA_c gA_sI).trans e11483), ((eA_c gA_sI).trans e11484), ((eA_c gA_sI).trans e11485), ((eA_c gA_sI).trans e11486), (w_p1 (by decide) (Or.inr rfl) (w_p1 (by decide) (Or.inr rfl) (w_p1 (by decide) (Or.inr rfl) e11487))), (w_p1 (by decide) (Or.inr rfl) (w_p1 (by decide) (Or.inr rfl) (w_p1 (by decide) (Or.inr rfl) e11488))), (w_p1 (by decide) (Or.inr rfl) (w_p1 (by decide) (Or.inr rfl) (w_p1 (by decide) (Or.inr rfl) e11489))), (w_e1 _ _ _), by omega, by omega, by omega⟩ ⟨by omega, by omega⟩
            · have c11549_ : v11542.toInt ≤ 9 := en_j_gt_f c11549
              refine At.enter rfl ?_
              refine r_iconst 1 rfl ?_
              refine r_goto ?_
              refine At.enter rfl ?_
              refine q_iretz (by decide) ?_
              refine At.enter rfl ?_
              refine r_iff 12 rfl (by decide) ?_
              refine At.enter rfl ?_
              refine r_iload_n rfl ?_
              refine q_i2l (fun v11555 hv11555 => ?_)
              refine r_lconst 0 rfl ?_
              refine r_ldc2 99 rfl ?_
              refine q_inlS 21 rfl [.long v11555, .long 0, .long 99] [] (Nat.le_of_ble_eq_true rfl) rfl ?_
              refine Ev.mk rfl rfl ⟨Nat.le_of_ble_eq_true rfl, Or.inl rfl⟩ ?_
              show At _ none _ _ (0, [(0, .long v11555), (2, .long 0), (4, .long 99)], [], (_, _)) _
              refine At.enter rfl ?_
              refine r_lload_n rfl ?_
              refine r_lload_n rfl ?_
              refine r_lcmp _ rfl ?_
              refine r_ifs 6 rfl (fun c11556 => ?_) (fun c11556 => ?_)
              · have c11556_ : v11555.toInt < 0 := en_j_lt_t c11556
                refine At.enter rfl ?_
                refine r_iconst 0 rfl ?_
                refine Ar.fall 18 rfl ?_
                refine At.enter rfl ?_
                refine q_iretz (by decide) ?_
                refine At.enter rfl ?_
                refine r_ift (by decide) ?_
                refine At.enter rfl ?_
                refine r_iconst 0 rfl ?_
                refine Ar.fall 53 rfl ?_
                refine At.enter rfl ?_
                refine q_iretz (by decide) ?_
                refine At.enter rfl ?_
                refine r_ift (by decide) ?_
                refine At.enter rfl ?_
                refine r_iconst 0 rfl ?_
                refine Ar.fall 141 rfl ?_
                refine At.enter rfl ?_
                refine r_istore _ rfl ?_
                refine r_iload (w_e1 _ _ _) ?_
                refine r_ift (by decide) ?_
                refine At.enter rfl ?_
                refine r_aload_n (w_p1 (by decide) (Or.inr rfl) (w_p1 (by decide) (Or.inr rfl) e11487)) ?_
                refine r_dup rfl ?_
                obtain ⟨v11557, hv11557⟩ : ∃ v, gI g11477 231 6 = v := ⟨_, rfl⟩
                refine q_getI (Sh.int hI11478.1 kx_231 rfl) v11557 hv11557 ?_
                refine r_iconst 1 rfl ?_
                refine q_iaddO (fun v11558 _ => ?_)
                refine q_putI (Sh.int hI11478.1 kx_231 rfl) rfl ?_
                have hI11559 := HI.wI0 hI11478 kx_231 rfl (p := 231) (b := 6) (v := v11558) rfl
                have hF11560 := Fr.wI (p := 231) (b := 6) (v := v11558) hF11479 rfl
                refine Ar.fall 214 rfl ?_
                refine At.enter rfl ?_
                refine q_iinc (w_p1 (by decide) (Or.inr rfl) (w_p1 (by decide) (Or.inr rfl) e11490)) (x11476.toInt + 6) rfl (by omega) (fun v11561 hv11561 => ?_)
                refine r_goto ?_
                exact ih11482 (405 - v11561.toInt) _ _ ⟨x11475, v11561, by first | rfl | omega, hI11559, hF11560, ((eA_c gA_sI).trans e11483), ((eA_c gA_sI).trans e11484), ((eA_c gA_sI).trans e11485), ((eA_c gA_sI).trans e11486), (w_p1 (by decide) (Or.inr rfl) (w_p1 (by decide) (Or.inr rfl) (w_p1 (by decide) (Or.inr rfl) e11487))), (w_p1 (by decide) (Or.inr rfl) (w_p1 (by decide) (Or.inr rfl) (w_p1 (by decide) (Or.inr rfl) e11488))), (w_p1 (by decide) (Or.inr rfl) (w_p1 (by decide) (Or.inr rfl) (w_p1 (by decide) (Or.inr rfl) e11489))), (w_e1 _ _ _), by omega, by omega, by omega⟩ ⟨by omega, by omega⟩
              · have c11556_ : v11555.toInt ≥ 0 := en_j_lt_f c11556
                refine At.enter rfl ?_
                refine r_lload_n rfl ?_
                refine r_lload rfl ?_
                refine r_lcmp _ rfl ?_
                refine r_ifs 13 rfl (fun c11562 => ?_) (fun c11562 => ?_)
                · have c11562_ : v11555.toInt > 99 := en_j_gt_t c11562
                  refine At.enter rfl ?_
                  refine r_iconst 0 rfl ?_
                  refine Ar.fall 18 rfl ?_
                  refine At.enter rfl ?_
                  refine q_iretz (by decide) ?_
                  refine At.enter rfl ?_
                  refine r_ift (by decide) ?_
                  refine At.enter rfl ?_
                  refine r_iconst 0 rfl ?_
                  refine Ar.fall 53 rfl ?_
                  refine At.enter rfl ?_
                  refine q_iretz (by decide) ?_
                  refine At.enter rfl ?_
                  refine r_ift (by decide) ?_
                  refine At.enter rfl ?_
                  refine r_iconst 0 rfl ?_
                  refine Ar.fall 141 rfl ?_
                  refine At.enter rfl ?_
                  refine r_istore _ rfl ?_
                  refine r_iload (w_e1 _ _ _) ?_
                  refine r_ift (by decide) ?_
                  refine At.enter rfl ?_
                  refine r_aload_n (w_p1 (by decide) (Or.inr rfl) (w_p1 (by decide) (Or.inr rfl) e11487)) ?_
                  refine r_dup rfl ?_
                  obtain ⟨v11563, hv11563⟩ : ∃ v, gI g11477 231 6 = v := ⟨_, rfl⟩
                  refine q_getI (Sh.int hI11478.1 kx_231 rfl) v11563 hv11563 ?_
                  refine r_iconst 1 rfl ?_
                  refine q_iaddO (fun v11564 _ => ?_)
                  refine q_putI (Sh.int hI11478.1 kx_231 rfl) rfl ?_
                  have hI11565 := HI.wI0 hI11478 kx_231 rfl (p := 231) (b := 6) (v := v11564) rfl
                  have hF11566 := Fr.wI (p := 231) (b := 6) (v := v11564) hF11479 rfl
                  refine Ar.fall 214 rfl ?_
                  refine At.enter rfl ?_
                  refine q_iinc (w_p1 (by decide) (Or.inr rfl) (w_p1 (by decide) (Or.inr rfl) e11490)) (x11476.toInt + 6) rfl (by omega) (fun v11567 hv11567 => ?_)
                  refine r_goto ?_
                  exact ih11482 (405 - v11567.toInt) _ _ ⟨x11475, v11567, by first | rfl | omega, hI11565, hF11566, ((eA_c gA_sI).trans e11483), ((eA_c gA_sI).trans e11484), ((eA_c gA_sI).trans e11485), ((eA_c gA_sI).trans e11486), (w_p1 (by decide) (Or.inr rfl) (w_p1 (by decide) (Or.inr rfl) (w_p1 (by decide) (Or.inr rfl) e11487))), (w_p1 (by decide) (Or.inr rfl) (w_p1 (by decide) (Or.inr rfl) (w_p1 (by decide) (Or.inr rfl) e11488))), (w_p1 (by decide) (Or.inr rfl) (w_p1 (by decide) (Or.inr rfl) (w_p1 (by decide) (Or.inr rfl) e11489))), (w_e1 _ _ _), by omega, by omega, by omega⟩ ⟨by omega, by omega⟩
                · have c11562_ : v11555.toInt ≤ 99 := en_j_gt_f c11562
                  refine At.enter rfl ?_
                  refine r_iconst 1 rfl ?_
                  refine r_goto ?_
                  refine At.enter rfl ?_
                  refine q_iretz (by decide) ?_
                  refine At.enter rfl ?_
                  refine r_iff 24 rfl (by decide) ?_
                  refine At.enter rfl ?_
                  refine r_iload_n rfl ?_
                  refine q_i2l (fun v11568 hv11568 => ?_)
                  refine r_lconst 0 rfl ?_
                  refine r_ldc2 9 rfl ?_
                  refine q_inlS 33 rfl [.long v11568, .long 0, .long 9] [] (Nat.le_of_ble_eq_true rfl) rfl ?_
                  refine Ev.mk rfl rfl ⟨Nat.le_of_ble_eq_true rfl, Or.inl rfl⟩ ?_
                  show At _ none _ _ (0, [(0, .long v11568), (2, .long 0), (4, .long 9)], [], (_, _)) _
                  refine At.enter rfl ?_
                  refine r_lload_n rfl ?_
                  refine r_lload_n rfl ?_
                  refine r_lcmp _ rfl ?_
                  refine r_ifs 6 rfl (fun c11569 => ?_) (fun c11569 => ?_)
                  · have c11569_ : v11568.toInt < 0 := en_j_lt_t c11569
                    refine At.enter rfl ?_
                    refine r_iconst 0 rfl ?_
                    refine Ar.fall 18 rfl ?_
                    refine At.enter rfl ?_
                    refine q_iretz (by decide) ?_
                    refine At.enter rfl ?_
                    refine r_ift (by decide) ?_
                    refine At.enter rfl ?_
                    refine r_iconst 0 rfl ?_
                    refine Ar.fall 53 rfl ?_
                    refine At.enter rfl ?_
                    refine q_iretz (by decide) ?_
                    refine At.enter rfl ?_
                    refine r_ift (by decide) ?_
                    refine At.enter rfl ?_
                    refine r_iconst 0 rfl ?_
                    refine Ar.fall 141 rfl ?_
                    refine At.enter rfl ?_
                    refine r_istore _ rfl ?_
                    refine r_iload (w_e1 _ _ _) ?_
                    refine r_ift (by decide) ?_
                    refine At.enter rfl ?_
                    refine r_aload_n (w_p1 (by decide) (Or.inr rfl) (w_p1 (by decide) (Or.inr rfl) e11487)) ?_
                    refine r_dup rfl ?_
                    obtain ⟨v11570, hv11570⟩ : ∃ v, gI g11477 231 6 = v := ⟨_, rfl⟩
                    refine q_getI (Sh.int hI11478.1 kx_231 rfl) v11570 hv11570 ?_
                    refine r_iconst 1 rfl ?_
                    refine q_iaddO (fun v11571 _ => ?_)
                    refine q_putI (Sh.int hI11478.1 kx_231 rfl) rfl ?_
                    have hI11572 := HI.wI0 hI11478 kx_231 rfl (p := 231) (b := 6) (v := v11571) rfl
                    have hF11573 := Fr.wI (p := 231) (b := 6) (v := v11571) hF11479 rfl
                    refine Ar.fall 214 rfl ?_
                    refine At.enter rfl ?_
                    refine q_iinc (w_p1 (by decide) (Or.inr rfl) (w_p1 (by decide) (Or.inr rfl) e11490)) (x11476.toInt + 6) rfl (by omega) (fun v11574 hv11574 => ?_)
                    refine r_goto ?_
                    exact ih11482 (405 - v11574.toInt) _ _ ⟨x11475, v11574, by first | rfl | omega, hI11572, hF11573, ((eA_c gA_sI).trans e11483), ((eA_c gA_sI).trans e11484), ((eA_c gA_sI).trans e11485), ((eA_c gA_sI).trans e11486), (w_p1 (by decide) (Or.inr rfl) (w_p1 (by decide) (Or.inr rfl) (w_p1 (by decide) (Or.inr rfl) e11487))), (w_p1 (by decide) (Or.inr rfl) (w_p1 (by decide) (Or.inr rfl) (w_p1 (by decide) (Or.inr rfl) e11488))), (w_p1 (by decide) (Or.inr rfl) (w_p1 (by decide) (Or.inr rfl) (w_p1 (by decide) (Or.inr rfl) e11489))), (w_e1 _ _ _), by omega, by omega, by omega⟩ ⟨by omega, by omega⟩
                  · have c11569_ : v11568.toInt ≥ 0 := en_j_lt_f c11569
                    refine At.enter rfl ?_
                    refine r_lload_n rfl ?_
                    refine r_lload rfl ?_
                    refine r_lcmp _ rfl ?_
                    refine r_ifs 13 rfl (fun c11575 => ?_) (fun c11575 => ?_)
                    · have c11575_ : v11568.toInt > 9 := en_j_gt_t c11575
                      refine At.enter rfl ?_
                      refine r_iconst 0 rfl ?_
                      refine Ar.fall 18 rfl ?_
                      refine At.enter rfl ?_
                      refine q_iretz (by decide) ?_
                      refine At.enter rfl ?_
                      refine r_ift (by decide) ?_
                      refine At.enter rfl ?_
                      refine r_iconst 0 rfl ?_
                      refine Ar.fall 53 rfl ?_
                      refine At.enter rfl ?_
                      refine q_iretz (by decide) ?_
                      refine At.enter rfl ?_
                      refine r_ift (by decide) ?_
                      refine At.enter rfl ?_
                      refine r_iconst 0 rfl ?_
                      refine Ar.fall 141 rfl ?_
                      refine At.enter rfl ?_
                      refine r_istore _ rfl ?_
                      refine r_iload (w_e1 _ _ _) ?_
                      refine r_ift (by decide) ?_
                      refine At.enter rfl ?_
                      refine r_aload_n (w_p1 (by decide) (Or.inr rfl) (w_p1 (by decide) (Or.inr rfl) e11487)) ?_
                      refine r_dup rfl ?_
                      obtain ⟨v11576, hv11576⟩ : ∃ v, gI g11477 231 6 = v := ⟨_, rfl⟩
                      refine q_getI (Sh.int hI11478.1 kx_231 rfl) v11576 hv11576 ?_
                      refine r_iconst 1 rfl ?_
                      refine q_iaddO (fun v11577 _ => ?_)
                      refine q_putI (Sh.int hI11478.1 kx_231 rfl) rfl ?_
                      have hI11578 := HI.wI0 hI11478 kx_231 rfl (p := 231) (b := 6) (v := v11577) rfl
                      have hF11579 := Fr.wI (p := 231) (b := 6) (v := v11577) hF11479 rfl
                      refine Ar.fall 214 rfl ?_
                      refine At.enter rfl ?_
                      refine q_iinc (w_p1 (by decide) (Or.inr rfl) (w_p1 (by decide) (Or.inr rfl) e11490)) (x11476.toInt + 6) rfl (by omega) (fun v11580 hv11580 => ?_)
                      refine r_goto ?_
                      exact ih11482 (405 - v11580.toInt) _ _ ⟨x11475, v11580, by first | rfl | omega, hI11578, hF11579, ((eA_c gA_sI).trans e11483), ((eA_c gA_sI).trans e11484), ((eA_c gA_sI).trans e11485), ((eA_c gA_sI).trans e11486), (w_p1 (by decide) (Or.inr rfl) (w_p1 (by decide) (Or.inr rfl) (w_p1 (by decide) (Or.inr rfl) e11487))), (w_p1 (by decide) (Or.inr rfl) (w_p1 (by decide) (Or.inr rfl) (w_p1 (by decide) (Or.inr rfl) e11488))), (w_p1 (by decide) (Or.inr rfl) (w_p1 (by decide) (Or.inr rfl) (w_p1 (by decide) (Or.inr rfl) e11489))), (w_e1 _ _ _), by omega, by omega, by omega⟩ ⟨by omega, by omega⟩
                    · have c11575_ : v11568.toInt ≤ 9 := en_j_gt_f c11575
                      refine At.enter rfl ?_
                      refine r_iconst 1 rfl ?_
                      refine r_goto ?_
                      refine At.enter rfl ?_
                      refine q_iretz (by decide) ?_
                      refine At.enter rfl ?_
                      refine r_iff 36 rfl (by decide) ?_
                      refine At.enter rfl ?_
                      refine r_iload_n rfl ?_
                      refine q_i2l (fun v11581 hv11581 => ?_)
                      refine r_lconst 0 rfl ?_
                      refine r_ldc2 9999 rfl ?_
                      refine q_inlS 45 rfl [.long v11581, .long 0, .long 9999] [] (Nat.le_of_ble_eq_true rfl) rfl ?_
                      refine Ev.mk rfl rfl ⟨Nat.le_of_ble_eq_true rfl, Or.inl rfl⟩ ?_
                      show At _ none _ _ (0, [(0, .long v11581), (2, .long 0), (4, .long 9999)], [], (_, _)) _
                      refine At.enter rfl ?_
                      refine r_lload_n rfl ?_
                      refine r_lload_n rfl ?_
                      refine r_lcmp _ rfl ?_
                      refine r_ifs 6 rfl (fun c11582 => ?_) (fun c11582 => ?_)
                      · have c11582_ : v11581.toInt < 0 := en_j_lt_t c11582
                        refine At.enter rfl ?_
                        refine r_iconst 0 rfl ?_
                        refine Ar.fall 18 rfl ?_
                        refine At.enter rfl ?_
                        refine q_iretz (by decide) ?_
                        refine At.enter rfl ?_
                        refine r_ift (by decide) ?_
                        refine At.enter rfl ?_
                        refine r_iconst 0 rfl ?_
                        refine Ar.fall 53 rfl ?_
                        refine At.enter rfl ?_
                        refine q_iretz (by decide) ?_
                        refine At.enter rfl ?_
                        refine r_ift (by decide) ?_
                        refine At.enter rfl ?_
                        refine r_iconst 0 rfl ?_
                        refine Ar.fall 141 rfl ?_
                        refine At.enter rfl ?_
                        refine r_istore _ rfl ?_
                        refine r_iload (w_e1 _ _ _) ?_
                        refine r_ift (by decide) ?_
                        refine At.enter rfl ?_
                        refine r_aload_n (w_p1 (by decide) (Or.inr rfl) (w_p1 (by decide) (Or.inr rfl) e11487)) ?_
                        refine r_dup rfl ?_
                        obtain ⟨v11583, hv11583⟩ : ∃ v, gI g11477 231 6 = v := ⟨_, rfl⟩
                        refine q_getI (Sh.int hI11478.1 kx_231 rfl) v11583 hv11583 ?_
                        refine r_iconst 1 rfl ?_
                        refine q_iaddO (fun v11584 _ => ?_)
                        refine q_putI (Sh.int hI11478.1 kx_231 rfl) rfl ?_
                        have hI11585 := HI.wI0 hI11478 kx_231 rfl (p := 231) (b := 6) (v := v11584) rfl
                        have hF11586 := Fr.wI (p := 231) (b := 6) (v := v11584) hF11479 rfl
                        refine Ar.fall 214 rfl ?_
                        refine At.enter rfl ?_
                        refine q_iinc (w_p1 (by decide) (Or.inr rfl) (w_p1 (by decide) (Or.inr rfl) e11490)) (x11476.toInt + 6) rfl (by omega) (fun v11587 hv11587 => ?_)
                        refine r_goto ?_
                        exact ih11482 (405 - v11587.toInt) _ _ ⟨x11475, v11587, by first | rfl | omega, hI11585, hF11586, ((eA_c gA_sI).trans e11483), ((eA_c gA_sI).trans e11484), ((eA_c gA_sI).trans e11485), ((eA_c gA_sI).trans e11486), (w_p1 (by decide) (Or.inr rfl) (w_p1 (by decide) (Or.inr rfl) (w_p1 (by decide) (Or.inr rfl) e11487))), (w_p1 (by decide) (Or.inr rfl) (w_p1 (by decide) (Or.inr rfl) (w_p1 (by decide) (Or.inr rfl) e11488))), (w_p1 (by decide) (Or.inr rfl) (w_p1 (by decide) (Or.inr rfl) (w_p1 (by decide) (Or.inr rfl) e11489))), (w_e1 _ _ _), by omega, by omega, by omega⟩ ⟨by omega, by omega⟩
                      · have c11582_ : v11581.toInt ≥ 0 := en_j_lt_f c11582
                        refine At.enter rfl ?_
                        refine r_lload_n rfl ?_
                        refine r_lload rfl ?_
                        refine r_lcmp _ rfl ?_
                        refine r_ifs 13 rfl (fun c11588 => ?_) (fun c11588 => ?_)
                        · have c11588_ : v11581.toInt > 9999 := en_j_gt_t c11588
                          refine At.enter rfl ?_
                          refine r_iconst 0 rfl ?_
                          refine Ar.fall 18 rfl ?_
                          refine At.enter rfl ?_
                          refine q_iretz (by decide) ?_
                          refine At.enter rfl ?_
                          refine r_ift (by decide) ?_
                          refine At.enter rfl ?_
                          refine r_iconst 0 rfl ?_
                          refine Ar.fall 53 rfl ?_
                          refine At.enter rfl ?_
                          refine q_iretz (by decide) ?_
                          refine At.enter rfl ?_
                          refine r_ift (by decide) ?_
                          refine At.enter rfl ?_
                          refine r_iconst 0 rfl ?_
                          refine Ar.fall 141 rfl ?_
                          refine At.enter rfl ?_
                          refine r_istore _ rfl ?_
                          refine r_iload (w_e1 _ _ _) ?_
                          refine r_ift (by decide) ?_
                          refine At.enter rfl ?_
                          refine r_aload_n (w_p1 (by decide) (Or.inr rfl) (w_p1 (by decide) (Or.inr rfl) e11487)) ?_
                          refine r_dup rfl ?_
                          obtain ⟨v11589, hv11589⟩ : ∃ v, gI g11477 231 6 = v := ⟨_, rfl⟩
                          refine q_getI (Sh.int hI11478.1 kx_231 rfl) v11589 hv11589 ?_
                          refine r_iconst 1 rfl ?_
                          refine q_iaddO (fun v11590 _ => ?_)
                          refine q_putI (Sh.int hI11478.1 kx_231 rfl) rfl ?_
                          have hI11591 := HI.wI0 hI11478 kx_231 rfl (p := 231) (b := 6) (v := v11590) rfl
                          have hF11592 := Fr.wI (p := 231) (b := 6) (v := v11590) hF11479 rfl
                          refine Ar.fall 214 rfl ?_
                          refine At.enter rfl ?_
                          refine q_iinc (w_p1 (by decide) (Or.inr rfl) (w_p1 (by decide) (Or.inr rfl) e11490)) (x11476.toInt + 6) rfl (by omega) (fun v11593 hv11593 => ?_)
                          refine r_goto ?_
                          exact ih11482 (405 - v11593.toInt) _ _ ⟨x11475, v11593, by first | rfl | omega, hI11591, hF11592, ((eA_c gA_sI).trans e11483), ((eA_c gA_sI).trans e11484), ((eA_c gA_sI).trans e11485), ((eA_c gA_sI).trans e11486), (w_p1 (by decide) (Or.inr rfl) (w_p1 (by decide) (Or.inr rfl) (w_p1 (by decide) (Or.inr rfl) e11487))), (w_p1 (by decide) (Or.inr rfl) (w_p1 (by decide) (Or.inr rfl) (w_p1 (by decide) (Or.inr rfl) e11488))), (w_p1 (by decide) (Or.inr rfl) (w_p1 (by decide) (Or.inr rfl) (w_p1 (by decide) (Or.inr rfl) e11489))), (w_e1 _ _ _), by omega, by omega, by omega⟩ ⟨by omega, by omega⟩
                        · have c11588_ : v11581.toInt ≤ 9999 := en_j_gt_f c11588
                          refine At.enter rfl ?_
                          refine r_iconst 1 rfl ?_
                          refine r_goto ?_
                          refine At.enter rfl ?_
                          refine q_iretz (by decide) ?_
                          refine At.enter rfl ?_
                          refine r_iff 48 rfl (by decide) ?_
                          refine At.enter rfl ?_
                          refine r_iconst 1 rfl ?_
                          refine r_goto ?_
                          refine At.enter rfl ?_
                          refine q_iretz (by decide) ?_
                          refine At.enter rfl ?_
                          refine r_iff 106 rfl (by decide) ?_
                          refine At.enter rfl ?_
                          refine r_aload_n (w_p1 (by decide) (Or.inr rfl) e11487) ?_
                          refine r_aload_n (w_p1 (by decide) (Or.inr rfl) e11487) ?_
                          refine q_getR (Sh.ref hI11478.1 kx_231 rfl) ?_
                          refine r_iload_n (w_p1 (by decide) (Or.inr rfl) e11490) ?_
                          refine r_iconst 1 rfl ?_
                          refine q_iadd (x11476.toInt + 1) rfl (by omega) (fun v11594 hv11594 => ?_)
                          obtain ⟨v11595, hv11595⟩ : ∃ v, eA g0 236 (x11476.toInt + 1) = v := ⟨_, rfl⟩
                          refine q_iald (Sh.arr hI11478.1 ka_236) (x11476.toInt + 1) (by omega) (by omega) v11595 ((eA_c (hF11479.2.1 236 (by decide))).trans hv11595) ?_
                          refine q_inlV 118 rfl [.ref 231, .int v11595] [] (Nat.le_of_ble_eq_true rfl) rfl ?_
                          refine Ev.mk rfl rfl ⟨Nat.le_of_ble_eq_true rfl, Or.inr (q_rc hI11478.1 kx_231 rfl)⟩ ?_
                          show At _ none _ _ (0, [(0, .ref 231), (1, .int v11595)], [], (_, _)) _
                          refine At.enter rfl ?_
                          refine r_iload_n rfl ?_
                          refine q_i2l (fun v11596 hv11596 => ?_)
                          refine r_lconst 0 rfl ?_
                          refine r_aload_n rfl ?_
                          refine q_getR (Sh.ref hI11478.1 kx_231 rfl) ?_
                          refine r_iconst 0 rfl ?_
                          refine q_iald (Sh.arr hI11478.1 ka_233) 0 rfl (by decide) v7781 e11483 ?_
                          refine q_i2l (fun v11597 hv11597 => ?_)
                          refine r_lconst 1 rfl ?_
                          refine q_lsub (v11597.toInt - 1) rfl (by omega) (fun v11598 hv11598 => ?_)
                          refine q_inlS 15 rfl [.long v11596, .long 0, .long v11598] [] (Nat.le_of_ble_eq_true rfl) rfl ?_
                          refine Ev.mk rfl rfl ⟨Nat.le_of_ble_eq_true rfl, Or.inl rfl⟩ ?_
                          show At _ none _ _ (0, [(0, .long v11596), (2, .long 0), (4, .long v11598)], [], (_, _)) _
                          refine At.enter rfl ?_
                          refine r_lload_n rfl ?_
                          refine r_lload_n rfl ?_
                          refine r_lcmp _ rfl ?_
                          refine r_ifs 6 rfl (fun c11599 => ?_) (fun c11599 => ?_)
                          · have c11599_ : v11596.toInt < 0 := en_j_lt_t c11599
                            refine At.enter rfl ?_
                            refine r_iconst 0 rfl ?_
                            refine Ar.fall 18 rfl ?_
                            refine At.enter rfl ?_
                            refine q_iretz (by decide) ?_
                            refine At.enter rfl ?_
                            refine q_iretz (by decide) ?_
                            refine At.enter rfl ?_
                            refine r_ift (by decide) ?_
                            refine At.enter rfl ?_
                            refine r_iconst 0 rfl ?_
                            refine Ar.fall 141 rfl ?_
                            refine At.enter rfl ?_
                            refine r_istore _ rfl ?_
                            refine r_iload (w_e1 _ _ _) ?_
                            refine r_ift (by decide) ?_
                            refine At.enter rfl ?_
                            refine r_aload_n (w_p1 (by decide) (Or.inr rfl) (w_p1 (by decide) (Or.inr rfl) e11487)) ?_
                            refine r_dup rfl ?_
                            obtain ⟨v11600, hv11600⟩ : ∃ v, gI g11477 231 6 = v := ⟨_, rfl⟩
                            refine q_getI (Sh.int hI11478.1 kx_231 rfl) v11600 hv11600 ?_
                            refine r_iconst 1 rfl ?_
                            refine q_iaddO (fun v11601 _ => ?_)
                            refine q_putI (Sh.int hI11478.1 kx_231 rfl) rfl ?_
                            have hI11602 := HI.wI0 hI11478 kx_231 rfl (p := 231) (b := 6) (v := v11601) rfl
                            have hF11603 := Fr.wI (p := 231) (b := 6) (v := v11601) hF11479 rfl
                            refine Ar.fall 214 rfl ?_
                            refine At.enter rfl ?_
                            refine q_iinc (w_p1 (by decide) (Or.inr rfl) (w_p1 (by decide) (Or.inr rfl) e11490)) (x11476.toInt + 6) rfl (by omega) (fun v11604 hv11604 => ?_)
                            refine r_goto ?_
                            exact ih11482 (405 - v11604.toInt) _ _ ⟨x11475, v11604, by first | rfl | omega, hI11602, hF11603, ((eA_c gA_sI).trans e11483), ((eA_c gA_sI).trans e11484), ((eA_c gA_sI).trans e11485), ((eA_c gA_sI).trans e11486), (w_p1 (by decide) (Or.inr rfl) (w_p1 (by decide) (Or.inr rfl) (w_p1 (by decide) (Or.inr rfl) e11487))), (w_p1 (by decide) (Or.inr rfl) (w_p1 (by decide) (Or.inr rfl) (w_p1 (by decide) (Or.inr rfl) e11488))), (w_p1 (by decide) (Or.inr rfl) (w_p1 (by decide) (Or.inr rfl) (w_p1 (by decide) (Or.inr rfl) e11489))), (w_e1 _ _ _), by omega, by omega, by omega⟩ ⟨by omega, by omega⟩
                          · have c11599_ : v11596.toInt ≥ 0 := en_j_lt_f c11599
                            refine At.enter rfl ?_
                            refine r_lload_n rfl ?_
                            refine r_lload rfl ?_
                            refine r_lcmp _ rfl ?_
                            refine r_ifs 13 rfl (fun c11605 => ?_) (fun c11605 => ?_)
                            · have c11605_ : v11596.toInt > v11598.toInt := en_j_gt_t c11605
                              refine At.enter rfl ?_
                              refine r_iconst 0 rfl ?_
                              refine Ar.fall 18 rfl ?_
                              refine At.enter rfl ?_
                              refine q_iretz (by decide) ?_
                              refine At.enter rfl ?_
                              refine q_iretz (by decide) ?_
                              refine At.enter rfl ?_
                              refine r_ift (by decide) ?_
                              refine At.enter rfl ?_
                              refine r_iconst 0 rfl ?_
                              refine Ar.fall 141 rfl ?_
                              refine At.enter rfl ?_
                              refine r_istore _ rfl ?_
                              refine r_iload (w_e1 _ _ _) ?_
                              refine r_ift (by decide) ?_
                              refine At.enter rfl ?_
                              refine r_aload_n (w_p1 (by decide) (Or.inr rfl) (w_p1 (by decide) (Or.inr rfl) e11487)) ?_
                              refine r_dup rfl ?_
                              obtain ⟨v11606, hv11606⟩ : ∃ v, gI g11477 231 6 = v := ⟨_, rfl⟩
                              refine q_getI (Sh.int hI11478.1 kx_231 rfl) v11606 hv11606 ?_
                              refine r_iconst 1 rfl ?_
                              refine q_iaddO (fun v11607 _ => ?_)
                              refine q_putI (Sh.int hI11478.1 kx_231 rfl) rfl ?_
                              have hI11608 := HI.wI0 hI11478 kx_231 rfl (p := 231) (b := 6) (v := v11607) rfl
                              have hF11609 := Fr.wI (p := 231) (b := 6) (v := v11607) hF11479 rfl
                              refine Ar.fall 214 rfl ?_
                              refine At.enter rfl ?_
                              refine q_iinc (w_p1 (by decide) (Or.inr rfl) (w_p1 (by decide) (Or.inr rfl) e11490)) (x11476.toInt + 6) rfl (by omega) (fun v11610 hv11610 => ?_)
                              refine r_goto ?_
                              exact ih11482 (405 - v11610.toInt) _ _ ⟨x11475, v11610, by first | rfl | omega, hI11608, hF11609, ((eA_c gA_sI).trans e11483), ((eA_c gA_sI).trans e11484), ((eA_c gA_sI).trans e11485), ((eA_c gA_sI).trans e11486), (w_p1 (by decide) (Or.inr rfl) (w_p1 (by decide) (Or.inr rfl) (w_p1 (by decide) (Or.inr rfl) e11487))), (w_p1 (by decide) (Or.inr rfl) (w_p1 (by decide) (Or.inr rfl) (w_p1 (by decide) (Or.inr rfl) e11488))), (w_p1 (by decide) (Or.inr rfl) (w_p1 (by decide) (Or.inr rfl) (w_p1 (by decide) (Or.inr rfl) e11489))), (w_e1 _ _ _), by omega, by omega, by omega⟩ ⟨by omega, by omega⟩
                            · have c11605_ : v11596.toInt ≤ v11598.toInt := en_j_gt_f c11605
                              refine At.enter rfl ?_
                              refine r_iconst 1 rfl ?_
                              refine r_goto ?_
                              refine At.enter rfl ?_
                              refine q_iretz (by decide) ?_
                              refine At.enter rfl ?_
                              refine q_iretz (by decide) ?_
                              refine At.enter rfl ?_
                              refine r_iff 121 rfl (by decide) ?_
                              refine At.enter rfl ?_
                              refine r_aload_n (w_p1 (by decide) (Or.inr rfl) e11487) ?_
                              refine r_aload_n (w_p1 (by decide) (Or.inr rfl) e11487) ?_
                              refine q_getR (Sh.ref hI11478.1 kx_231 rfl) ?_
                              refine r_iload_n (w_p1 (by decide) (Or.inr rfl) e11490) ?_
                              refine r_iconst 2 rfl ?_
                              refine q_iadd (x11476.toInt + 2) rfl (by omega) (fun v11611 hv11611 => ?_)
                              obtain ⟨v11612, hv11612⟩ : ∃ v, eA g0 236 (x11476.toInt + 2) = v := ⟨_, rfl⟩
                              refine q_iald (Sh.arr hI11478.1 ka_236) (x11476.toInt + 2) (by omega) (by omega) v11612 ((eA_c (hF11479.2.1 236 (by decide))).trans hv11612) ?_
                              refine q_inlV 133 rfl [.ref 231, .int v11612] [] (Nat.le_of_ble_eq_true rfl) rfl ?_
                              refine Ev.mk rfl rfl ⟨Nat.le_of_ble_eq_true rfl, Or.inr (q_rc hI11478.1 kx_231 rfl)⟩ ?_
                              show At _ none _ _ (0, [(0, .ref 231), (1, .int v11612)], [], (_, _)) _
                              refine At.enter rfl ?_
                              refine r_iload_n rfl ?_
                              refine q_i2l (fun v11613 hv11613 => ?_)
                              refine r_lconst 0 rfl ?_
                              refine r_aload_n rfl ?_
                              refine q_getR (Sh.ref hI11478.1 kx_231 rfl) ?_
                              refine r_iconst 0 rfl ?_
                              refine q_iald (Sh.arr hI11478.1 ka_233) 0 rfl (by decide) v7781 e11483 ?_
                              refine q_i2l (fun v11614 hv11614 => ?_)
                              refine r_lconst 1 rfl ?_
                              refine q_lsub (v11614.toInt - 1) rfl (by omega) (fun v11615 hv11615 => ?_)
                              refine q_inlS 15 rfl [.long v11613, .long 0, .long v11615] [] (Nat.le_of_ble_eq_true rfl) rfl ?_
                              refine Ev.mk rfl rfl ⟨Nat.le_of_ble_eq_true rfl, Or.inl rfl⟩ ?_
                              show At _ none _ _ (0, [(0, .long v11613), (2, .long 0), (4, .long v11615)], [], (_, _)) _
                              refine At.enter rfl ?_
                              refine r_lload_n rfl ?_
                              refine r_lload_n rfl ?_
                              refine r_lcmp _ rfl ?_
                              refine r_ifs 6 rfl (fun c11616 => ?_) (fun c11616 => ?_)
                              · have c11616_ : v11613.toInt < 0 := en_j_lt_t c11616
                                refine At.enter rfl ?_
                                refine r_iconst 0 rfl ?_
                                refine Ar.fall 18 rfl ?_
                                refine At.enter rfl ?_
                                refine q_iretz (by decide) ?_
                                refine At.enter rfl ?_
                                refine q_iretz (by decide) ?_
                                refine At.enter rfl ?_
                                refine r_ift (by decide) ?_
                                refine At.enter rfl ?_
                                refine r_iconst 0 rfl ?_
                                refine Ar.fall 141 rfl ?_
                                refine At.enter rfl ?_
                                refine r_istore _ rfl ?_
                                refine r_iload (w_e1 _ _ _) ?_
                                refine r_ift (by decide) ?_
                                refine At.enter rfl ?_
                                refine r_aload_n (w_p1 (by decide) (Or.inr rfl) (w_p1 (by decide) (Or.inr rfl) e11487)) ?_
                                refine r_dup rfl ?_
                                obtain ⟨v11617, hv11617⟩ : ∃ v, gI g11477 231 6 = v := ⟨_, rfl⟩
                                refine q_getI (Sh.int hI11478.1 kx_231 rfl) v11617 hv11617 ?_
                                refine r_iconst 1 rfl ?_
                                refine q_iaddO (fun v11618 _ => ?_)
                                refine q_putI (Sh.int hI11478.1 kx_231 rfl) rfl ?_
                                have hI11619 := HI.wI0 hI11478 kx_231 rfl (p := 231) (b := 6) (v := v11618) rfl
                                have hF11620 := Fr.wI (p := 231) (b := 6) (v := v11618) hF11479 rfl
                                refine Ar.fall 214 rfl ?_
                                refine At.enter rfl ?_
                                refine q_iinc (w_p1 (by decide) (Or.inr rfl) (w_p1 (by decide) (Or.inr rfl) e11490)) (x11476.toInt + 6) rfl (by omega) (fun v11621 hv11621 => ?_)
                                refine r_goto ?_
                                exact ih11482 (405 - v11621.toInt) _ _ ⟨x11475, v11621, by first | rfl | omega, hI11619, hF11620, ((eA_c gA_sI).trans e11483), ((eA_c gA_sI).trans e11484), ((eA_c gA_sI).trans e11485), ((eA_c gA_sI).trans e11486), (w_p1 (by decide) (Or.inr rfl) (w_p1 (by decide) (Or.inr rfl) (w_p1 (by decide) (Or.inr rfl) e11487))), (w_p1 (by decide) (Or.inr rfl) (w_p1 (by decide) (Or.inr rfl) (w_p1 (by decide) (Or.inr rfl) e11488))), (w_p1 (by decide) (Or.inr rfl) (w_p1 (by decide) (Or.inr rfl) (w_p1 (by decide) (Or.inr rfl) e11489))), (w_e1 _ _ _), by omega, by omega, by omega⟩ ⟨by omega, by omega⟩
                              · have c11616_ : v11613.toInt ≥ 0 := en_j_lt_f c11616
                                refine At.enter rfl ?_
                                refine r_lload_n rfl ?_
                                refine r_lload rfl ?_
                                refine r_lcmp _ rfl ?_
                                refine r_ifs 13 rfl (fun c11622 => ?_) (fun c11622 => ?_)
                                · have c11622_ : v11613.toInt > v11615.toInt := en_j_gt_t c11622
                                  refine At.enter rfl ?_
                                  refine r_iconst 0 rfl ?_
                                  refine Ar.fall 18 rfl ?_
                                  refine At.enter rfl ?_
                                  refine q_iretz (by decide) ?_
                                  refine At.enter rfl ?_
                                  refine q_iretz (by decide) ?_
                                  refine At.enter rfl ?_
                                  refine r_ift (by decide) ?_
                                  refine At.enter rfl ?_
                                  refine r_iconst 0 rfl ?_
                                  refine Ar.fall 141 rfl ?_
                                  refine At.enter rfl ?_
                                  refine r_istore _ rfl ?_
                                  refine r_iload (w_e1 _ _ _) ?_
                                  refine r_ift (by decide) ?_
                                  refine At.enter rfl ?_
                                  refine r_aload_n (w_p1 (by decide) (Or.inr rfl) (w_p1 (by decide) (Or.inr rfl) e11487)) ?_
                                  refine r_dup rfl ?_
                                  obtain ⟨v11623, hv11623⟩ : ∃ v, gI g11477 231 6 = v := ⟨_, rfl⟩
                                  refine q_getI (Sh.int hI11478.1 kx_231 rfl) v11623 hv11623 ?_
                                  refine r_iconst 1 rfl ?_
                                  refine q_iaddO (fun v11624 _ => ?_)
                                  refine q_putI (Sh.int hI11478.1 kx_231 rfl) rfl ?_
                                  have hI11625 := HI.wI0 hI11478 kx_231 rfl (p := 231) (b := 6) (v := v11624) rfl
                                  have hF11626 := Fr.wI (p := 231) (b := 6) (v := v11624) hF11479 rfl
                                  refine Ar.fall 214 rfl ?_
                                  refine At.enter rfl ?_
                                  refine q_iinc (w_p1 (by decide) (Or.inr rfl) (w_p1 (by decide) (Or.inr rfl) e11490)) (x11476.toInt + 6) rfl (by omega) (fun v11627 hv11627 => ?_)
                                  refine r_goto ?_
                                  exact ih11482 (405 - v11627.toInt) _ _ ⟨x11475, v11627, by first | rfl | omega, hI11625, hF11626, ((eA_c gA_sI).trans e11483), ((eA_c gA_sI).trans e11484), ((eA_c gA_sI).trans e11485), ((eA_c gA_sI).trans e11486), (w_p1 (by decide) (Or.inr rfl) (w_p1 (by decide) (Or.inr rfl) (w_p1 (by decide) (Or.inr rfl) e11487))), (w_p1 (by decide) (Or.inr rfl) (w_p1 (by decide) (Or.inr rfl) (w_p1 (by decide) (Or.inr rfl) e11488))), (w_p1 (by decide) (Or.inr rfl) (w_p1 (by decide) (Or.inr rfl) (w_p1 (by decide) (Or.inr rfl) e11489))), (w_e1 _ _ _), by omega, by omega, by omega⟩ ⟨by omega, by omega⟩
                                · have c11622_ : v11613.toInt ≤ v11615.toInt := en_j_gt_f c11622
                                  refine At.enter rfl ?_
                                  refine r_iconst 1 rfl ?_
                                  refine r_goto ?_
                                  refine At.enter rfl ?_
                                  refine q_iretz (by decide) ?_
                                  refine At.enter rfl ?_
                                  refine q_iretz (by decide) ?_
                                  refine At.enter rfl ?_
                                  refine r_iff 136 rfl (by decide) ?_
                                  refine At.enter rfl ?_
                                  refine r_iconst 1 rfl ?_
                                  refine r_goto ?_
                                  refine At.enter rfl ?_
                                  refine r_istore _ rfl ?_
                                  refine r_iload (w_e1 _ _ _) ?_
                                  refine r_iff 148 rfl (by decide) ?_
                                  refine At.enter rfl ?_
                                  refine r_aload_n (w_p1 (by decide) (Or.inr rfl) (w_p1 (by decide) (Or.inr rfl) e11487)) ?_
                                  refine r_aload_n (w_p1 (by decide) (Or.inr rfl) (w_p1 (by decide) (Or.inr rfl) e11487)) ?_
                                  refine q_getR (Sh.ref hI11478.1 kx_231 rfl) ?_
                                  refine r_iload_n (w_p1 (by decide) (Or.inr rfl) (w_p1 (by decide) (Or.inr rfl) e11490)) ?_
                                  refine q_iald (Sh.arr hI11478.1 ka_236) x11476.toInt rfl (by omega) v11535 ((eA_c (hF11479.2.1 236 (by decide))).trans hv11535) ?_
                                  refine r_aload_n (w_p1 (by decide) (Or.inr rfl) (w_p1 (by decide) (Or.inr rfl) e11487)) ?_
                                  refine q_getR (Sh.ref hI11478.1 kx_231 rfl) ?_
                                  refine r_iload_n (w_p1 (by decide) (Or.inr rfl) (w_p1 (by decide) (Or.inr rfl) e11490)) ?_
                                  refine r_iconst 1 rfl ?_
                                  refine q_iadd (x11476.toInt + 1) rfl (by omega) (fun v11628 hv11628 => ?_)
                                  refine q_iald (Sh.arr hI11478.1 ka_236) (x11476.toInt + 1) (by omega) (by omega) v11595 ((eA_c (hF11479.2.1 236 (by decide))).trans hv11595) ?_
                                  refine r_aload_n (w_p1 (by decide) (Or.inr rfl) (w_p1 (by decide) (Or.inr rfl) e11487)) ?_
                                  refine q_getR (Sh.ref hI11478.1 kx_231 rfl) ?_
                                  refine r_iload_n (w_p1 (by decide) (Or.inr rfl) (w_p1 (by decide) (Or.inr rfl) e11490)) ?_
                                  refine r_iconst 2 rfl ?_
                                  refine q_iadd (x11476.toInt + 2) rfl (by omega) (fun v11629 hv11629 => ?_)
                                  refine q_iald (Sh.arr hI11478.1 ka_236) (x11476.toInt + 2) (by omega) (by omega) v11612 ((eA_c (hF11479.2.1 236 (by decide))).trans hv11612) ?_
                                  refine r_aload_n (w_p1 (by decide) (Or.inr rfl) (w_p1 (by decide) (Or.inr rfl) e11487)) ?_
                                  refine q_getR (Sh.ref hI11478.1 kx_231 rfl) ?_
                                  refine r_iload_n (w_p1 (by decide) (Or.inr rfl) (w_p1 (by decide) (Or.inr rfl) e11490)) ?_
                                  refine r_iconst 3 rfl ?_
                                  refine q_iadd (x11476.toInt + 3) rfl (by omega) (fun v11630 hv11630 => ?_)
                                  refine q_iald (Sh.arr hI11478.1 ka_236) (x11476.toInt + 3) (by omega) (by omega) v11537 ((eA_c (hF11479.2.1 236 (by decide))).trans hv11537) ?_
                                  refine r_aload_n (w_p1 (by decide) (Or.inr rfl) (w_p1 (by decide) (Or.inr rfl) e11487)) ?_
                                  refine q_getR (Sh.ref hI11478.1 kx_231 rfl) ?_
                                  refine r_iload_n (w_p1 (by decide) (Or.inr rfl) (w_p1 (by decide) (Or.inr rfl) e11490)) ?_
                                  refine r_iconst 4 rfl ?_
                                  refine q_iadd (x11476.toInt + 4) rfl (by omega) (fun v11631 hv11631 => ?_)
                                  refine q_iald (Sh.arr hI11478.1 ka_236) (x11476.toInt + 4) (by omega) (by omega) v11539 ((eA_c (hF11479.2.1 236 (by decide))).trans hv11539) ?_
                                  refine r_aload_n (w_p1 (by decide) (Or.inr rfl) (w_p1 (by decide) (Or.inr rfl) e11487)) ?_
                                  refine q_getR (Sh.ref hI11478.1 kx_231 rfl) ?_
                                  refine r_iload_n (w_p1 (by decide) (Or.inr rfl) (w_p1 (by decide) (Or.inr rfl) e11490)) ?_
                                  refine r_iconst 5 rfl ?_
                                  refine q_iadd (x11476.toInt + 5) rfl (by omega) (fun v11632 hv11632 => ?_)
                                  refine q_iald (Sh.arr hI11478.1 ka_236) (x11476.toInt + 5) (by omega) (by omega) v11541 ((eA_c (hF11479.2.1 236 (by decide))).trans hv11541) ?_
                                  refine q_inlV 198 rfl [.ref 231, .int v11535, .int v11595, .int v11612, .int v11537, .int v11539, .int v11541] [] (Nat.le_of_ble_eq_true rfl) rfl ?_
                                  refine Ev.mk rfl rfl ⟨Nat.le_of_ble_eq_true rfl, Or.inr (q_rc hI11478.1 kx_231 rfl)⟩ ?_
                                  show At _ none _ _ (0, [(0, .ref 231), (1, .int v11535), (2, .int v11595), (3, .int v11612), (4, .int v11537), (5, .int v11539), (6, .int v11541)], [], (_, _)) _
                                  refine At.enter rfl ?_
                                  refine r_bipush 46 rfl ?_
                                  refine r_bipush 6 rfl ?_
                                  refine r_aload_n rfl ?_
                                  refine q_getR (Sh.ref hI11478.1 kx_231 rfl) ?_
                                  refine r_iconst 1 rfl ?_
                                  refine q_iald (Sh.arr hI11478.1 ka_233) 1 rfl (by decide) v11528 hv11528 ?_
                                  refine q_imul (6 * v11528.toInt) rfl (by omega) (fun v11633 hv11633 => ?_)
                                  refine q_iadd (46 + v11633.toInt) rfl (by omega) (fun v11634 hv11634 => ?_)
                                  refine r_istore ([(7, .int v11634), (0, .ref 231), (1, .int v11535), (2, .int v11595), (3, .int v11612), (4, .int v11537), (5, .int v11539), (6, .int v11541)]) rfl ?_
                                  refine r_aload_n rfl ?_
                                  refine q_getR (Sh.ref hI11478.1 kx_231 rfl) ?_
                                  refine r_iload rfl ?_
                                  refine r_iload_n rfl ?_
                                  refine q_iast (Sh.arr hI11478.1 ka_233) ((6 * v11528.toInt + 46)) (by omega) (by omega) ?_
                                  have hI11635 := HI.wl hI11478 (j := (6 * v11528.toInt + 46)) (v := v11535) (v11528.toInt) 0 (by omega) (by decide) (by omega) (by omega)
                                  have hF11636 := Fr.wA (p := 233) (j := (6 * v11528.toInt + 46)) (v := v11535) hF11479 rfl
                                  refine r_aload_n rfl ?_
                                  refine q_getR (Sh.ref hI11635.1 kx_231 rfl) ?_
                                  refine r_iload rfl ?_
                                  refine r_iconst 1 rfl ?_
                                  refine q_iadd (v11634.toInt + 1) rfl (by omega) (fun v11637 hv11637 => ?_)
                                  refine r_iload_n rfl ?_
                                  refine q_iast (Sh.arr hI11635.1 ka_233) ((6 * v11528.toInt + 47)) (by omega) (by omega) ?_
                                  have x11640 := HI.eqA hI11635 (p := 233) (j := 0) (((eA_sA_ne hI11478.1 ka_233 (by first | decide | omega) (by first | decide | omega) (by first | decide | omega)).trans e11483))
                                  have hI11638 := HI.wl hI11635 (j := (6 * v11528.toInt + 47)) (v := v11595) (v11528.toInt) 1 (by omega) (by decide) (by omega) (by omega)
                                  have hF11639 := Fr.wA (p := 233) (j := (6 * v11528.toInt + 47)) (v := v11595) hF11636 rfl
                                  refine r_aload_n rfl ?_
                                  refine q_getR (Sh.ref hI11638.1 kx_231 rfl) ?_
                                  refine r_iload rfl ?_
                                  refine r_iconst 2 rfl ?_
                                  refine q_iadd (v11634.toInt + 2) rfl (by omega) (fun v11641 hv11641 => ?_)
                                  refine r_iload_n rfl ?_
                                  refine q_iast (Sh.arr hI11638.1 ka_233) ((6 * v11528.toInt + 48)) (by omega) (by omega) ?_
                                  have x11644 := HI.eqA hI11638 (p := 233) (j := 0) ((((eA_sA_ne hI11635.1 ka_233 (by first | decide | omega) (by first | decide | omega) (by first | decide | omega)).trans (eA_sA_ne hI11478.1 ka_233 (by first | decide | omega) (by first | decide | omega) (by first | decide | omega))).trans e11483))
                                  have hI11642 := HI.wl hI11638 (j := (6 * v11528.toInt + 48)) (v := v11612) (v11528.toInt) 2 (by omega) (by decide) (by omega) (by omega)
                                  have hF11643 := Fr.wA (p := 233) (j := (6 * v11528.toInt + 48)) (v := v11612) hF11639 rfl
                                  refine r_aload_n rfl ?_
                                  refine q_getR (Sh.ref hI11642.1 kx_231 rfl) ?_
                                  refine r_iload rfl ?_
                                  refine r_iconst 3 rfl ?_
                                  refine q_iadd (v11634.toInt + 3) rfl (by omega) (fun v11645 hv11645 => ?_)
                                  refine r_iload rfl ?_
                                  refine q_iast (Sh.arr hI11642.1 ka_233) ((6 * v11528.toInt + 49)) (by omega) (by omega) ?_
                                  have hI11646 := HI.wl hI11642 (j := (6 * v11528.toInt + 49)) (v := v11537) (v11528.toInt) 3 (by omega) (by decide) (by omega) (by omega)
                                  have hF11647 := Fr.wA (p := 233) (j := (6 * v11528.toInt + 49)) (v := v11537) hF11643 rfl
                                  refine r_aload_n rfl ?_
                                  refine q_getR (Sh.ref hI11646.1 kx_231 rfl) ?_
                                  refine r_iload rfl ?_
                                  refine r_iconst 4 rfl ?_
                                  refine q_iadd (v11634.toInt + 4) rfl (by omega) (fun v11648 hv11648 => ?_)
                                  refine r_iload rfl ?_
                                  refine q_iast (Sh.arr hI11646.1 ka_233) ((6 * v11528.toInt + 50)) (by omega) (by omega) ?_
                                  have hI11649 := HI.wl hI11646 (j := (6 * v11528.toInt + 50)) (v := v11539) (v11528.toInt) 4 (by omega) (by decide) (by omega) (by omega)
                                  have hF11650 := Fr.wA (p := 233) (j := (6 * v11528.toInt + 50)) (v := v11539) hF11647 rfl
                                  refine r_aload_n rfl ?_
                                  refine q_getR (Sh.ref hI11649.1 kx_231 rfl) ?_
                                  refine r_iload rfl ?_
                                  refine r_iconst 5 rfl ?_
                                  refine q_iadd (v11634.toInt + 5) rfl (by omega) (fun v11651 hv11651 => ?_)
                                  refine r_iload rfl ?_
                                  refine q_iast (Sh.arr hI11649.1 ka_233) ((6 * v11528.toInt + 51)) (by omega) (by omega) ?_
                                  have hI11652 := HI.wl hI11649 (j := (6 * v11528.toInt + 51)) (v := v11541) (v11528.toInt) 5 (by omega) (by decide) (by omega) (by omega)
                                  have hF11653 := Fr.wA (p := 233) (j := (6 * v11528.toInt + 51)) (v := v11541) hF11650 rfl
                                  refine r_aload_n rfl ?_
                                  refine q_getR (Sh.ref hI11652.1 kx_231 rfl) ?_
                                  refine r_iconst 1 rfl ?_
                                  refine r_dup2 ⟨rfl, rfl⟩ ?_
                                  refine q_iald (Sh.arr hI11652.1 ka_233) 1 rfl (by decide) v11528 (((eA_sA_ne hI11649.1 ka_233 (by first | decide | omega) (by first | decide | omega) (by first | decide | omega)).trans ((eA_sA_ne hI11646.1 ka_233 (by first | decide | omega) (by first | decide | omega) (by first | decide | omega)).trans ((eA_sA_ne hI11642.1 ka_233 (by first | decide | omega) (by first | decide | omega) (by first | decide | omega)).trans ((eA_sA_ne hI11638.1 ka_233 (by first | decide | omega) (by first | decide | omega) (by first | decide | omega)).trans ((eA_sA_ne hI11635.1 ka_233 (by first | decide | omega) (by first | decide | omega) (by first | decide | omega)).trans (eA_sA_ne hI11478.1 ka_233 (by first | decide | omega) (by first | decide | omega) (by first | decide | omega))))))).trans hv11528) ?_
                                  refine r_iconst 1 rfl ?_
                                  refine q_iadd (v11528.toInt + 1) rfl (by omega) (fun v11654 hv11654 => ?_)
                                  refine q_iast (Sh.arr hI11652.1 ka_233) (1) rfl (by decide) ?_
                                  have x11657 := HI.eqA hI11652 (p := 233) (j := 0) ((((eA_sA_ne hI11649.1 ka_233 (by first | decide | omega) (by first | decide | omega) (by first | decide | omega)).trans ((eA_sA_ne hI11646.1 ka_233 (by first | decide | omega) (by first | decide | omega) (by first | decide | omega)).trans ((eA_sA_ne hI11642.1 ka_233 (by first | decide | omega) (by first | decide | omega) (by first | decide | omega)).trans ((eA_sA_ne hI11638.1 ka_233 (by first | decide | omega) (by first | decide | omega) (by first | decide | omega)).trans ((eA_sA_ne hI11635.1 ka_233 (by first | decide | omega) (by first | decide | omega) (by first | decide | omega)).trans (eA_sA_ne hI11478.1 ka_233 (by first | decide | omega) (by first | decide | omega) (by first | decide | omega))))))).trans e11483))
                                  have x11658 := HI.eqA hI11652 (p := 233) (j := 1) ((((eA_sA_ne hI11649.1 ka_233 (by first | decide | omega) (by first | decide | omega) (by first | decide | omega)).trans ((eA_sA_ne hI11646.1 ka_233 (by first | decide | omega) (by first | decide | omega) (by first | decide | omega)).trans ((eA_sA_ne hI11642.1 ka_233 (by first | decide | omega) (by first | decide | omega) (by first | decide | omega)).trans ((eA_sA_ne hI11638.1 ka_233 (by first | decide | omega) (by first | decide | omega) (by first | decide | omega)).trans ((eA_sA_ne hI11635.1 ka_233 (by first | decide | omega) (by first | decide | omega) (by first | decide | omega)).trans (eA_sA_ne hI11478.1 ka_233 (by first | decide | omega) (by first | decide | omega) (by first | decide | omega))))))).trans hv11528))
                                  have yv11659 := HI.lt hI11652
                                  have hI11655 := HI.wt hI11652 (j := 1) (v := v11654) (by omega) (by omega)
                                  have hF11656 := Fr.wA (p := 233) (j := 1) (v := v11654) hF11653 rfl
                                  refine q_vret ?_
                                  refine At.enter rfl ?_
                                  refine q_iinc (w_p1 (by decide) (Or.inr rfl) (w_p1 (by decide) (Or.inr rfl) e11489)) (x11475.toInt + 1) rfl (by omega) (fun v11660 hv11660 => ?_)
                                  refine r_goto ?_
                                  refine At.enter rfl ?_
                                  refine q_iinc (w_p1 (by decide) (Or.inr rfl) (w_p1 (by decide) (Or.inr rfl) (w_p1 (by decide) (Or.inr rfl) e11490))) (x11476.toInt + 6) rfl (by omega) (fun v11661 hv11661 => ?_)
                                  refine r_goto ?_
                                  exact ih11482 (405 - v11661.toInt) _ _ ⟨v11660, v11661, by first | rfl | omega, hI11655, hF11656, (((eA_sA_ne hI11652.1 ka_233 (by first | decide | omega) (by first | decide | omega) (by first | decide | omega)).trans ((eA_sA_ne hI11649.1 ka_233 (by first | decide | omega) (by first | decide | omega) (by first | decide | omega)).trans ((eA_sA_ne hI11646.1 ka_233 (by first | decide | omega) (by first | decide | omega) (by first | decide | omega)).trans ((eA_sA_ne hI11642.1 ka_233 (by first | decide | omega) (by first | decide | omega) (by first | decide | omega)).trans ((eA_sA_ne hI11638.1 ka_233 (by first | decide | omega) (by first | decide | omega) (by first | decide | omega)).trans ((eA_sA_ne hI11635.1 ka_233 (by first | decide | omega) (by first | decide | omega) (by first | decide | omega)).trans (eA_sA_ne hI11478.1 ka_233 (by first | decide | omega) (by first | decide | omega) (by first | decide | omega)))))))).trans e11483), (((eA_sA_ne hI11652.1 ka_233 (by first | decide | omega) (by first | decide | omega) (by first | decide | omega)).trans ((eA_sA_ne hI11649.1 ka_233 (by first | decide | omega) (by first | decide | omega) (by first | decide | omega)).trans ((eA_sA_ne hI11646.1 ka_233 (by first | decide | omega) (by first | decide | omega) (by first | decide | omega)).trans ((eA_sA_ne hI11642.1 ka_233 (by first | decide | omega) (by first | decide | omega) (by first | decide | omega)).trans ((eA_sA_ne hI11638.1 ka_233 (by first | decide | omega) (by first | decide | omega) (by first | decide | omega)).trans ((eA_sA_ne hI11635.1 ka_233 (by first | decide | omega) (by first | decide | omega) (by first | decide | omega)).trans (eA_sA_ne hI11478.1 ka_233 (by first | decide | omega) (by first | decide | omega) (by first | decide | omega)))))))).trans e11484), (((eA_sA_ne hI11652.1 ka_233 (by first | decide | omega) (by first | decide | omega) (by first | decide | omega)).trans ((eA_sA_ne hI11649.1 ka_233 (by first | decide | omega) (by first | decide | omega) (by first | decide | omega)).trans ((eA_sA_ne hI11646.1 ka_233 (by first | decide | omega) (by first | decide | omega) (by first | decide | omega)).trans ((eA_sA_ne hI11642.1 ka_233 (by first | decide | omega) (by first | decide | omega) (by first | decide | omega)).trans ((eA_sA_ne hI11638.1 ka_233 (by first | decide | omega) (by first | decide | omega) (by first | decide | omega)).trans ((eA_sA_ne hI11635.1 ka_233 (by first | decide | omega) (by first | decide | omega) (by first | decide | omega)).trans (eA_sA_ne hI11478.1 ka_233 (by first | decide | omega) (by first | decide | omega) (by first | decide | omega)))))))).trans e11485), (((eA_sA_ne hI11652.1 ka_233 (by first | decide | omega) (by first | decide | omega) (by first | decide | omega)).trans ((eA_sA_ne hI11649.1 ka_233 (by first | decide | omega) (by first | decide | omega) (by first | decide | omega)).trans ((eA_sA_ne hI11646.1 ka_233 (by first | decide | omega) (by first | decide | omega) (by first | decide | omega)).trans ((eA_sA_ne hI11642.1 ka_233 (by first | decide | omega) (by first | decide | omega) (by first | decide | omega)).trans ((eA_sA_ne hI11638.1 ka_233 (by first | decide | omega) (by first | decide | omega) (by first | decide | omega)).trans ((eA_sA_ne hI11635.1 ka_233 (by first | decide | omega) (by first | decide | omega) (by first | decide | omega)).trans (eA_sA_ne hI11478.1 ka_233 (by first | decide | omega) (by first | decide | omega) (by first | decide | omega)))))))).trans e11486), (w_p1 (by decide) (Or.inr rfl) (w_p1 (by decide) (Or.inr rfl) (w_p1 (by decide) (Or.inr rfl) (w_p1 (by decide) (Or.inr rfl) e11487)))), (w_p1 (by decide) (Or.inr rfl) (w_p1 (by decide) (Or.inr rfl) (w_p1 (by decide) (Or.inr rfl) (w_p1 (by decide) (Or.inr rfl) e11488)))), (w_p1 (by decide) (Or.inr rfl) (w_e1 _ _ _)), (w_e1 _ _ _), by omega, by omega, by omega⟩ ⟨by omega, by omega⟩
  · have c7778_ : v7775.toInt = 0 := en_k_ne_f c7778
    refine At.enter rfl ?_
    refine r_aload_n rfl ?_
    refine r_bipush (-6) rfl ?_
    refine r_callV 25 rfl [.ref 231, .int (-6)] [] (Nat.le_of_ble_eq_true rfl) rfl (T_X11_tell_231 _ hI7776 (-6) (by decide)) ?_
    rintro _ _ ⟨g11662, rfl, hI11663, hF11664, v11665, rfl, hr11666⟩
    refine At.sti ?_
    have hF11667 := Fr.tr hF7777 hF11664 rfl rfl
    have zv11668 : ((-6) : Int32).toInt = (-6) := rfl
    refine At.enter rfl ?_
    refine r_ireti ?_
    have x11669 := HI.eqI hI11663 (p := 231) (b := 8) (((hF11664.1 231 8 (by decide)).trans (gI_sI_eq hI7773.1 kx_231 rfl _)))
    obtain ⟨v11670, hv11670⟩ : ∃ v, eA g0 233 0 = v := ⟨_, rfl⟩
    have tv11670 := congrArg Int32.toInt hv11670
    have wv11670 := HI.t0 hI0
    rw [hv11670] at wv11670
    have tv11670 := congrArg Int32.toInt hv11670
    have x11671 := HI.eqA hI11663 (p := 233) (j := 0) ((((eA_c (hF11664.2.1 233 (by decide))).trans ((eA_c gA_sI).trans (eA_c gA_sI))).trans hv11670))
    obtain ⟨v11672, hv11672⟩ : ∃ v, eA g0 233 4 = v := ⟨_, rfl⟩
    have wv11672 := HI.t4 hI0
    rw [hv11672] at wv11672
    have tv11672 := congrArg Int32.toInt hv11672
    have x11673 := HI.eqA hI11663 (p := 233) (j := 4) ((((eA_c (hF11664.2.1 233 (by decide))).trans ((eA_c gA_sI).trans (eA_c gA_sI))).trans hv11672))
    obtain ⟨v11674, hv11674⟩ : ∃ v, eA g0 233 5 = v := ⟨_, rfl⟩
    have wv11674 := HI.t5 hI0
    rw [hv11674] at wv11674
    have tv11674 := congrArg Int32.toInt hv11674
    have x11675 := HI.eqA hI11663 (p := 233) (j := 5) ((((eA_c (hF11664.2.1 233 (by decide))).trans ((eA_c gA_sI).trans (eA_c gA_sI))).trans hv11674))
    obtain ⟨v11676, hv11676⟩ : ∃ v, eA g0 233 6 = v := ⟨_, rfl⟩
    have wv11676 := HI.t6 hI0
    rw [hv11676] at wv11676
    have tv11676 := congrArg Int32.toInt hv11676
    have x11677 := HI.eqA hI11663 (p := 233) (j := 6) ((((eA_c (hF11664.2.1 233 (by decide))).trans ((eA_c gA_sI).trans (eA_c gA_sI))).trans hv11676))
    have x11678 := HI.eqA hI0 (p := 233) (j := 0) (hv11670)
    have x11679 := HI.eqA hI0 (p := 233) (j := 4) (hv11672)
    have x11680 := HI.eqA hI0 (p := 233) (j := 5) (hv11674)
    have x11681 := HI.eqA hI0 (p := 233) (j := 6) (hv11676)
    exact ⟨_, rfl, hI11663, hF11667, _, rfl, by omega, ⟨by omega, by omega, by omega, by omega, by omega⟩⟩
