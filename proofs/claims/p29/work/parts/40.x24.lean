def F_X7_told_220 : List (Nat × Nat) := [(185, 3), (204, 16), (204, 18), (220, 2), (220, 3), (220, 4)]
def A_X7_told_220 : List Nat := [205, 206, 207, 208, 209, 210, 211, 212, 213, 214, 215, 216, 218, 221]
theorem mf_X7_tryNone_220_220_3 : memF F_X7_tryNone_220 220 3 = false := by decide
theorem mf_X7_tryTwo_220_220_3 : memF F_X7_tryTwo_220 220 3 = false := by decide
theorem mf_X7_tryOne_220_220_3 : memF F_X7_tryOne_220 220 3 = false := by decide
set_option maxRecDepth 100000 in
set_option maxHeartbeats 4000000 in
theorem T_X7_told_220 (d : Nat) {N : Nat} {g0 : List en_E} (hI0 : HI g0) (a1 : Int32) (a2 : Int32) : Ev (d + 7) 85 [.ref 220, .int a1, .int a2] (g0, N) (fun w h' => ∃ g', h' = (g', N) ∧ HI g' ∧ Fr F_X7_told_220 A_X7_told_220 g0 g' ∧ ∃ r : Int32, w = some (.int r) ∧ True) := by
  have hF0 : Fr F_X7_told_220 A_X7_told_220 g0 g0 := Fr.rf
  refine Ev.mk rfl rfl ⟨Nat.le_of_ble_eq_true rfl, Or.inr (q_rc hI0.1 kx_220 rfl)⟩ ?_
  show At _ none _ _ (0, [(0, .ref 220), (1, .int a1), (2, .int a2)], [], (_, _)) _
  refine At.enter rfl ?_
  refine r_aload_n rfl ?_
  obtain ⟨v245, hv245⟩ : ∃ v, gI g0 220 2 = v := ⟨_, rfl⟩
  refine q_getI (Sh.int hI0.1 kx_220 rfl) v245 hv245 ?_
  refine r_iload_n rfl ?_
  refine r_ics 8 rfl (fun c246 => ?_) (fun c246 => ?_)
  · have c246_ : v245.toInt = a1.toInt := en_i_eq_t c246
    refine At.enter rfl ?_
    refine r_iload_n rfl ?_
    refine r_ifs 83 rfl (fun c247 => ?_) (fun c247 => ?_)
    · have c247_ : a2.toInt ≠ 0 := en_k_ne_t c247
      refine At.enter rfl ?_
      refine r_iload_n rfl ?_
      refine r_iconst 5 rfl ?_
      refine r_ics 93 rfl (fun c248 => ?_) (fun c248 => ?_)
      · have c248_ : a2.toInt ≠ 5 := en_i_ne_t c248
        refine At.enter rfl ?_
        refine r_iload_n rfl ?_
        refine r_iconst 1 rfl ?_
        refine r_ics 103 rfl (fun c249 => ?_) (fun c249 => ?_)
        · have c249_ : a2.toInt < 1 := en_i_lt_t c249
          refine At.enter rfl ?_
          refine r_iconst (-1) rfl ?_
          refine Ar.fall 130 rfl ?_
          refine At.enter rfl ?_
          refine r_ireti ?_
          exact ⟨_, rfl, hI0, hF0, _, rfl, trivial⟩
        · have c249_ : a2.toInt ≥ 1 := en_i_lt_f c249
          refine At.enter rfl ?_
          refine r_iload_n rfl ?_
          refine r_iconst 4 rfl ?_
          refine r_ics 108 rfl (fun c250 => ?_) (fun c250 => ?_)
          · have c250_ : a2.toInt > 4 := en_i_gt_t c250
            refine At.enter rfl ?_
            refine r_iconst (-1) rfl ?_
            refine Ar.fall 130 rfl ?_
            refine At.enter rfl ?_
            refine r_ireti ?_
            exact ⟨_, rfl, hI0, hF0, _, rfl, trivial⟩
          · have c250_ : a2.toInt ≤ 4 := en_i_gt_f c250
            refine At.enter rfl ?_
            refine r_iload_n rfl ?_
            refine r_iconst 2 rfl ?_
            refine r_aload_n rfl ?_
            obtain ⟨v251, hv251⟩ : ∃ v, gI g0 220 3 = v := ⟨_, rfl⟩
            refine q_getI (Sh.int hI0.1 kx_220 rfl) v251 hv251 ?_
            refine q_imulO (fun v252 _ => ?_)
            have bv254 := q_bnd a2
            have bv255 := q_bnd v252
            refine r_ics 118 rfl (fun c253 => ?_) (fun c253 => ?_)
            · have c253_ : a2.toInt > v252.toInt := en_i_gt_t c253
              refine At.enter rfl ?_
              refine r_iconst (-1) rfl ?_
              refine Ar.fall 130 rfl ?_
              refine At.enter rfl ?_
              refine r_ireti ?_
              exact ⟨_, rfl, hI0, hF0, _, rfl, trivial⟩
            · have c253_ : a2.toInt ≤ v252.toInt := en_i_gt_f c253
              refine At.enter rfl ?_
              refine r_aload_n rfl ?_
              refine q_getR (Sh.ref hI0.1 kx_220 rfl) ?_
              refine r_iload_n rfl ?_
              refine r_iconst 1 rfl ?_
              refine q_isub (a2.toInt - 1) rfl (by omega) (fun v256 hv256 => ?_)
              obtain ⟨v257, hv257⟩ : ∃ v, eA g0 221 (a2.toInt + (-1)) = v := ⟨_, rfl⟩
              refine q_iald (Sh.arr hI0.1 ka_221) (a2.toInt + (-1)) (by omega) (by omega) v257 hv257 ?_
              refine r_goto ?_
              refine At.enter rfl ?_
              refine r_ireti ?_
              exact ⟨_, rfl, hI0, hF0, _, rfl, trivial⟩
      · have c248_ : a2.toInt = 5 := en_i_ne_f c248
        refine At.enter rfl ?_
        refine r_aload_n rfl ?_
        obtain ⟨v258, hv258⟩ : ∃ v, gI g0 220 4 = v := ⟨_, rfl⟩
        refine q_getI (Sh.int hI0.1 kx_220 rfl) v258 hv258 ?_
        refine r_ireti ?_
        exact ⟨_, rfl, hI0, hF0, _, rfl, trivial⟩
    · have c247_ : a2.toInt = 0 := en_k_ne_f c247
      refine At.enter rfl ?_
      refine r_aload_n rfl ?_
      obtain ⟨v259, hv259⟩ : ∃ v, gI g0 220 3 = v := ⟨_, rfl⟩
      refine q_getI (Sh.int hI0.1 kx_220 rfl) v259 hv259 ?_
      refine r_ireti ?_
      exact ⟨_, rfl, hI0, hF0, _, rfl, trivial⟩
  · have c246_ : v245.toInt ≠ a1.toInt := en_i_eq_f c246
    refine At.enter rfl ?_
    refine r_aload_n rfl ?_
    refine r_iload_n rfl ?_
    refine q_putI (Sh.int hI0.1 kx_220 rfl) rfl ?_
    have hI260 := HI.wI0 hI0 kx_220 rfl (p := 220) (b := 2) (v := a1) rfl
    have hF261 := Fr.wI (p := 220) (b := 2) (v := a1) hF0 rfl
    refine r_aload_n rfl ?_
    refine r_iconst 0 rfl ?_
    refine q_putI (Sh.int hI260.1 kx_220 rfl) rfl ?_
    have hI262 := HI.wI0 hI260 kx_220 rfl (p := 220) (b := 4) (v := 0) rfl
    have hF263 := Fr.wI (p := 220) (b := 4) (v := 0) hF261 rfl
    refine r_aload_n rfl ?_
    refine q_getR (Sh.ref hI262.1 kx_220 rfl) ?_
    refine r_iconst 0 rfl ?_
    refine r_callV 26 rfl [.ref 204, .int 0] [] (Nat.le_of_ble_eq_true rfl) rfl (T_X1_layOut_204 _ hI262 0) ?_
    rintro _ _ ⟨g264, rfl, hI265, hF266, rfl⟩
    refine At.stn ?_
    have hF269 := Fr.tr hF263 hF266 rfl rfl
    refine At.enter rfl ?_
    refine r_aload_n rfl ?_
    refine r_iconst 0 rfl ?_
    refine q_putI (Sh.int hI265.1 kx_220 rfl) rfl ?_
    have hI270 := HI.wI0 hI265 kx_220 rfl (p := 220) (b := 3) (v := 0) rfl
    have hF271 := Fr.wI (p := 220) (b := 3) (v := 0) hF269 rfl
    refine r_aload_n rfl ?_
    refine r_callV 35 rfl [.ref 220] [] (Nat.le_of_ble_eq_true rfl) rfl (T_X7_tryNone_220 _ hI270) ?_
    rintro _ _ ⟨g272, rfl, hI273, hF274, rfl⟩
    refine At.stn ?_
    have hF277 := Fr.tr hF271 hF274 rfl rfl
    refine At.enter rfl ?_
    refine r_aload_n rfl ?_
    obtain ⟨v278, hv278⟩ : ∃ v, gI g272 220 4 = v := ⟨_, rfl⟩
    refine q_getI (Sh.int hI273.1 kx_220 rfl) v278 hv278 ?_
    refine r_ifs 42 rfl (fun c279 => ?_) (fun c279 => ?_)
    · have c279_ : v278.toInt ≠ 0 := en_k_ne_t c279
      refine At.enter rfl ?_
      refine r_aload_n rfl ?_
      refine q_getI (Sh.int hI273.1 kx_220 rfl) v278 hv278 ?_
      refine r_ifs 58 rfl (fun c280 => ?_) (fun c280 => ?_)
      · have c280_ : v278.toInt ≠ 0 := en_k_ne_t c280
        refine At.enter rfl ?_
        refine r_aload_n rfl ?_
        refine q_getI (Sh.int hI273.1 kx_220 rfl) v278 hv278 ?_
        refine r_ifs 74 rfl (fun c281 => ?_) (fun c281 => ?_)
        · have c281_ : v278.toInt ≠ 0 := en_k_ne_t c281
          refine At.enter rfl ?_
          refine r_iload_n rfl ?_
          refine r_ifs 83 rfl (fun c282 => ?_) (fun c282 => ?_)
          · have c282_ : a2.toInt ≠ 0 := en_k_ne_t c282
            refine At.enter rfl ?_
            refine r_iload_n rfl ?_
            refine r_iconst 5 rfl ?_
            refine r_ics 93 rfl (fun c283 => ?_) (fun c283 => ?_)
            · have c283_ : a2.toInt ≠ 5 := en_i_ne_t c283
              refine At.enter rfl ?_
              refine r_iload_n rfl ?_
              refine r_iconst 1 rfl ?_
              refine r_ics 103 rfl (fun c284 => ?_) (fun c284 => ?_)
              · have c284_ : a2.toInt < 1 := en_i_lt_t c284
                refine At.enter rfl ?_
                refine r_iconst (-1) rfl ?_
                refine Ar.fall 130 rfl ?_
                refine At.enter rfl ?_
                refine r_ireti ?_
                exact ⟨_, rfl, hI273, hF277, _, rfl, trivial⟩
              · have c284_ : a2.toInt ≥ 1 := en_i_lt_f c284
                refine At.enter rfl ?_
                refine r_iload_n rfl ?_
                refine r_iconst 4 rfl ?_
                refine r_ics 108 rfl (fun c285 => ?_) (fun c285 => ?_)
                · have c285_ : a2.toInt > 4 := en_i_gt_t c285
                  refine At.enter rfl ?_
                  refine r_iconst (-1) rfl ?_
                  refine Ar.fall 130 rfl ?_
                  refine At.enter rfl ?_
                  refine r_ireti ?_
                  exact ⟨_, rfl, hI273, hF277, _, rfl, trivial⟩
                · have c285_ : a2.toInt ≤ 4 := en_i_gt_f c285
                  refine At.enter rfl ?_
                  refine r_iload_n rfl ?_
                  refine r_iconst 2 rfl ?_
                  refine r_aload_n rfl ?_
                  refine q_getI (Sh.int hI273.1 kx_220 rfl) 0 ((hF274.1 220 3 mf_X7_tryNone_220_220_3).trans (gI_sI_eq hI265.1 kx_220 rfl _)) ?_
                  refine r_imul 0 (by decide) ?_
                  refine r_ics 118 rfl (fun c286 => ?_) (fun c286 => ?_)
                  · have c286_ : a2.toInt > 0 := en_i_gt_t c286
                    refine At.enter rfl ?_
                    refine r_iconst (-1) rfl ?_
                    refine Ar.fall 130 rfl ?_
                    refine At.enter rfl ?_
                    refine r_ireti ?_
                    exact ⟨_, rfl, hI273, hF277, _, rfl, trivial⟩
                  · have c286_ : a2.toInt ≤ 0 := en_i_gt_f c286
                    exfalso; omega
            · have c283_ : a2.toInt = 5 := en_i_ne_f c283
              refine At.enter rfl ?_
              refine r_aload_n rfl ?_
              refine q_getI (Sh.int hI273.1 kx_220 rfl) v278 hv278 ?_
              refine r_ireti ?_
              exact ⟨_, rfl, hI273, hF277, _, rfl, trivial⟩
          · have c282_ : a2.toInt = 0 := en_k_ne_f c282
            refine At.enter rfl ?_
            refine r_aload_n rfl ?_
            refine q_getI (Sh.int hI273.1 kx_220 rfl) 0 ((hF274.1 220 3 mf_X7_tryNone_220_220_3).trans (gI_sI_eq hI265.1 kx_220 rfl _)) ?_
            refine r_ireti ?_
            exact ⟨_, rfl, hI273, hF277, _, rfl, trivial⟩
        · have c281_ : v278.toInt = 0 := en_k_ne_f c281
          refine At.enter rfl ?_
          refine r_aload_n rfl ?_
          refine r_iconst (-1) rfl ?_
          refine q_putI (Sh.int hI273.1 kx_220 rfl) rfl ?_
          have hI287 := HI.wI0 hI273 kx_220 rfl (p := 220) (b := 3) (v := (-1)) rfl
          have hF288 := Fr.wI (p := 220) (b := 3) (v := (-1)) hF277 rfl
          refine Ar.fall 79 rfl ?_
          refine At.enter rfl ?_
          refine r_iload_n rfl ?_
          refine r_ifs 83 rfl (fun c289 => ?_) (fun c289 => ?_)
          · have c289_ : a2.toInt ≠ 0 := en_k_ne_t c289
            refine At.enter rfl ?_
            refine r_iload_n rfl ?_
            refine r_iconst 5 rfl ?_
            refine r_ics 93 rfl (fun c290 => ?_) (fun c290 => ?_)
            · have c290_ : a2.toInt ≠ 5 := en_i_ne_t c290
              refine At.enter rfl ?_
              refine r_iload_n rfl ?_
              refine r_iconst 1 rfl ?_
              refine r_ics 103 rfl (fun c291 => ?_) (fun c291 => ?_)
              · have c291_ : a2.toInt < 1 := en_i_lt_t c291
                refine At.enter rfl ?_
                refine r_iconst (-1) rfl ?_
                refine Ar.fall 130 rfl ?_
                refine At.enter rfl ?_
                refine r_ireti ?_
                exact ⟨_, rfl, hI287, hF288, _, rfl, trivial⟩
              · have c291_ : a2.toInt ≥ 1 := en_i_lt_f c291
                refine At.enter rfl ?_
                refine r_iload_n rfl ?_
                refine r_iconst 4 rfl ?_
                refine r_ics 108 rfl (fun c292 => ?_) (fun c292 => ?_)
                · have c292_ : a2.toInt > 4 := en_i_gt_t c292
                  refine At.enter rfl ?_
                  refine r_iconst (-1) rfl ?_
                  refine Ar.fall 130 rfl ?_
                  refine At.enter rfl ?_
                  refine r_ireti ?_
                  exact ⟨_, rfl, hI287, hF288, _, rfl, trivial⟩
                · have c292_ : a2.toInt ≤ 4 := en_i_gt_f c292
                  refine At.enter rfl ?_
                  refine r_iload_n rfl ?_
                  refine r_iconst 2 rfl ?_
                  refine r_aload_n rfl ?_
                  refine q_getI (Sh.int hI287.1 kx_220 rfl) (-1) (gI_sI_eq hI273.1 kx_220 rfl _) ?_
                  refine r_imul (-2) (by decide) ?_
                  refine r_ics 118 rfl (fun c293 => ?_) (fun c293 => ?_)
                  · have c293_ : a2.toInt > (-2) := en_i_gt_t c293
                    refine At.enter rfl ?_
                    refine r_iconst (-1) rfl ?_
                    refine Ar.fall 130 rfl ?_
                    refine At.enter rfl ?_
                    refine r_ireti ?_
                    exact ⟨_, rfl, hI287, hF288, _, rfl, trivial⟩
                  · have c293_ : a2.toInt ≤ (-2) := en_i_gt_f c293
                    exfalso; omega
            · have c290_ : a2.toInt = 5 := en_i_ne_f c290
              refine At.enter rfl ?_
              refine r_aload_n rfl ?_
              refine q_getI (Sh.int hI287.1 kx_220 rfl) v278 ((gI_sI_ne (by decide)).trans hv278) ?_
              refine r_ireti ?_
              exact ⟨_, rfl, hI287, hF288, _, rfl, trivial⟩
          · have c289_ : a2.toInt = 0 := en_k_ne_f c289
            refine At.enter rfl ?_
            refine r_aload_n rfl ?_
            refine q_getI (Sh.int hI287.1 kx_220 rfl) (-1) (gI_sI_eq hI273.1 kx_220 rfl _) ?_
            refine r_ireti ?_
            exact ⟨_, rfl, hI287, hF288, _, rfl, trivial⟩
      · have c280_ : v278.toInt = 0 := en_k_ne_f c280
        refine At.enter rfl ?_
        refine r_aload_n rfl ?_
        refine r_iconst 2 rfl ?_
        refine q_putI (Sh.int hI273.1 kx_220 rfl) rfl ?_
        have hI294 := HI.wI0 hI273 kx_220 rfl (p := 220) (b := 3) (v := 2) rfl
        have hF295 := Fr.wI (p := 220) (b := 3) (v := 2) hF277 rfl
        refine r_aload_n rfl ?_
        refine r_callV 67 rfl [.ref 220] [] (Nat.le_of_ble_eq_true rfl) rfl (T_X7_tryTwo_220 _ hI294) ?_
        rintro _ _ ⟨g296, rfl, hI297, hF298, rfl⟩
        refine At.stn ?_
        have hF301 := Fr.tr hF295 hF298 rfl rfl
        refine At.enter rfl ?_
        refine r_aload_n rfl ?_
        obtain ⟨v302, hv302⟩ : ∃ v, gI g296 220 4 = v := ⟨_, rfl⟩
        refine q_getI (Sh.int hI297.1 kx_220 rfl) v302 hv302 ?_
        refine r_ifs 74 rfl (fun c303 => ?_) (fun c303 => ?_)
        · have c303_ : v302.toInt ≠ 0 := en_k_ne_t c303
          refine At.enter rfl ?_
          refine r_iload_n rfl ?_
          refine r_ifs 83 rfl (fun c304 => ?_) (fun c304 => ?_)
          · have c304_ : a2.toInt ≠ 0 := en_k_ne_t c304
            refine At.enter rfl ?_
            refine r_iload_n rfl ?_
            refine r_iconst 5 rfl ?_
            refine r_ics 93 rfl (fun c305 => ?_) (fun c305 => ?_)
            · have c305_ : a2.toInt ≠ 5 := en_i_ne_t c305
              refine At.enter rfl ?_
              refine r_iload_n rfl ?_
              refine r_iconst 1 rfl ?_
              refine r_ics 103 rfl (fun c306 => ?_) (fun c306 => ?_)
              · have c306_ : a2.toInt < 1 := en_i_lt_t c306
                refine At.enter rfl ?_
                refine r_iconst (-1) rfl ?_
                refine Ar.fall 130 rfl ?_
                refine At.enter rfl ?_
                refine r_ireti ?_
                exact ⟨_, rfl, hI297, hF301, _, rfl, trivial⟩
              · have c306_ : a2.toInt ≥ 1 := en_i_lt_f c306
                refine At.enter rfl ?_
                refine r_iload_n rfl ?_
                refine r_iconst 4 rfl ?_
                refine r_ics 108 rfl (fun c307 => ?_) (fun c307 => ?_)
                · have c307_ : a2.toInt > 4 := en_i_gt_t c307
                  refine At.enter rfl ?_
                  refine r_iconst (-1) rfl ?_
                  refine Ar.fall 130 rfl ?_
                  refine At.enter rfl ?_
                  refine r_ireti ?_
                  exact ⟨_, rfl, hI297, hF301, _, rfl, trivial⟩
                · have c307_ : a2.toInt ≤ 4 := en_i_gt_f c307
                  refine At.enter rfl ?_
                  refine r_iload_n rfl ?_
                  refine r_iconst 2 rfl ?_
                  refine r_aload_n rfl ?_
                  refine q_getI (Sh.int hI297.1 kx_220 rfl) 2 ((hF298.1 220 3 mf_X7_tryTwo_220_220_3).trans (gI_sI_eq hI273.1 kx_220 rfl _)) ?_
                  refine r_imul 4 (by decide) ?_
                  refine r_ics 118 rfl (fun c308 => ?_) (fun c308 => ?_)
                  · have c308_ : a2.toInt > 4 := en_i_gt_t c308
                    exfalso; omega
                  · have c308_ : a2.toInt ≤ 4 := en_i_gt_f c308
                    refine At.enter rfl ?_
                    refine r_aload_n rfl ?_
                    refine q_getR (Sh.ref hI297.1 kx_220 rfl) ?_
                    refine r_iload_n rfl ?_
                    refine r_iconst 1 rfl ?_
                    refine q_isub (a2.toInt - 1) rfl (by omega) (fun v309 hv309 => ?_)
                    obtain ⟨v310, hv310⟩ : ∃ v, eA g296 221 (a2.toInt + (-1)) = v := ⟨_, rfl⟩
                    refine q_iald (Sh.arr hI297.1 ka_221) (a2.toInt + (-1)) (by omega) (by omega) v310 hv310 ?_
                    refine r_goto ?_
                    refine At.enter rfl ?_
                    refine r_ireti ?_
                    exact ⟨_, rfl, hI297, hF301, _, rfl, trivial⟩
            · have c305_ : a2.toInt = 5 := en_i_ne_f c305
              refine At.enter rfl ?_
              refine r_aload_n rfl ?_
              refine q_getI (Sh.int hI297.1 kx_220 rfl) v302 hv302 ?_
              refine r_ireti ?_
              exact ⟨_, rfl, hI297, hF301, _, rfl, trivial⟩
          · have c304_ : a2.toInt = 0 := en_k_ne_f c304
            refine At.enter rfl ?_
            refine r_aload_n rfl ?_
            refine q_getI (Sh.int hI297.1 kx_220 rfl) 2 ((hF298.1 220 3 mf_X7_tryTwo_220_220_3).trans (gI_sI_eq hI273.1 kx_220 rfl _)) ?_
            refine r_ireti ?_
            exact ⟨_, rfl, hI297, hF301, _, rfl, trivial⟩
        · have c303_ : v302.toInt = 0 := en_k_ne_f c303
          refine At.enter rfl ?_
          refine r_aload_n rfl ?_
          refine r_iconst (-1) rfl ?_
          refine q_putI (Sh.int hI297.1 kx_220 rfl) rfl ?_
          have hI311 := HI.wI0 hI297 kx_220 rfl (p := 220) (b := 3) (v := (-1)) rfl
          have hF312 := Fr.wI (p := 220) (b := 3) (v := (-1)) hF301 rfl
          refine Ar.fall 79 rfl ?_
          refine At.enter rfl ?_
          refine r_iload_n rfl ?_
          refine r_ifs 83 rfl (fun c313 => ?_) (fun c313 => ?_)
          · have c313_ : a2.toInt ≠ 0 := en_k_ne_t c313
            refine At.enter rfl ?_
            refine r_iload_n rfl ?_
            refine r_iconst 5 rfl ?_
            refine r_ics 93 rfl (fun c314 => ?_) (fun c314 => ?_)
            · have c314_ : a2.toInt ≠ 5 := en_i_ne_t c314
              refine At.enter rfl ?_
              refine r_iload_n rfl ?_
              refine r_iconst 1 rfl ?_
              refine r_ics 103 rfl (fun c315 => ?_) (fun c315 => ?_)
              · have c315_ : a2.toInt < 1 := en_i_lt_t c315
                refine At.enter rfl ?_
                refine r_iconst (-1) rfl ?_
                refine Ar.fall 130 rfl ?_
                refine At.enter rfl ?_
                refine r_ireti ?_
                exact ⟨_, rfl, hI311, hF312, _, rfl, trivial⟩
              · have c315_ : a2.toInt ≥ 1 := en_i_lt_f c315
                refine At.enter rfl ?_
                refine r_iload_n rfl ?_
                refine r_iconst 4 rfl ?_
                refine r_ics 108 rfl (fun c316 => ?_) (fun c316 => ?_)
                · have c316_ : a2.toInt > 4 := en_i_gt_t c316
                  refine At.enter rfl ?_
                  refine r_iconst (-1) rfl ?_
                  refine Ar.fall 130 rfl ?_
                  refine At.enter rfl ?_
                  refine r_ireti ?_
                  exact ⟨_, rfl, hI311, hF312, _, rfl, trivial⟩
                · have c316_ : a2.toInt ≤ 4 := en_i_gt_f c316
                  refine At.enter rfl ?_
                  refine r_iload_n rfl ?_
                  refine r_iconst 2 rfl ?_
                  refine r_aload_n rfl ?_
                  refine q_getI (Sh.int hI311.1 kx_220 rfl) (-1) (gI_sI_eq hI297.1 kx_220 rfl _) ?_
                  refine r_imul (-2) (by decide) ?_
                  refine r_ics 118 rfl (fun c317 => ?_) (fun c317 => ?_)
                  · have c317_ : a2.toInt > (-2) := en_i_gt_t c317
                    refine At.enter rfl ?_
                    refine r_iconst (-1) rfl ?_
                    refine Ar.fall 130 rfl ?_
                    refine At.enter rfl ?_
                    refine r_ireti ?_
                    exact ⟨_, rfl, hI311, hF312, _, rfl, trivial⟩
                  · have c317_ : a2.toInt ≤ (-2) := en_i_gt_f c317
                    exfalso; omega
            · have c314_ : a2.toInt = 5 := en_i_ne_f c314
              refine At.enter rfl ?_
              refine r_aload_n rfl ?_
              refine q_getI (Sh.int hI311.1 kx_220 rfl) v302 ((gI_sI_ne (by decide)).trans hv302) ?_
              refine r_ireti ?_
              exact ⟨_, rfl, hI311, hF312, _, rfl, trivial⟩
          · have c313_ : a2.toInt = 0 := en_k_ne_f c313
            refine At.enter rfl ?_
            refine r_aload_n rfl ?_
            refine q_getI (Sh.int hI311.1 kx_220 rfl) (-1) (gI_sI_eq hI297.1 kx_220 rfl _) ?_
            refine r_ireti ?_
            exact ⟨_, rfl, hI311, hF312, _, rfl, trivial⟩
    · have c279_ : v278.toInt = 0 := en_k_ne_f c279
      refine At.enter rfl ?_
      refine r_aload_n rfl ?_
      refine r_iconst 1 rfl ?_
      refine q_putI (Sh.int hI273.1 kx_220 rfl) rfl ?_
      have hI318 := HI.wI0 hI273 kx_220 rfl (p := 220) (b := 3) (v := 1) rfl
      have hF319 := Fr.wI (p := 220) (b := 3) (v := 1) hF277 rfl
      refine r_aload_n rfl ?_
      refine r_callV 51 rfl [.ref 220] [] (Nat.le_of_ble_eq_true rfl) rfl (T_X7_tryOne_220 _ hI318) ?_
      rintro _ _ ⟨g320, rfl, hI321, hF322, rfl⟩
      refine At.stn ?_
      have hF325 := Fr.tr hF319 hF322 rfl rfl
      refine At.enter rfl ?_
      refine r_aload_n rfl ?_
      obtain ⟨v326, hv326⟩ : ∃ v, gI g320 220 4 = v := ⟨_, rfl⟩
      refine q_getI (Sh.int hI321.1 kx_220 rfl) v326 hv326 ?_
      refine r_ifs 58 rfl (fun c327 => ?_) (fun c327 => ?_)
      · have c327_ : v326.toInt ≠ 0 := en_k_ne_t c327
        refine At.enter rfl ?_
        refine r_aload_n rfl ?_
        refine q_getI (Sh.int hI321.1 kx_220 rfl) v326 hv326 ?_
        refine r_ifs 74 rfl (fun c328 => ?_) (fun c328 => ?_)
        · have c328_ : v326.toInt ≠ 0 := en_k_ne_t c328
          refine At.enter rfl ?_
          refine r_iload_n rfl ?_
          refine r_ifs 83 rfl (fun c329 => ?_) (fun c329 => ?_)
          · have c329_ : a2.toInt ≠ 0 := en_k_ne_t c329
            refine At.enter rfl ?_
            refine r_iload_n rfl ?_
            refine r_iconst 5 rfl ?_
            refine r_ics 93 rfl (fun c330 => ?_) (fun c330 => ?_)
            · have c330_ : a2.toInt ≠ 5 := en_i_ne_t c330
              refine At.enter rfl ?_
              refine r_iload_n rfl ?_
              refine r_iconst 1 rfl ?_
              refine r_ics 103 rfl (fun c331 => ?_) (fun c331 => ?_)
              · have c331_ : a2.toInt < 1 := en_i_lt_t c331
                refine At.enter rfl ?_
                refine r_iconst (-1) rfl ?_
                refine Ar.fall 130 rfl ?_
                refine At.enter rfl ?_
                refine r_ireti ?_
                exact ⟨_, rfl, hI321, hF325, _, rfl, trivial⟩
              · have c331_ : a2.toInt ≥ 1 := en_i_lt_f c331
                refine At.enter rfl ?_
                refine r_iload_n rfl ?_
                refine r_iconst 4 rfl ?_
                refine r_ics 108 rfl (fun c332 => ?_) (fun c332 => ?_)
                · have c332_ : a2.toInt > 4 := en_i_gt_t c332
                  refine At.enter rfl ?_
                  refine r_iconst (-1) rfl ?_
                  refine Ar.fall 130 rfl ?_
                  refine At.enter rfl ?_
                  refine r_ireti ?_
                  exact ⟨_, rfl, hI321, hF325, _, rfl, trivial⟩
                · have c332_ : a2.toInt ≤ 4 := en_i_gt_f c332
                  refine At.enter rfl ?_
                  refine r_iload_n rfl ?_
                  refine r_iconst 2 rfl ?_
                  refine r_aload_n rfl ?_
                  refine q_getI (Sh.int hI321.1 kx_220 rfl) 1 ((hF322.1 220 3 mf_X7_tryOne_220_220_3).trans (gI_sI_eq hI273.1 kx_220 rfl _)) ?_
                  refine r_imul 2 (by decide) ?_
                  refine r_ics 118 rfl (fun c333 => ?_) (fun c333 => ?_)
                  · have c333_ : a2.toInt > 2 := en_i_gt_t c333
                    refine At.enter rfl ?_
                    refine r_iconst (-1) rfl ?_
                    refine Ar.fall 130 rfl ?_
                    refine At.enter rfl ?_
                    refine r_ireti ?_
                    exact ⟨_, rfl, hI321, hF325, _, rfl, trivial⟩
                  · have c333_ : a2.toInt ≤ 2 := en_i_gt_f c333
                    refine At.enter rfl ?_
                    refine r_aload_n rfl ?_
                    refine q_getR (Sh.ref hI321.1 kx_220 rfl) ?_
                    refine r_iload_n rfl ?_
                    refine r_iconst 1 rfl ?_
                    refine q_isub (a2.toInt - 1) rfl (by omega) (fun v334 hv334 => ?_)
                    obtain ⟨v335, hv335⟩ : ∃ v, eA g320 221 (a2.toInt + (-1)) = v := ⟨_, rfl⟩
                    refine q_iald (Sh.arr hI321.1 ka_221) (a2.toInt + (-1)) (by omega) (by omega) v335 hv335 ?_
                    refine r_goto ?_
                    refine At.enter rfl ?_
                    refine r_ireti ?_
                    exact ⟨_, rfl, hI321, hF325, _, rfl, trivial⟩
            · have c330_ : a2.toInt = 5 := en_i_ne_f c330
              refine At.enter rfl ?_
              refine r_aload_n rfl ?_
              refine q_getI (Sh.int hI321.1 kx_220 rfl) v326 hv326 ?_
              refine r_ireti ?_
              exact ⟨_, rfl, hI321, hF325, _, rfl, trivial⟩
          · have c329_ : a2.toInt = 0 := en_k_ne_f c329
            refine At.enter rfl ?_
            refine r_aload_n rfl ?_
            refine q_getI (Sh.int hI321.1 kx_220 rfl) 1 ((hF322.1 220 3 mf_X7_tryOne_220_220_3).trans (gI_sI_eq hI273.1 kx_220 rfl _)) ?_
            refine r_ireti ?_
            exact ⟨_, rfl, hI321, hF325, _, rfl, trivial⟩
        · have c328_ : v326.toInt = 0 := en_k_ne_f c328
          refine At.enter rfl ?_
          refine r_aload_n rfl ?_
          refine r_iconst (-1) rfl ?_
          refine q_putI (Sh.int hI321.1 kx_220 rfl) rfl ?_
          have hI336 := HI.wI0 hI321 kx_220 rfl (p := 220) (b := 3) (v := (-1)) rfl
          have hF337 := Fr.wI (p := 220) (b := 3) (v := (-1)) hF325 rfl
          refine Ar.fall 79 rfl ?_
          refine At.enter rfl ?_
          refine r_iload_n rfl ?_
          refine r_ifs 83 rfl (fun c338 => ?_) (fun c338 => ?_)
          · have c338_ : a2.toInt ≠ 0 := en_k_ne_t c338
            refine At.enter rfl ?_
            refine r_iload_n rfl ?_
            refine r_iconst 5 rfl ?_
            refine r_ics 93 rfl (fun c339 => ?_) (fun c339 => ?_)
            · have c339_ : a2.toInt ≠ 5 := en_i_ne_t c339
              refine At.enter rfl ?_
              refine r_iload_n rfl ?_
              refine r_iconst 1 rfl ?_
              refine r_ics 103 rfl (fun c340 => ?_) (fun c340 => ?_)
              · have c340_ : a2.toInt < 1 := en_i_lt_t c340
                refine At.enter rfl ?_
                refine r_iconst (-1) rfl ?_
                refine Ar.fall 130 rfl ?_
                refine At.enter rfl ?_
                refine r_ireti ?_
                exact ⟨_, rfl, hI336, hF337, _, rfl, trivial⟩
              · have c340_ : a2.toInt ≥ 1 := en_i_lt_f c340
                refine At.enter rfl ?_
                refine r_iload_n rfl ?_
                refine r_iconst 4 rfl ?_
                refine r_ics 108 rfl (fun c341 => ?_) (fun c341 => ?_)
                · have c341_ : a2.toInt > 4 := en_i_gt_t c341
                  refine At.enter rfl ?_
                  refine r_iconst (-1) rfl ?_
                  refine Ar.fall 130 rfl ?_
                  refine At.enter rfl ?_
                  refine r_ireti ?_
                  exact ⟨_, rfl, hI336, hF337, _, rfl, trivial⟩
                · have c341_ : a2.toInt ≤ 4 := en_i_gt_f c341
                  refine At.enter rfl ?_
                  refine r_iload_n rfl ?_
                  refine r_iconst 2 rfl ?_
                  refine r_aload_n rfl ?_
                  refine q_getI (Sh.int hI336.1 kx_220 rfl) (-1) (gI_sI_eq hI321.1 kx_220 rfl _) ?_
                  refine r_imul (-2) (by decide) ?_
                  refine r_ics 118 rfl (fun c342 => ?_) (fun c342 => ?_)
                  · have c342_ : a2.toInt > (-2) := en_i_gt_t c342
                    refine At.enter rfl ?_
                    refine r_iconst (-1) rfl ?_
                    refine Ar.fall 130 rfl ?_
                    refine At.enter rfl ?_
                    refine r_ireti ?_
                    exact ⟨_, rfl, hI336, hF337, _, rfl, trivial⟩
                  · have c342_ : a2.toInt ≤ (-2) := en_i_gt_f c342
                    exfalso; omega
            · have c339_ : a2.toInt = 5 := en_i_ne_f c339
              refine At.enter rfl ?_
              refine r_aload_n rfl ?_
              refine q_getI (Sh.int hI336.1 kx_220 rfl) v326 ((gI_sI_ne (by decide)).trans hv326) ?_
              refine r_ireti ?_
              exact ⟨_, rfl, hI336, hF337, _, rfl, trivial⟩
          · have c338_ : a2.toInt = 0 := en_k_ne_f c338
            refine At.enter rfl ?_
            refine r_aload_n rfl ?_
            refine q_getI (Sh.int hI336.1 kx_220 rfl) (-1) (gI_sI_eq hI321.1 kx_220 rfl _) ?_
            refine r_ireti ?_
            exact ⟨_, rfl, hI336, hF337, _, rfl, trivial⟩
      · have c327_ : v326.toInt = 0 := en_k_ne_f c327
        refine At.enter rfl ?_
        refine r_aload_n rfl ?_
        refine r_iconst 2 rfl ?_
        refine q_putI (Sh.int hI321.1 kx_220 rfl) rfl ?_
        have hI343 := HI.wI0 hI321 kx_220 rfl (p := 220) (b := 3) (v := 2) rfl
        have hF344 := Fr.wI (p := 220) (b := 3) (v := 2) hF325 rfl
        refine r_aload_n rfl ?_
        refine r_callV 67 rfl [.ref 220] [] (Nat.le_of_ble_eq_true rfl) rfl (T_X7_tryTwo_220 _ hI343) ?_
        rintro _ _ ⟨g345, rfl, hI346, hF347, rfl⟩
        refine At.stn ?_
        have hF350 := Fr.tr hF344 hF347 rfl rfl
        refine At.enter rfl ?_
        refine r_aload_n rfl ?_
        obtain ⟨v351, hv351⟩ : ∃ v, gI g345 220 4 = v := ⟨_, rfl⟩
        refine q_getI (Sh.int hI346.1 kx_220 rfl) v351 hv351 ?_
        refine r_ifs 74 rfl (fun c352 => ?_) (fun c352 => ?_)
        · have c352_ : v351.toInt ≠ 0 := en_k_ne_t c352
          refine At.enter rfl ?_
          refine r_iload_n rfl ?_
          refine r_ifs 83 rfl (fun c353 => ?_) (fun c353 => ?_)
          · have c353_ : a2.toInt ≠ 0 := en_k_ne_t c353
            refine At.enter rfl ?_
            refine r_iload_n rfl ?_
            refine r_iconst 5 rfl ?_
            refine r_ics 93 rfl (fun c354 => ?_) (fun c354 => ?_)
            · have c354_ : a2.toInt ≠ 5 := en_i_ne_t c354
              refine At.enter rfl ?_
              refine r_iload_n rfl ?_
              refine r_iconst 1 rfl ?_
              refine r_ics 103 rfl (fun c355 => ?_) (fun c355 => ?_)
              · have c355_ : a2.toInt < 1 := en_i_lt_t c355
                refine At.enter rfl ?_
                refine r_iconst (-1) rfl ?_
                refine Ar.fall 130 rfl ?_
                refine At.enter rfl ?_
                refine r_ireti ?_
                exact ⟨_, rfl, hI346, hF350, _, rfl, trivial⟩
              · have c355_ : a2.toInt ≥ 1 := en_i_lt_f c355
                refine At.enter rfl ?_
                refine r_iload_n rfl ?_
                refine r_iconst 4 rfl ?_
                refine r_ics 108 rfl (fun c356 => ?_) (fun c356 => ?_)
                · have c356_ : a2.toInt > 4 := en_i_gt_t c356
                  refine At.enter rfl ?_
                  refine r_iconst (-1) rfl ?_
                  refine Ar.fall 130 rfl ?_
                  refine At.enter rfl ?_
                  refine r_ireti ?_
                  exact ⟨_, rfl, hI346, hF350, _, rfl, trivial⟩
                · have c356_ : a2.toInt ≤ 4 := en_i_gt_f c356
                  refine At.enter rfl ?_
                  refine r_iload_n rfl ?_
                  refine r_iconst 2 rfl ?_
                  refine r_aload_n rfl ?_
                  refine q_getI (Sh.int hI346.1 kx_220 rfl) 2 ((hF347.1 220 3 mf_X7_tryTwo_220_220_3).trans (gI_sI_eq hI321.1 kx_220 rfl _)) ?_
                  refine r_imul 4 (by decide) ?_
                  refine r_ics 118 rfl (fun c357 => ?_) (fun c357 => ?_)
                  · have c357_ : a2.toInt > 4 := en_i_gt_t c357
                    exfalso; omega
                  · have c357_ : a2.toInt ≤ 4 := en_i_gt_f c357
                    refine At.enter rfl ?_
                    refine r_aload_n rfl ?_
                    refine q_getR (Sh.ref hI346.1 kx_220 rfl) ?_
                    refine r_iload_n rfl ?_
                    refine r_iconst 1 rfl ?_
                    refine q_isub (a2.toInt - 1) rfl (by omega) (fun v358 hv358 => ?_)
                    obtain ⟨v359, hv359⟩ : ∃ v, eA g345 221 (a2.toInt + (-1)) = v := ⟨_, rfl⟩
                    refine q_iald (Sh.arr hI346.1 ka_221) (a2.toInt + (-1)) (by omega) (by omega) v359 hv359 ?_
                    refine r_goto ?_
                    refine At.enter rfl ?_
                    refine r_ireti ?_
                    exact ⟨_, rfl, hI346, hF350, _, rfl, trivial⟩
            · have c354_ : a2.toInt = 5 := en_i_ne_f c354
              refine At.enter rfl ?_
              refine r_aload_n rfl ?_
              refine q_getI (Sh.int hI346.1 kx_220 rfl) v351 hv351 ?_
              refine r_ireti ?_
              exact ⟨_, rfl, hI346, hF350, _, rfl, trivial⟩
          · have c353_ : a2.toInt = 0 := en_k_ne_f c353
            refine At.enter rfl ?_
            refine r_aload_n rfl ?_
            refine q_getI (Sh.int hI346.1 kx_220 rfl) 2 ((hF347.1 220 3 mf_X7_tryTwo_220_220_3).trans (gI_sI_eq hI321.1 kx_220 rfl _)) ?_
            refine r_ireti ?_
            exact ⟨_, rfl, hI346, hF350, _, rfl, trivial⟩
        · have c352_ : v351.toInt = 0 := en_k_ne_f c352
          refine At.enter rfl ?_
          refine r_aload_n rfl ?_
          refine r_iconst (-1) rfl ?_
          refine q_putI (Sh.int hI346.1 kx_220 rfl) rfl ?_
          have hI360 := HI.wI0 hI346 kx_220 rfl (p := 220) (b := 3) (v := (-1)) rfl
          have hF361 := Fr.wI (p := 220) (b := 3) (v := (-1)) hF350 rfl
          refine Ar.fall 79 rfl ?_
          refine At.enter rfl ?_
          refine r_iload_n rfl ?_
          refine r_ifs 83 rfl (fun c362 => ?_) (fun c362 => ?_)
          · have c362_ : a2.toInt ≠ 0 := en_k_ne_t c362
            refine At.enter rfl ?_
            refine r_iload_n rfl ?_
            refine r_iconst 5 rfl ?_
            refine r_ics 93 rfl (fun c363 => ?_) (fun c363 => ?_)
            · have c363_ : a2.toInt ≠ 5 := en_i_ne_t c363
              refine At.enter rfl ?_
              refine r_iload_n rfl ?_
              refine r_iconst 1 rfl ?_
              refine r_ics 103 rfl (fun c364 => ?_) (fun c364 => ?_)
              · have c364_ : a2.toInt < 1 := en_i_lt_t c364
                refine At.enter rfl ?_
                refine r_iconst (-1) rfl ?_
                refine Ar.fall 130 rfl ?_
                refine At.enter rfl ?_
                refine r_ireti ?_
                exact ⟨_, rfl, hI360, hF361, _, rfl, trivial⟩
              · have c364_ : a2.toInt ≥ 1 := en_i_lt_f c364
                refine At.enter rfl ?_
                refine r_iload_n rfl ?_
                refine r_iconst 4 rfl ?_
                refine r_ics 108 rfl (fun c365 => ?_) (fun c365 => ?_)
                · have c365_ : a2.toInt > 4 := en_i_gt_t c365
                  refine At.enter rfl ?_
                  refine r_iconst (-1) rfl ?_
                  refine Ar.fall 130 rfl ?_
                  refine At.enter rfl ?_
                  refine r_ireti ?_
                  exact ⟨_, rfl, hI360, hF361, _, rfl, trivial⟩
                · have c365_ : a2.toInt ≤ 4 := en_i_gt_f c365
                  refine At.enter rfl ?_
                  refine r_iload_n rfl ?_
                  refine r_iconst 2 rfl ?_
                  refine r_aload_n rfl ?_
                  refine q_getI (Sh.int hI360.1 kx_220 rfl) (-1) (gI_sI_eq hI346.1 kx_220 rfl _) ?_
                  refine r_imul (-2) (by decide) ?_
                  refine r_ics 118 rfl (fun c366 => ?_) (fun c366 => ?_)
                  · have c366_ : a2.toInt > (-2) := en_i_gt_t c366
                    refine At.enter rfl ?_
                    refine r_iconst (-1) rfl ?_
                    refine Ar.fall 130 rfl ?_
                    refine At.enter rfl ?_
                    refine r_ireti ?_
                    exact ⟨_, rfl, hI360, hF361, _, rfl, trivial⟩
                  · have c366_ : a2.toInt ≤ (-2) := en_i_gt_f c366
                    exfalso; omega
            · have c363_ : a2.toInt = 5 := en_i_ne_f c363
              refine At.enter rfl ?_
              refine r_aload_n rfl ?_
              refine q_getI (Sh.int hI360.1 kx_220 rfl) v351 ((gI_sI_ne (by decide)).trans hv351) ?_
              refine r_ireti ?_
              exact ⟨_, rfl, hI360, hF361, _, rfl, trivial⟩
          · have c362_ : a2.toInt = 0 := en_k_ne_f c362
            refine At.enter rfl ?_
            refine r_aload_n rfl ?_
            refine q_getI (Sh.int hI360.1 kx_220 rfl) (-1) (gI_sI_eq hI346.1 kx_220 rfl _) ?_
            refine r_ireti ?_
            exact ⟨_, rfl, hI360, hF361, _, rfl, trivial⟩
