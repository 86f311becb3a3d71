def F_X5_read_176 : List (Nat × Nat) := [(176, 2), (176, 3), (176, 4), (176, 5), (176, 6), (177, 0), (177, 3), (177, 4)]
def A_X5_read_176 : List Nat := [178, 179, 180, 181, 182, 183]
set_option maxRecDepth 100000 in
set_option maxHeartbeats 4000000 in
theorem T_X5_read_176 (d : Nat) {N : Nat} {g0 : List en_E} (hI0 : HI g0) : Ev (d + 422) 63 [.ref 176] (g0, N) (fun w h' => ∃ g', h' = (g', N) ∧ HI g' ∧ Fr F_X5_read_176 A_X5_read_176 g0 g' ∧ ∃ r : Int32, w = some (.int r) ∧ (0 ≤ r.toInt ∧ r.toInt ≤ 1)) := by
  have hF0 : Fr F_X5_read_176 A_X5_read_176 g0 g0 := Fr.rf
  refine Ev.mk rfl rfl ⟨Nat.le_of_ble_eq_true rfl, Or.inr (q_rc hI0.1 kx_176 rfl)⟩ ?_
  show At _ none _ _ (0, [(0, .ref 176)], [], (_, _)) _
  refine At.enter rfl ?_
  refine r_aload_n rfl ?_
  refine r_iconst (-1) rfl ?_
  refine q_putI (Sh.int hI0.1 kx_176 rfl) rfl ?_
  have hI1541 := HI.wI0 hI0 kx_176 rfl (p := 176) (b := 2) (v := (-1)) rfl
  have hF1542 := Fr.wI (p := 176) (b := 2) (v := (-1)) hF0 rfl
  refine r_aload_n rfl ?_
  refine r_iconst 0 rfl ?_
  refine q_putI (Sh.int hI1541.1 kx_176 rfl) rfl ?_
  have hI1543 := HI.wI1 hI1541 kx_176 rfl (p := 176) (b := 5) (v := 0) rfl (by decide)
  have hF1544 := Fr.wI (p := 176) (b := 5) (v := 0) hF1542 rfl
  refine r_aload_n rfl ?_
  refine r_iconst 0 rfl ?_
  refine q_putI (Sh.int hI1543.1 kx_176 rfl) rfl ?_
  have hI1545 := HI.wI0 hI1543 kx_176 rfl (p := 176) (b := 6) (v := 0) rfl
  have hF1546 := Fr.wI (p := 176) (b := 6) (v := 0) hF1544 rfl
  refine r_aload_n rfl ?_
  refine q_getR (Sh.ref hI1545.1 kx_176 rfl) ?_
  refine q_inlV 22 rfl [.ref 177] [] (Nat.le_of_ble_eq_true rfl) rfl ?_
  refine Ev.mk rfl rfl ⟨Nat.le_of_ble_eq_true rfl, Or.inr (q_rc hI1545.1 kx_177 rfl)⟩ ?_
  show At _ none _ _ (0, [(0, .ref 177)], [], (_, _)) _
  refine At.enter rfl ?_
  refine r_aload_n rfl ?_
  refine r_iconst 0 rfl ?_
  refine q_putI (Sh.int hI1545.1 kx_177 rfl) rfl ?_
  have hI1547 := HI.wI1 hI1545 kx_177 rfl (p := 177) (b := 0) (v := 0) rfl (by decide)
  have hF1548 := Fr.wI (p := 177) (b := 0) (v := 0) hF1546 rfl
  refine r_aload_n rfl ?_
  refine r_iconst 0 rfl ?_
  refine q_putI (Sh.int hI1547.1 kx_177 rfl) rfl ?_
  have hI1549 := HI.wI1 hI1547 kx_177 rfl (p := 177) (b := 3) (v := 0) rfl (by decide)
  have hF1550 := Fr.wI (p := 177) (b := 3) (v := 0) hF1548 rfl
  refine r_aload_n rfl ?_
  refine r_iconst 0 rfl ?_
  refine q_putI (Sh.int hI1549.1 kx_177 rfl) rfl ?_
  have hI1551 := HI.wI0 hI1549 kx_177 rfl (p := 177) (b := 4) (v := 0) rfl
  have hF1552 := Fr.wI (p := 177) (b := 4) (v := 0) hF1550 rfl
  refine q_vret ?_
  refine At.enter rfl ?_
  refine r_aload_n rfl ?_
  refine r_callV 26 rfl [.ref 176] [] (Nat.le_of_ble_eq_true rfl) rfl (T_X5_step_176 _ hI1551) ?_
  rintro _ _ ⟨g1553, rfl, hI1554, hF1555, rfl⟩
  refine At.stn ?_
  have hF1558 := Fr.tr hF1552 hF1555 rfl rfl
  refine At.enter rfl ?_
  refine r_aload_n rfl ?_
  refine r_callV 30 rfl [.ref 176] [] (Nat.le_of_ble_eq_true rfl) rfl (T_X5_readClause_176 _ hI1554) ?_
  rintro _ _ ⟨g1559, rfl, hI1560, hF1561, rfl⟩
  refine At.stn ?_
  have hF1564 := Fr.tr hF1558 hF1561 rfl rfl
  refine At.enter rfl ?_
  refine r_iconst 0 rfl ?_
  refine r_istore_n ([(1, .int 0), (0, .ref 176)]) rfl ?_
  refine Ar.fall 32 rfl ?_
  have z_2258 : (0 : Int32).toInt = 0 := rfl
  refine w_loopI (fun n_ l_ g_ => ∃ x2248 : Int32, n_ = 400 - x2248.toInt ∧ HI g_ ∧ Fr F_X5_read_176 A_X5_read_176 g0 g_ ∧ en_get 0 l_ = some (.ref 176) ∧ en_get 1 l_ = some (.int x2248) ∧ (0 ≤ x2248.toInt ∧ x2248.toInt ≤ 400)) ?_ (400 - 0) ⟨0, by first | rfl | omega, hI1560, hF1564, rfl, rfl, by decide⟩
  rintro n2253 l2252 g2249 ⟨x2248, hm2259, hI2250, hF2251, e2255, e2256, r2257⟩ ih2254
  refine At.enter rfl ?_
  refine r_iload_n e2256 ?_
  refine r_sipush 400 rfl ?_
  refine r_ics 39 rfl (fun c2260 => ?_) (fun c2260 => ?_)
  · have c2260_ : x2248.toInt ≥ 400 := en_i_ge_t c2260
    refine At.enter rfl ?_
    refine r_aload_n e2255 ?_
    obtain ⟨v2261, hv2261⟩ : ∃ v, gI g2249 176 3 = v := ⟨_, rfl⟩
    refine q_getI (Sh.int hI2250.1 kx_176 rfl) v2261 hv2261 ?_
    refine r_iconst 3 rfl ?_
    refine r_ics 78 rfl (fun c2262 => ?_) (fun c2262 => ?_)
    · have c2262_ : v2261.toInt = 3 := en_i_eq_t c2262
      refine At.enter rfl ?_
      refine r_aload_n e2255 ?_
      obtain ⟨v2263, hv2263⟩ : ∃ v, gI g2249 176 2 = v := ⟨_, rfl⟩
      refine q_getI (Sh.int hI2250.1 kx_176 rfl) v2263 hv2263 ?_
      refine r_iconst (-1) rfl ?_
      refine r_ics 90 rfl (fun c2264 => ?_) (fun c2264 => ?_)
      · have c2264_ : v2263.toInt ≠ (-1) := en_i_ne_t c2264
        refine At.enter rfl ?_
        refine r_iconst 0 rfl ?_
        refine Ar.fall 95 rfl ?_
        refine At.enter rfl ?_
        refine r_iretz (by decide) ?_
        exact ⟨_, rfl, hI2250, hF2251, _, rfl, by decide⟩
      · have c2264_ : v2263.toInt = (-1) := en_i_ne_f c2264
        refine At.enter rfl ?_
        refine r_iconst 1 rfl ?_
        refine r_goto ?_
        refine At.enter rfl ?_
        refine r_iretz (by decide) ?_
        exact ⟨_, rfl, hI2250, hF2251, _, rfl, by decide⟩
    · have c2262_ : v2261.toInt ≠ 3 := en_i_eq_f c2262
      refine At.enter rfl ?_
      refine r_aload_n e2255 ?_
      refine q_inlV 82 rfl [.ref 176] [] (Nat.le_of_ble_eq_true rfl) rfl ?_
      refine Ev.mk rfl rfl ⟨Nat.le_of_ble_eq_true rfl, Or.inr (q_rc hI2250.1 kx_176 rfl)⟩ ?_
      show At _ none _ _ (0, [(0, .ref 176)], [], (_, _)) _
      refine At.enter rfl ?_
      refine r_aload_n rfl ?_
      obtain ⟨v2265, hv2265⟩ : ∃ v, gI g2249 176 2 = v := ⟨_, rfl⟩
      refine q_getI (Sh.int hI2250.1 kx_176 rfl) v2265 hv2265 ?_
      refine r_iconst (-1) rfl ?_
      refine r_ics 8 rfl (fun c2266 => ?_) (fun c2266 => ?_)
      · have c2266_ : v2265.toInt ≠ (-1) := en_i_ne_t c2266
        refine At.enter rfl ?_
        refine q_vret ?_
        refine At.enter rfl ?_
        refine r_aload_n e2255 ?_
        refine q_getI (Sh.int hI2250.1 kx_176 rfl) v2265 hv2265 ?_
        refine r_iconst (-1) rfl ?_
        refine r_ics 90 rfl (fun c2267 => ?_) (fun c2267 => ?_)
        · have c2267_ : v2265.toInt ≠ (-1) := en_i_ne_t c2267
          refine At.enter rfl ?_
          refine r_iconst 0 rfl ?_
          refine Ar.fall 95 rfl ?_
          refine At.enter rfl ?_
          refine r_iretz (by decide) ?_
          exact ⟨_, rfl, hI2250, hF2251, _, rfl, by decide⟩
        · have c2267_ : v2265.toInt = (-1) := en_i_ne_f c2267
          refine At.enter rfl ?_
          refine r_iconst 1 rfl ?_
          refine r_goto ?_
          refine At.enter rfl ?_
          refine r_iretz (by decide) ?_
          exact ⟨_, rfl, hI2250, hF2251, _, rfl, by decide⟩
      · have c2266_ : v2265.toInt = (-1) := en_i_ne_f c2266
        refine At.enter rfl ?_
        refine r_aload_n rfl ?_
        refine r_aload_n rfl ?_
        obtain ⟨v2268, hv2268⟩ : ∃ v, gI g2249 176 4 = v := ⟨_, rfl⟩
        have rv2268 := RgF.at hI2250.2.1 (p := 176) (b := 4) rfl
        rw [hv2268] at rv2268
        dsimp only at rv2268
        refine q_getI (Sh.int hI2250.1 kx_176 rfl) v2268 hv2268 ?_
        refine q_putI (Sh.int hI2250.1 kx_176 rfl) rfl ?_
        have hI2269 := HI.wI0 hI2250 kx_176 rfl (p := 176) (b := 2) (v := v2268) rfl
        have hF2270 := Fr.wI (p := 176) (b := 2) (v := v2268) hF2251 rfl
        refine Ar.fall 16 rfl ?_
        refine At.enter rfl ?_
        refine q_vret ?_
        refine At.enter rfl ?_
        refine r_aload_n e2255 ?_
        refine q_getI (Sh.int hI2269.1 kx_176 rfl) v2268 (gI_sI_eq hI2250.1 kx_176 rfl _) ?_
        refine r_iconst (-1) rfl ?_
        refine r_ics 90 rfl (fun c2271 => ?_) (fun c2271 => ?_)
        · have c2271_ : v2268.toInt ≠ (-1) := en_i_ne_t c2271
          refine At.enter rfl ?_
          refine r_iconst 0 rfl ?_
          refine Ar.fall 95 rfl ?_
          refine At.enter rfl ?_
          refine r_iretz (by decide) ?_
          exact ⟨_, rfl, hI2269, hF2270, _, rfl, by decide⟩
        · have c2271_ : v2268.toInt = (-1) := en_i_ne_f c2271
          exfalso; omega
  · have c2260_ : x2248.toInt < 400 := en_i_ge_f c2260
    refine At.enter rfl ?_
    refine r_aload_n e2255 ?_
    obtain ⟨v2272, hv2272⟩ : ∃ v, gI g2249 176 2 = v := ⟨_, rfl⟩
    refine q_getI (Sh.int hI2250.1 kx_176 rfl) v2272 hv2272 ?_
    refine r_iconst (-1) rfl ?_
    refine r_ics 47 rfl (fun c2273 => ?_) (fun c2273 => ?_)
    · have c2273_ : v2272.toInt ≠ (-1) := en_i_ne_t c2273
      refine At.enter rfl ?_
      refine r_aload_n e2255 ?_
      obtain ⟨v2274, hv2274⟩ : ∃ v, gI g2249 176 3 = v := ⟨_, rfl⟩
      refine q_getI (Sh.int hI2250.1 kx_176 rfl) v2274 hv2274 ?_
      refine r_iconst 3 rfl ?_
      refine r_ics 78 rfl (fun c2275 => ?_) (fun c2275 => ?_)
      · have c2275_ : v2274.toInt = 3 := en_i_eq_t c2275
        refine At.enter rfl ?_
        refine r_aload_n e2255 ?_
        refine q_getI (Sh.int hI2250.1 kx_176 rfl) v2272 hv2272 ?_
        refine r_iconst (-1) rfl ?_
        refine r_ics 90 rfl (fun c2276 => ?_) (fun c2276 => ?_)
        · have c2276_ : v2272.toInt ≠ (-1) := en_i_ne_t c2276
          refine At.enter rfl ?_
          refine r_iconst 0 rfl ?_
          refine Ar.fall 95 rfl ?_
          refine At.enter rfl ?_
          refine r_iretz (by decide) ?_
          exact ⟨_, rfl, hI2250, hF2251, _, rfl, by decide⟩
        · have c2276_ : v2272.toInt = (-1) := en_i_ne_f c2276
          refine At.enter rfl ?_
          refine r_iconst 1 rfl ?_
          refine r_goto ?_
          refine At.enter rfl ?_
          refine r_iretz (by decide) ?_
          exact ⟨_, rfl, hI2250, hF2251, _, rfl, by decide⟩
      · have c2275_ : v2274.toInt ≠ 3 := en_i_eq_f c2275
        refine At.enter rfl ?_
        refine r_aload_n e2255 ?_
        refine q_inlV 82 rfl [.ref 176] [] (Nat.le_of_ble_eq_true rfl) rfl ?_
        refine Ev.mk rfl rfl ⟨Nat.le_of_ble_eq_true rfl, Or.inr (q_rc hI2250.1 kx_176 rfl)⟩ ?_
        show At _ none _ _ (0, [(0, .ref 176)], [], (_, _)) _
        refine At.enter rfl ?_
        refine r_aload_n rfl ?_
        refine q_getI (Sh.int hI2250.1 kx_176 rfl) v2272 hv2272 ?_
        refine r_iconst (-1) rfl ?_
        refine r_ics 8 rfl (fun c2277 => ?_) (fun c2277 => ?_)
        · have c2277_ : v2272.toInt ≠ (-1) := en_i_ne_t c2277
          refine At.enter rfl ?_
          refine q_vret ?_
          refine At.enter rfl ?_
          refine r_aload_n e2255 ?_
          refine q_getI (Sh.int hI2250.1 kx_176 rfl) v2272 hv2272 ?_
          refine r_iconst (-1) rfl ?_
          refine r_ics 90 rfl (fun c2278 => ?_) (fun c2278 => ?_)
          · have c2278_ : v2272.toInt ≠ (-1) := en_i_ne_t c2278
            refine At.enter rfl ?_
            refine r_iconst 0 rfl ?_
            refine Ar.fall 95 rfl ?_
            refine At.enter rfl ?_
            refine r_iretz (by decide) ?_
            exact ⟨_, rfl, hI2250, hF2251, _, rfl, by decide⟩
          · have c2278_ : v2272.toInt = (-1) := en_i_ne_f c2278
            refine At.enter rfl ?_
            refine r_iconst 1 rfl ?_
            refine r_goto ?_
            refine At.enter rfl ?_
            refine r_iretz (by decide) ?_
            exact ⟨_, rfl, hI2250, hF2251, _, rfl, by decide⟩
        · have c2277_ : v2272.toInt = (-1) := en_i_ne_f c2277
          refine At.enter rfl ?_
          refine r_aload_n rfl ?_
          refine r_aload_n rfl ?_
          obtain ⟨v2279, hv2279⟩ : ∃ v, gI g2249 176 4 = v := ⟨_, rfl⟩
          have rv2279 := RgF.at hI2250.2.1 (p := 176) (b := 4) rfl
          rw [hv2279] at rv2279
          dsimp only at rv2279
          refine q_getI (Sh.int hI2250.1 kx_176 rfl) v2279 hv2279 ?_
          refine q_putI (Sh.int hI2250.1 kx_176 rfl) rfl ?_
          have hI2280 := HI.wI0 hI2250 kx_176 rfl (p := 176) (b := 2) (v := v2279) rfl
          have hF2281 := Fr.wI (p := 176) (b := 2) (v := v2279) hF2251 rfl
          refine Ar.fall 16 rfl ?_
          refine At.enter rfl ?_
          refine q_vret ?_
          refine At.enter rfl ?_
          refine r_aload_n e2255 ?_
          refine q_getI (Sh.int hI2280.1 kx_176 rfl) v2279 (gI_sI_eq hI2250.1 kx_176 rfl _) ?_
          refine r_iconst (-1) rfl ?_
          refine r_ics 90 rfl (fun c2282 => ?_) (fun c2282 => ?_)
          · have c2282_ : v2279.toInt ≠ (-1) := en_i_ne_t c2282
            refine At.enter rfl ?_
            refine r_iconst 0 rfl ?_
            refine Ar.fall 95 rfl ?_
            refine At.enter rfl ?_
            refine r_iretz (by decide) ?_
            exact ⟨_, rfl, hI2280, hF2281, _, rfl, by decide⟩
          · have c2282_ : v2279.toInt = (-1) := en_i_ne_f c2282
            exfalso; omega
    · have c2273_ : v2272.toInt = (-1) := en_i_ne_f c2273
      refine At.enter rfl ?_
      refine r_aload_n e2255 ?_
      refine r_bipush 59 rfl ?_
      refine r_callV 53 rfl [.ref 176, .int 59] [] (Nat.le_of_ble_eq_true rfl) rfl (T_X5_isSingle_176 _ hI2250 59) ?_
      rintro _ _ ⟨g2283, rfl, hI2284, hF2285, v2286, rfl, hr2287⟩
      refine At.sti ?_
      have hF2288 := Fr.tr hF2251 hF2285 rfl rfl
      refine At.enter rfl ?_
      refine r_ifs 56 rfl (fun c2289 => ?_) (fun c2289 => ?_)
      · have c2289_ : v2286.toInt = 0 := en_k_eq_t c2289
        refine At.enter rfl ?_
        refine r_aload_n e2255 ?_
        obtain ⟨v2290, hv2290⟩ : ∃ v, gI g2249 176 3 = v := ⟨_, rfl⟩
        refine q_getI (Sh.int hI2284.1 kx_176 rfl) v2290 ((hF2285.1 176 3 (by decide)).trans hv2290) ?_
        refine r_iconst 3 rfl ?_
        refine r_ics 78 rfl (fun c2291 => ?_) (fun c2291 => ?_)
        · have c2291_ : v2290.toInt = 3 := en_i_eq_t c2291
          refine At.enter rfl ?_
          refine r_aload_n e2255 ?_
          refine q_getI (Sh.int hI2284.1 kx_176 rfl) v2272 ((hF2285.1 176 2 (by decide)).trans hv2272) ?_
          refine r_iconst (-1) rfl ?_
          refine r_ics 90 rfl (fun c2292 => ?_) (fun c2292 => ?_)
          · have c2292_ : v2272.toInt ≠ (-1) := en_i_ne_t c2292
            exfalso; omega
          · have c2292_ : v2272.toInt = (-1) := en_i_ne_f c2292
            refine At.enter rfl ?_
            refine r_iconst 1 rfl ?_
            refine r_goto ?_
            refine At.enter rfl ?_
            refine r_iretz (by decide) ?_
            exact ⟨_, rfl, hI2284, hF2288, _, rfl, by decide⟩
        · have c2291_ : v2290.toInt ≠ 3 := en_i_eq_f c2291
          refine At.enter rfl ?_
          refine r_aload_n e2255 ?_
          refine q_inlV 82 rfl [.ref 176] [] (Nat.le_of_ble_eq_true rfl) rfl ?_
          refine Ev.mk rfl rfl ⟨Nat.le_of_ble_eq_true rfl, Or.inr (q_rc hI2284.1 kx_176 rfl)⟩ ?_
          show At _ none _ _ (0, [(0, .ref 176)], [], (_, _)) _
          refine At.enter rfl ?_
          refine r_aload_n rfl ?_
          refine q_getI (Sh.int hI2284.1 kx_176 rfl) v2272 ((hF2285.1 176 2 (by decide)).trans hv2272) ?_
          refine r_iconst (-1) rfl ?_
          refine r_ics 8 rfl (fun c2293 => ?_) (fun c2293 => ?_)
          · have c2293_ : v2272.toInt ≠ (-1) := en_i_ne_t c2293
            exfalso; omega
          · have c2293_ : v2272.toInt = (-1) := en_i_ne_f c2293
            refine At.enter rfl ?_
            refine r_aload_n rfl ?_
            refine r_aload_n rfl ?_
            obtain ⟨v2294, hv2294⟩ : ∃ v, gI g2249 176 4 = v := ⟨_, rfl⟩
            have rv2294 := RgF.at hI2250.2.1 (p := 176) (b := 4) rfl
            rw [hv2294] at rv2294
            dsimp only at rv2294
            refine q_getI (Sh.int hI2284.1 kx_176 rfl) v2294 ((hF2285.1 176 4 (by decide)).trans hv2294) ?_
            refine q_putI (Sh.int hI2284.1 kx_176 rfl) rfl ?_
            have hI2295 := HI.wI0 hI2284 kx_176 rfl (p := 176) (b := 2) (v := v2294) rfl
            have hF2296 := Fr.wI (p := 176) (b := 2) (v := v2294) hF2288 rfl
            refine Ar.fall 16 rfl ?_
            refine At.enter rfl ?_
            refine q_vret ?_
            refine At.enter rfl ?_
            refine r_aload_n e2255 ?_
            refine q_getI (Sh.int hI2295.1 kx_176 rfl) v2294 (gI_sI_eq hI2284.1 kx_176 rfl _) ?_
            refine r_iconst (-1) rfl ?_
            refine r_ics 90 rfl (fun c2297 => ?_) (fun c2297 => ?_)
            · have c2297_ : v2294.toInt ≠ (-1) := en_i_ne_t c2297
              refine At.enter rfl ?_
              refine r_iconst 0 rfl ?_
              refine Ar.fall 95 rfl ?_
              refine At.enter rfl ?_
              refine r_iretz (by decide) ?_
              exact ⟨_, rfl, hI2295, hF2296, _, rfl, by decide⟩
            · have c2297_ : v2294.toInt = (-1) := en_i_ne_f c2297
              exfalso; omega
      · have c2289_ : v2286.toInt ≠ 0 := en_k_eq_f c2289
        refine At.enter rfl ?_
        refine r_aload_n e2255 ?_
        refine r_callV 60 rfl [.ref 176] [] (Nat.le_of_ble_eq_true rfl) rfl (T_X5_step_176 _ hI2284) ?_
        rintro _ _ ⟨g2298, rfl, hI2299, hF2300, rfl⟩
        refine At.stn ?_
        have hF2303 := Fr.tr hF2288 hF2300 rfl rfl
        refine At.enter rfl ?_
        refine r_aload_n e2255 ?_
        refine r_callV 64 rfl [.ref 176] [] (Nat.le_of_ble_eq_true rfl) rfl (T_X5_readClause_176 _ hI2299) ?_
        rintro _ _ ⟨g2304, rfl, hI2305, hF2306, rfl⟩
        refine At.stn ?_
        have hF2309 := Fr.tr hF2303 hF2306 rfl rfl
        refine At.enter rfl ?_
        refine q_iinc e2256 (x2248.toInt + 1) rfl (by omega) (fun v2310 hv2310 => ?_)
        refine r_goto ?_
        exact ih2254 (400 - v2310.toInt) _ _ ⟨v2310, by first | rfl | omega, hI2305, hF2309, (w_p1 (by decide) (Or.inr rfl) e2255), (w_e1 _ _ _), by omega⟩ ⟨by omega, by omega⟩
