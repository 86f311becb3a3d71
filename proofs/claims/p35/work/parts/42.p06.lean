def F_X11_behindSum_231 : List (Nat × Nat) := [(231, 9), (231, 10), (231, 11), (231, 12), (231, 13), (231, 14), (231, 17), (231, 23), (231, 24)]
def A_X11_behindSum_231 : List Nat := [238, 239, 240, 241]
set_option maxRecDepth 100000 in
set_option maxHeartbeats 4000000 in
theorem T_X11_behindSum_231 (d : Nat) {N : Nat} {g0 : List en_E} (hI0 : HI g0) (a1 : Int32) (h_a1 : 0 ≤ a1.toInt ∧ a1.toInt ≤ 1) (b : Int) (o0 : Int → Int) (a0 : Int → Int) (h1 : ((gI g0 231 9).toInt ≤ (gI g0 231 10).toInt ∧ (gI g0 231 10).toInt ≤ (gI g0 231 8).toInt ∧ 0 ≤ (gI g0 231 11).toInt ∧ (gI g0 231 11).toInt ≤ 3 * ((gI g0 231 10).toInt - (gI g0 231 9).toInt))) (h2 : (gI g0 231 14).toInt = 0) (h3 : (gI g0 231 17).toInt + (gI g0 231 23).toInt ≤ (gI g0 231 9).toInt) (hW : W26 g0) (hP : PT g0 b 3 o0 a0) : Ev (d + 4) 206 [.ref 231, .int a1] (g0, N) (fun w h' => ∃ g', h' = (g', N) ∧ HI g' ∧ Fr F_X11_behindSum_231 A_X11_behindSum_231 g0 g' ∧ ∃ r : Int32, w = some (.int r) ∧ (1 ≤ r.toInt ∧ r.toInt ≤ 4) ∧ ((gI g' 231 9).toInt ≤ (gI g' 231 10).toInt ∧ (gI g' 231 10).toInt ≤ (gI g' 231 8).toInt ∧ 0 ≤ (gI g' 231 11).toInt ∧ (gI g' 231 11).toInt ≤ 3 * ((gI g' 231 10).toInt - (gI g' 231 9).toInt) ∧ W26 g' ∧ (gI g' 231 17).toInt + (gI g' 231 23).toInt ≤ 400 ∧ (gI g0 231 9).toInt ≤ (gI g' 231 9).toInt ∧ TURN g' b r.toInt o0 a0 ∧ PRG (gI g' 231 14).toInt (gI g0 231 9).toInt (gI g' 231 9).toInt r.toInt 2)) := by
  have hF0 : Fr F_X11_behindSum_231 A_X11_behindSum_231 g0 g0 := Fr.rf
  obtain ⟨v1, hv1⟩ : ∃ v, gI g0 231 8 = v := ⟨_, rfl⟩
  have rv1 := RgF.at hI0.2.1 (p := 231) (b := 8) rfl
  rw [hv1] at rv1
  dsimp only at rv1
  have tv1 := congrArg Int32.toInt hv1
  obtain ⟨v2, hv2⟩ : ∃ v, gI g0 231 9 = v := ⟨_, rfl⟩
  have rv2 := RgF.at hI0.2.1 (p := 231) (b := 9) rfl
  rw [hv2] at rv2
  dsimp only at rv2
  have tv2 := congrArg Int32.toInt hv2
  obtain ⟨v3, hv3⟩ : ∃ v, gI g0 231 10 = v := ⟨_, rfl⟩
  have rv3 := RgF.at hI0.2.1 (p := 231) (b := 10) rfl
  rw [hv3] at rv3
  dsimp only at rv3
  have tv3 := congrArg Int32.toInt hv3
  obtain ⟨v4, hv4⟩ : ∃ v, gI g0 231 11 = v := ⟨_, rfl⟩
  have tv4 := congrArg Int32.toInt hv4
  obtain ⟨v5, hv5⟩ : ∃ v, gJ g0 231 12 = v := ⟨_, rfl⟩
  have tv5 := congrArg Int64.toInt hv5
  obtain ⟨v6, hv6⟩ : ∃ v, gI g0 231 14 = v := ⟨_, rfl⟩
  have tv6 := congrArg Int32.toInt hv6
  obtain ⟨v7, hv7⟩ : ∃ v, gI g0 231 17 = v := ⟨_, rfl⟩
  have rv7 := RgF.at hI0.2.1 (p := 231) (b := 17) rfl
  rw [hv7] at rv7
  dsimp only at rv7
  have tv7 := congrArg Int32.toInt hv7
  obtain ⟨v8, hv8⟩ : ∃ v, gI g0 231 23 = v := ⟨_, rfl⟩
  have rv8 := RgF.at hI0.2.1 (p := 231) (b := 23) rfl
  rw [hv8] at rv8
  dsimp only at rv8
  have tv8 := congrArg Int32.toInt hv8
  refine Ev.mk rfl rfl ⟨Nat.le_of_ble_eq_true rfl, Or.inr (q_rc hI0.1 kx_231 rfl)⟩ ?_
  show At _ none _ _ (0, [(0, .ref 231), (1, .int a1)], [], (_, _)) _
  refine At.enter rfl ?_
  refine r_aload_n rfl ?_
  refine r_bipush 43 rfl ?_
  have x2267 := HI.eqI hI0 (p := 231) (b := 11) (hv4)
  have zv2268 : (43 : Int32).toInt = 43 := rfl
  refine r_callV 6 rfl [.ref 231, .int 43] [] (Nat.le_of_ble_eq_true rfl) rfl (T_X11_isSign_231 _ hI0 43 (by omega)) ?_
  rintro _ _ ⟨g2269, rfl, hI2270, hF2271, v2272, rfl, hr2273⟩
  refine At.sti ?_
  have hF2274 := Fr.tr hF0 hF2271 rfl rfl
  have zv2275 : (43 : Int32).toInt = 43 := rfl
  have x2276 := HI.eqI hI0 (p := 231) (b := 11) (hv4)
  have x2277 := HI.eqI hI2270 (p := 231) (b := 11) (((hF2271.1 231 11 (by decide)).trans hv4))
  refine At.enter rfl ?_
  refine r_ifs 9 rfl (fun c2278 => ?_) (fun c2278 => ?_)
  · have c2278_ : v2272.toInt = 0 := en_k_eq_t c2278
    refine At.enter rfl ?_
    refine r_aload_n rfl ?_
    refine r_bipush 45 rfl ?_
    have x2279 := HI.eqI hI2270 (p := 231) (b := 11) (((hF2271.1 231 11 (by decide)).trans hv4))
    have zv2280 : (45 : Int32).toInt = 45 := rfl
    refine r_callV 20 rfl [.ref 231, .int 45] [] (Nat.le_of_ble_eq_true rfl) rfl (T_X11_isSign_231 _ hI2270 45 (by omega)) ?_
    rintro _ _ ⟨g2281, rfl, hI2282, hF2283, v2284, rfl, hr2285⟩
    refine At.sti ?_
    have hF2286 := Fr.tr hF2274 hF2283 rfl rfl
    have zv2287 : (45 : Int32).toInt = 45 := rfl
    have x2288 := HI.eqI hI2270 (p := 231) (b := 11) (((hF2271.1 231 11 (by decide)).trans hv4))
    have x2289 := HI.eqI hI2282 (p := 231) (b := 11) ((((hF2283.1 231 11 (by decide)).trans (hF2271.1 231 11 (by decide))).trans hv4))
    refine At.enter rfl ?_
    refine r_ifs 23 rfl (fun c2290 => ?_) (fun c2290 => ?_)
    · have c2290_ : v2284.toInt = 0 := en_k_eq_t c2290
      refine At.enter rfl ?_
      refine r_aload_n rfl ?_
      refine r_bipush 42 rfl ?_
      have x2291 := HI.eqI hI2282 (p := 231) (b := 11) ((((hF2283.1 231 11 (by decide)).trans (hF2271.1 231 11 (by decide))).trans hv4))
      have zv2292 : (42 : Int32).toInt = 42 := rfl
      refine r_callV 34 rfl [.ref 231, .int 42] [] (Nat.le_of_ble_eq_true rfl) rfl (T_X11_isSign_231 _ hI2282 42 (by omega)) ?_
      rintro _ _ ⟨g2293, rfl, hI2294, hF2295, v2296, rfl, hr2297⟩
      refine At.sti ?_
      have hF2298 := Fr.tr hF2286 hF2295 rfl rfl
      have zv2299 : (42 : Int32).toInt = 42 := rfl
      have x2300 := HI.eqI hI2282 (p := 231) (b := 11) ((((hF2283.1 231 11 (by decide)).trans (hF2271.1 231 11 (by decide))).trans hv4))
      have x2301 := HI.eqI hI2294 (p := 231) (b := 11) ((((hF2295.1 231 11 (by decide)).trans ((hF2283.1 231 11 (by decide)).trans (hF2271.1 231 11 (by decide)))).trans hv4))
      refine At.enter rfl ?_
      refine r_ifs 37 rfl (fun c2302 => ?_) (fun c2302 => ?_)
      · have c2302_ : v2296.toInt = 0 := en_k_eq_t c2302
        refine At.enter rfl ?_
        refine r_aload_n rfl ?_
        refine r_bipush 47 rfl ?_
        have x2303 := HI.eqI hI2294 (p := 231) (b := 11) ((((hF2295.1 231 11 (by decide)).trans ((hF2283.1 231 11 (by decide)).trans (hF2271.1 231 11 (by decide)))).trans hv4))
        have zv2304 : (47 : Int32).toInt = 47 := rfl
        refine r_callV 48 rfl [.ref 231, .int 47] [] (Nat.le_of_ble_eq_true rfl) rfl (T_X11_isSign_231 _ hI2294 47 (by omega)) ?_
        rintro _ _ ⟨g2305, rfl, hI2306, hF2307, v2308, rfl, hr2309⟩
        refine At.sti ?_
        have hF2310 := Fr.tr hF2298 hF2307 rfl rfl
        have zv2311 : (47 : Int32).toInt = 47 := rfl
        have x2312 := HI.eqI hI2294 (p := 231) (b := 11) ((((hF2295.1 231 11 (by decide)).trans ((hF2283.1 231 11 (by decide)).trans (hF2271.1 231 11 (by decide)))).trans hv4))
        have x2313 := HI.eqI hI2306 (p := 231) (b := 11) ((((hF2307.1 231 11 (by decide)).trans ((hF2295.1 231 11 (by decide)).trans ((hF2283.1 231 11 (by decide)).trans (hF2271.1 231 11 (by decide))))).trans hv4))
        refine At.enter rfl ?_
        refine r_ifs 51 rfl (fun c2314 => ?_) (fun c2314 => ?_)
        · have c2314_ : v2308.toInt = 0 := en_k_eq_t c2314
          refine At.enter rfl ?_
          refine r_iconst (-1) rfl ?_
          refine Ar.fall 57 rfl ?_
          refine At.enter rfl ?_
          refine r_istore_n ([(2, .int (-1)), (0, .ref 231), (1, .int a1)]) rfl ?_
          refine r_iload_n rfl ?_
          refine r_iconst (-1) rfl ?_
          refine r_ict (by decide) ?_
          refine At.enter rfl ?_
          refine r_aload_n rfl ?_
          refine r_callV 87 rfl [.ref 231] [] (Nat.le_of_ble_eq_true rfl) rfl (T_X11_inner_231 _ hI2306) ?_
          rintro _ _ ⟨g2315, rfl, hI2316, hF2317, v2318, rfl, hr2319⟩
          refine At.sti ?_
          have hF2320 := Fr.tr hF2310 hF2317 rfl rfl
          have inn2321 := INN.cong hr2319.2 hI2316 (hF2317.2.1 240 (by decide)) (hF2317.1 231 23 (by decide))
          refine At.enter rfl ?_
          refine r_istore_n ([(3, .int v2318), (2, .int (-1)), (0, .ref 231), (1, .int a1)]) rfl ?_
          refine r_iload_n rfl ?_
          refine r_bipush 31 rfl ?_
          refine r_ics 94 rfl (fun c2322 => ?_) (fun c2322 => ?_)
          · have c2322_ : v2318.toInt ≠ 31 := en_i_ne_t c2322
            refine At.enter rfl ?_
            refine r_iload_n rfl ?_
            refine r_iconst (-1) rfl ?_
            refine r_ics 143 rfl (fun c2323 => ?_) (fun c2323 => ?_)
            · have c2323_ : v2318.toInt ≠ (-1) := en_i_ne_t c2323
              refine At.enter rfl ?_
              refine r_aload_n rfl ?_
              refine r_callV 153 rfl [.ref 231] [] (Nat.le_of_ble_eq_true rfl) rfl (T_X11_isCompared_231 _ hI2316) ?_
              rintro _ _ ⟨g2324, rfl, hI2325, hF2326, v2327, rfl, hr2328⟩
              refine At.sti ?_
              have hF2329 := Fr.tr hF2320 hF2326 rfl rfl
              refine At.enter rfl ?_
              refine r_ifs 156 rfl (fun c2330 => ?_) (fun c2330 => ?_)
              · have c2330_ : v2327.toInt = 0 := en_k_eq_t c2330
                refine At.enter rfl ?_
                refine r_aload_n rfl ?_
                refine r_bipush 60 rfl ?_
                have x2331 := HI.eqI hI2325 (p := 231) (b := 11) ((((hF2326.1 231 11 (by decide)).trans ((hF2317.1 231 11 (by decide)).trans ((hF2307.1 231 11 (by decide)).trans ((hF2295.1 231 11 (by decide)).trans ((hF2283.1 231 11 (by decide)).trans (hF2271.1 231 11 (by decide))))))).trans hv4))
                have zv2332 : (60 : Int32).toInt = 60 := rfl
                refine r_callV 164 rfl [.ref 231, .int 60] [] (Nat.le_of_ble_eq_true rfl) rfl (T_X11_isSign_231 _ hI2325 60 (by omega)) ?_
                rintro _ _ ⟨g2333, rfl, hI2334, hF2335, v2336, rfl, hr2337⟩
                refine At.sti ?_
                have hF2338 := Fr.tr hF2329 hF2335 rfl rfl
                have zv2339 : (60 : Int32).toInt = 60 := rfl
                have x2340 := HI.eqI hI2325 (p := 231) (b := 11) ((((hF2326.1 231 11 (by decide)).trans ((hF2317.1 231 11 (by decide)).trans ((hF2307.1 231 11 (by decide)).trans ((hF2295.1 231 11 (by decide)).trans ((hF2283.1 231 11 (by decide)).trans (hF2271.1 231 11 (by decide))))))).trans hv4))
                have x2341 := HI.eqI hI2334 (p := 231) (b := 11) ((((hF2335.1 231 11 (by decide)).trans ((hF2326.1 231 11 (by decide)).trans ((hF2317.1 231 11 (by decide)).trans ((hF2307.1 231 11 (by decide)).trans ((hF2295.1 231 11 (by decide)).trans ((hF2283.1 231 11 (by decide)).trans (hF2271.1 231 11 (by decide)))))))).trans hv4))
                refine At.enter rfl ?_
                refine r_ifs 167 rfl (fun c2342 => ?_) (fun c2342 => ?_)
                · have c2342_ : v2336.toInt = 0 := en_k_eq_t c2342
                  refine At.enter rfl ?_
                  refine r_aload_n rfl ?_
                  refine r_bipush 62 rfl ?_
                  have x2343 := HI.eqI hI2334 (p := 231) (b := 11) ((((hF2335.1 231 11 (by decide)).trans ((hF2326.1 231 11 (by decide)).trans ((hF2317.1 231 11 (by decide)).trans ((hF2307.1 231 11 (by decide)).trans ((hF2295.1 231 11 (by decide)).trans ((hF2283.1 231 11 (by decide)).trans (hF2271.1 231 11 (by decide)))))))).trans hv4))
                  have zv2344 : (62 : Int32).toInt = 62 := rfl
                  refine r_callV 178 rfl [.ref 231, .int 62] [] (Nat.le_of_ble_eq_true rfl) rfl (T_X11_isSign_231 _ hI2334 62 (by omega)) ?_
                  rintro _ _ ⟨g2345, rfl, hI2346, hF2347, v2348, rfl, hr2349⟩
                  refine At.sti ?_
                  have hF2350 := Fr.tr hF2338 hF2347 rfl rfl
                  have zv2351 : (62 : Int32).toInt = 62 := rfl
                  have x2352 := HI.eqI hI2334 (p := 231) (b := 11) ((((hF2335.1 231 11 (by decide)).trans ((hF2326.1 231 11 (by decide)).trans ((hF2317.1 231 11 (by decide)).trans ((hF2307.1 231 11 (by decide)).trans ((hF2295.1 231 11 (by decide)).trans ((hF2283.1 231 11 (by decide)).trans (hF2271.1 231 11 (by decide)))))))).trans hv4))
                  have x2353 := HI.eqI hI2346 (p := 231) (b := 11) ((((hF2347.1 231 11 (by decide)).trans ((hF2335.1 231 11 (by decide)).trans ((hF2326.1 231 11 (by decide)).trans ((hF2317.1 231 11 (by decide)).trans ((hF2307.1 231 11 (by decide)).trans ((hF2295.1 231 11 (by decide)).trans ((hF2283.1 231 11 (by decide)).trans (hF2271.1 231 11 (by decide))))))))).trans hv4))
                  refine At.enter rfl ?_
                  refine r_ifs 181 rfl (fun c2354 => ?_) (fun c2354 => ?_)
                  · have c2354_ : v2348.toInt = 0 := en_k_eq_t c2354
                    refine At.enter rfl ?_
                    refine r_bipush 26 rfl ?_
                    refine Ar.fall 188 rfl ?_
                    refine At.enter rfl ?_
                    refine r_istore_n ([(2, .int 26), (3, .int v2318), (0, .ref 231), (1, .int a1)]) rfl ?_
                    refine r_aload_n rfl ?_
                    refine r_iload_n rfl ?_
                    refine r_bipush 26 rfl ?_
                    refine r_icf 196 rfl (by decide) ?_
                    refine At.enter rfl ?_
                    refine r_aload_n rfl ?_
                    refine r_bipush 61 rfl ?_
                    have x2355 := HI.eqI hI2346 (p := 231) (b := 11) ((((hF2347.1 231 11 (by decide)).trans ((hF2335.1 231 11 (by decide)).trans ((hF2326.1 231 11 (by decide)).trans ((hF2317.1 231 11 (by decide)).trans ((hF2307.1 231 11 (by decide)).trans ((hF2295.1 231 11 (by decide)).trans ((hF2283.1 231 11 (by decide)).trans (hF2271.1 231 11 (by decide))))))))).trans hv4))
                    have zv2356 : (61 : Int32).toInt = 61 := rfl
                    refine r_callV 202 rfl [.ref 231, .int 61] [.ref 231] (Nat.le_of_ble_eq_true rfl) rfl (T_X11_isSign_231 _ hI2346 61 (by omega)) ?_
                    rintro _ _ ⟨g2357, rfl, hI2358, hF2359, v2360, rfl, hr2361⟩
                    refine At.sti ?_
                    have hF2362 := Fr.tr hF2350 hF2359 rfl rfl
                    have zv2363 : (61 : Int32).toInt = 61 := rfl
                    have x2364 := HI.eqI hI2346 (p := 231) (b := 11) ((((hF2347.1 231 11 (by decide)).trans ((hF2335.1 231 11 (by decide)).trans ((hF2326.1 231 11 (by decide)).trans ((hF2317.1 231 11 (by decide)).trans ((hF2307.1 231 11 (by decide)).trans ((hF2295.1 231 11 (by decide)).trans ((hF2283.1 231 11 (by decide)).trans (hF2271.1 231 11 (by decide))))))))).trans hv4))
                    have x2365 := HI.eqI hI2358 (p := 231) (b := 11) ((((hF2359.1 231 11 (by decide)).trans ((hF2347.1 231 11 (by decide)).trans ((hF2335.1 231 11 (by decide)).trans ((hF2326.1 231 11 (by decide)).trans ((hF2317.1 231 11 (by decide)).trans ((hF2307.1 231 11 (by decide)).trans ((hF2295.1 231 11 (by decide)).trans ((hF2283.1 231 11 (by decide)).trans (hF2271.1 231 11 (by decide)))))))))).trans hv4))
                    refine At.enter rfl ?_
                    refine r_ifs 205 rfl (fun c2366 => ?_) (fun c2366 => ?_)
                    · have c2366_ : v2360.toInt = 0 := en_k_eq_t c2366
                      refine At.enter rfl ?_
                      refine r_iconst 0 rfl ?_
                      refine Ar.fall 210 rfl ?_
                      refine At.enter rfl ?_
                      have x2367 := HI.eqI hI2358 (p := 231) (b := 8) ((((hF2359.1 231 8 (by decide)).trans ((hF2347.1 231 8 (by decide)).trans ((hF2335.1 231 8 (by decide)).trans ((hF2326.1 231 8 (by decide)).trans ((hF2317.1 231 8 (by decide)).trans ((hF2307.1 231 8 (by decide)).trans ((hF2295.1 231 8 (by decide)).trans ((hF2283.1 231 8 (by decide)).trans (hF2271.1 231 8 (by decide)))))))))).trans hv1))
                      have x2368 := HI.eqI hI2358 (p := 231) (b := 9) ((((hF2359.1 231 9 (by decide)).trans ((hF2347.1 231 9 (by decide)).trans ((hF2335.1 231 9 (by decide)).trans ((hF2326.1 231 9 (by decide)).trans ((hF2317.1 231 9 (by decide)).trans ((hF2307.1 231 9 (by decide)).trans ((hF2295.1 231 9 (by decide)).trans ((hF2283.1 231 9 (by decide)).trans (hF2271.1 231 9 (by decide)))))))))).trans hv2))
                      have x2369 := HI.eqI hI2358 (p := 231) (b := 10) ((((hF2359.1 231 10 (by decide)).trans ((hF2347.1 231 10 (by decide)).trans ((hF2335.1 231 10 (by decide)).trans ((hF2326.1 231 10 (by decide)).trans ((hF2317.1 231 10 (by decide)).trans ((hF2307.1 231 10 (by decide)).trans ((hF2295.1 231 10 (by decide)).trans ((hF2283.1 231 10 (by decide)).trans (hF2271.1 231 10 (by decide)))))))))).trans hv3))
                      have x2370 := HI.eqI hI2358 (p := 231) (b := 11) ((((hF2359.1 231 11 (by decide)).trans ((hF2347.1 231 11 (by decide)).trans ((hF2335.1 231 11 (by decide)).trans ((hF2326.1 231 11 (by decide)).trans ((hF2317.1 231 11 (by decide)).trans ((hF2307.1 231 11 (by decide)).trans ((hF2295.1 231 11 (by decide)).trans ((hF2283.1 231 11 (by decide)).trans (hF2271.1 231 11 (by decide)))))))))).trans hv4))
                      have w262371 := W26.cong hW hI2358 (((hF2359.1 231 9 (by decide)).trans ((hF2347.1 231 9 (by decide)).trans ((hF2335.1 231 9 (by decide)).trans ((hF2326.1 231 9 (by decide)).trans ((hF2317.1 231 9 (by decide)).trans ((hF2307.1 231 9 (by decide)).trans ((hF2295.1 231 9 (by decide)).trans ((hF2283.1 231 9 (by decide)).trans (hF2271.1 231 9 (by decide))))))))))) (((hF2359.1 231 10 (by decide)).trans ((hF2347.1 231 10 (by decide)).trans ((hF2335.1 231 10 (by decide)).trans ((hF2326.1 231 10 (by decide)).trans ((hF2317.1 231 10 (by decide)).trans ((hF2307.1 231 10 (by decide)).trans ((hF2295.1 231 10 (by decide)).trans ((hF2283.1 231 10 (by decide)).trans (hF2271.1 231 10 (by decide))))))))))) (((hF2359.1 231 11 (by decide)).trans ((hF2347.1 231 11 (by decide)).trans ((hF2335.1 231 11 (by decide)).trans ((hF2326.1 231 11 (by decide)).trans ((hF2317.1 231 11 (by decide)).trans ((hF2307.1 231 11 (by decide)).trans ((hF2295.1 231 11 (by decide)).trans ((hF2283.1 231 11 (by decide)).trans (hF2271.1 231 11 (by decide))))))))))) (((hF2359.2.2 231 12 (by decide)).trans ((hF2347.2.2 231 12 (by decide)).trans ((hF2335.2.2 231 12 (by decide)).trans ((hF2326.2.2 231 12 (by decide)).trans ((hF2317.2.2 231 12 (by decide)).trans ((hF2307.2.2 231 12 (by decide)).trans ((hF2295.2.2 231 12 (by decide)).trans ((hF2283.2.2 231 12 (by decide)).trans (hF2271.2.2 231 12 (by decide)))))))))))
                      have zv2372 : (0 : Int32).toInt = 0 := rfl
                      refine r_callV 213 rfl [.ref 231, .int 0] [] (Nat.le_of_ble_eq_true rfl) rfl (T_X11_must_231 _ hI2358 0 (by decide) (by refine ⟨?_, ?_, ?_, ?_⟩ <;> omega) w262371) ?_
                      rintro _ _ ⟨g2373, rfl, hI2374, hF2375, rfl, hr2377⟩
                      refine At.stn ?_
                      have hF2378 := Fr.tr hF2362 hF2375 rfl rfl
                      have zv2379 : (0 : Int32).toInt = 0 := rfl
                      have x2380 := HI.eqI hI2358 (p := 231) (b := 8) ((((hF2359.1 231 8 (by decide)).trans ((hF2347.1 231 8 (by decide)).trans ((hF2335.1 231 8 (by decide)).trans ((hF2326.1 231 8 (by decide)).trans ((hF2317.1 231 8 (by decide)).trans ((hF2307.1 231 8 (by decide)).trans ((hF2295.1 231 8 (by decide)).trans ((hF2283.1 231 8 (by decide)).trans (hF2271.1 231 8 (by decide)))))))))).trans hv1))
                      have x2381 := HI.eqI hI2358 (p := 231) (b := 9) ((((hF2359.1 231 9 (by decide)).trans ((hF2347.1 231 9 (by decide)).trans ((hF2335.1 231 9 (by decide)).trans ((hF2326.1 231 9 (by decide)).trans ((hF2317.1 231 9 (by decide)).trans ((hF2307.1 231 9 (by decide)).trans ((hF2295.1 231 9 (by decide)).trans ((hF2283.1 231 9 (by decide)).trans (hF2271.1 231 9 (by decide)))))))))).trans hv2))
                      have x2382 := HI.eqI hI2358 (p := 231) (b := 10) ((((hF2359.1 231 10 (by decide)).trans ((hF2347.1 231 10 (by decide)).trans ((hF2335.1 231 10 (by decide)).trans ((hF2326.1 231 10 (by decide)).trans ((hF2317.1 231 10 (by decide)).trans ((hF2307.1 231 10 (by decide)).trans ((hF2295.1 231 10 (by decide)).trans ((hF2283.1 231 10 (by decide)).trans (hF2271.1 231 10 (by decide)))))))))).trans hv3))
                      have x2383 := HI.eqI hI2358 (p := 231) (b := 11) ((((hF2359.1 231 11 (by decide)).trans ((hF2347.1 231 11 (by decide)).trans ((hF2335.1 231 11 (by decide)).trans ((hF2326.1 231 11 (by decide)).trans ((hF2317.1 231 11 (by decide)).trans ((hF2307.1 231 11 (by decide)).trans ((hF2295.1 231 11 (by decide)).trans ((hF2283.1 231 11 (by decide)).trans (hF2271.1 231 11 (by decide)))))))))).trans hv4))
                      have x2384 := HI.eqI hI2358 (p := 231) (b := 14) ((((hF2359.1 231 14 (by decide)).trans ((hF2347.1 231 14 (by decide)).trans ((hF2335.1 231 14 (by decide)).trans ((hF2326.1 231 14 (by decide)).trans ((hF2317.1 231 14 (by decide)).trans ((hF2307.1 231 14 (by decide)).trans ((hF2295.1 231 14 (by decide)).trans ((hF2283.1 231 14 (by decide)).trans (hF2271.1 231 14 (by decide)))))))))).trans hv6))
                      have x2385 := HI.eqI hI2374 (p := 231) (b := 8) ((((hF2375.1 231 8 (by decide)).trans ((hF2359.1 231 8 (by decide)).trans ((hF2347.1 231 8 (by decide)).trans ((hF2335.1 231 8 (by decide)).trans ((hF2326.1 231 8 (by decide)).trans ((hF2317.1 231 8 (by decide)).trans ((hF2307.1 231 8 (by decide)).trans ((hF2295.1 231 8 (by decide)).trans ((hF2283.1 231 8 (by decide)).trans (hF2271.1 231 8 (by decide))))))))))).trans hv1))
                      obtain ⟨v2386, hv2386⟩ : ∃ v, gI g2373 231 9 = v := ⟨_, rfl⟩
                      have rv2386 := RgF.at hI2374.2.1 (p := 231) (b := 9) rfl
                      rw [hv2386] at rv2386
                      dsimp only at rv2386
                      have tv2386 := congrArg Int32.toInt hv2386
                      have x2387 := HI.eqI hI2374 (p := 231) (b := 9) (hv2386)
                      obtain ⟨v2388, hv2388⟩ : ∃ v, gI g2373 231 10 = v := ⟨_, rfl⟩
                      have rv2388 := RgF.at hI2374.2.1 (p := 231) (b := 10) rfl
                      rw [hv2388] at rv2388
                      dsimp only at rv2388
                      have tv2388 := congrArg Int32.toInt hv2388
                      have x2389 := HI.eqI hI2374 (p := 231) (b := 10) (hv2388)
                      obtain ⟨v2390, hv2390⟩ : ∃ v, gI g2373 231 11 = v := ⟨_, rfl⟩
                      have tv2390 := congrArg Int32.toInt hv2390
                      have x2391 := HI.eqI hI2374 (p := 231) (b := 11) (hv2390)
                      obtain ⟨v2392, hv2392⟩ : ∃ v, gI g2373 231 14 = v := ⟨_, rfl⟩
                      have tv2392 := congrArg Int32.toInt hv2392
                      have x2393 := HI.eqI hI2374 (p := 231) (b := 14) (hv2392)
                      obtain ⟨c2394, c2395, c2396, c2397, c2398, c2399, c2400⟩ := hr2377
                      refine At.enter rfl ?_
                      refine r_aload_n rfl ?_
                      refine q_getI (Sh.int hI2374.1 kx_231 rfl) v2392 hv2392 ?_
                      refine r_ifs 220 rfl (fun c2401 => ?_) (fun c2401 => ?_)
                      · have c2401_ : v2392.toInt ≠ 0 := en_k_ne_t c2401
                        clear c2400
                        refine At.enter rfl ?_
                        refine r_iconst 1 rfl ?_
                        refine r_ireti ?_
                        have x2402 := HI.eqI hI2374 (p := 231) (b := 8) ((((hF2375.1 231 8 (by decide)).trans ((hF2359.1 231 8 (by decide)).trans ((hF2347.1 231 8 (by decide)).trans ((hF2335.1 231 8 (by decide)).trans ((hF2326.1 231 8 (by decide)).trans ((hF2317.1 231 8 (by decide)).trans ((hF2307.1 231 8 (by decide)).trans ((hF2295.1 231 8 (by decide)).trans ((hF2283.1 231 8 (by decide)).trans (hF2271.1 231 8 (by decide))))))))))).trans hv1))
                        have x2403 := HI.eqI hI2374 (p := 231) (b := 9) (hv2386)
                        have x2404 := HI.eqI hI2374 (p := 231) (b := 10) (hv2388)
                        have x2405 := HI.eqI hI2374 (p := 231) (b := 11) (hv2390)
                        obtain ⟨v2406, hv2406⟩ : ∃ v, gJ g2373 231 12 = v := ⟨_, rfl⟩
                        have x2407 := HI.eqJ hI2374 (b := 12) (hv2406)
                        have x2408 := HI.eqI hI2374 (p := 231) (b := 14) (hv2392)
                        have x2409 := HI.eqI hI2374 (p := 231) (b := 17) ((((hF2375.1 231 17 (by decide)).trans ((hF2359.1 231 17 (by decide)).trans ((hF2347.1 231 17 (by decide)).trans ((hF2335.1 231 17 (by decide)).trans ((hF2326.1 231 17 (by decide)).trans ((hF2317.1 231 17 (by decide)).trans ((hF2307.1 231 17 (by decide)).trans ((hF2295.1 231 17 (by decide)).trans ((hF2283.1 231 17 (by decide)).trans (hF2271.1 231 17 (by decide))))))))))).trans hv7))
                        have x2410 := HI.eqI hI2374 (p := 231) (b := 23) ((((hF2375.1 231 23 (by decide)).trans ((hF2359.1 231 23 (by decide)).trans ((hF2347.1 231 23 (by decide)).trans ((hF2335.1 231 23 (by decide)).trans ((hF2326.1 231 23 (by decide)).trans ((hF2317.1 231 23 (by decide)).trans ((hF2307.1 231 23 (by decide)).trans ((hF2295.1 231 23 (by decide)).trans ((hF2283.1 231 23 (by decide)).trans (hF2271.1 231 23 (by decide))))))))))).trans hv8))
                        have x2411 := HI.eqI hI0 (p := 231) (b := 9) (hv2)
                        have zv2412 : (1 : Int32).toInt = 1 := rfl
                        exact ⟨_, rfl, hI2374, hF2378, _, rfl, by decide, ⟨by omega, by omega, by omega, by omega, c2399, by omega, by omega, (fun hbad => ⟨by omega, (PT.mk (fun h => False.elim (by omega)) (fun h => False.elim (by omega)) (fun h h9 => False.elim (by omega)) (fun h => False.elim (by omega)))⟩), (fun hbad => by omega)⟩⟩
                      · have c2401_ : v2392.toInt = 0 := en_k_ne_f c2401
                        obtain ⟨i2413, i2414, i2415⟩ := c2400 (by omega)
                        refine At.enter rfl ?_
                        refine r_aload_n rfl ?_
                        refine r_iconst 5 rfl ?_
                        have x2416 := HI.eqI hI2374 (p := 231) (b := 17) ((((hF2375.1 231 17 (by decide)).trans ((hF2359.1 231 17 (by decide)).trans ((hF2347.1 231 17 (by decide)).trans ((hF2335.1 231 17 (by decide)).trans ((hF2326.1 231 17 (by decide)).trans ((hF2317.1 231 17 (by decide)).trans ((hF2307.1 231 17 (by decide)).trans ((hF2295.1 231 17 (by decide)).trans ((hF2283.1 231 17 (by decide)).trans (hF2271.1 231 17 (by decide))))))))))).trans hv7))
                        have x2417 := HI.eqI hI2374 (p := 231) (b := 23) ((((hF2375.1 231 23 (by decide)).trans ((hF2359.1 231 23 (by decide)).trans ((hF2347.1 231 23 (by decide)).trans ((hF2335.1 231 23 (by decide)).trans ((hF2326.1 231 23 (by decide)).trans ((hF2317.1 231 23 (by decide)).trans ((hF2307.1 231 23 (by decide)).trans ((hF2295.1 231 23 (by decide)).trans ((hF2283.1 231 23 (by decide)).trans (hF2271.1 231 23 (by decide))))))))))).trans hv8))
                        have zv2418 : (5 : Int32).toInt = 5 := rfl
                        refine r_callV 225 rfl [.ref 231, .int 5] [] (Nat.le_of_ble_eq_true rfl) rfl (T_X11_settle_231 _ hI2374 5 (by decide) (by omega)) ?_
                        rintro _ _ ⟨g2419, rfl, hI2420, hF2421, rfl, hr2423⟩
                        refine At.stn ?_
                        have hF2424 := Fr.tr hF2378 hF2421 rfl rfl
                        have zv2425 : (5 : Int32).toInt = 5 := rfl
                        have x2426 := HI.eqI hI2374 (p := 231) (b := 17) ((((hF2375.1 231 17 (by decide)).trans ((hF2359.1 231 17 (by decide)).trans ((hF2347.1 231 17 (by decide)).trans ((hF2335.1 231 17 (by decide)).trans ((hF2326.1 231 17 (by decide)).trans ((hF2317.1 231 17 (by decide)).trans ((hF2307.1 231 17 (by decide)).trans ((hF2295.1 231 17 (by decide)).trans ((hF2283.1 231 17 (by decide)).trans (hF2271.1 231 17 (by decide))))))))))).trans hv7))
                        have x2427 := HI.eqI hI2374 (p := 231) (b := 23) ((((hF2375.1 231 23 (by decide)).trans ((hF2359.1 231 23 (by decide)).trans ((hF2347.1 231 23 (by decide)).trans ((hF2335.1 231 23 (by decide)).trans ((hF2326.1 231 23 (by decide)).trans ((hF2317.1 231 23 (by decide)).trans ((hF2307.1 231 23 (by decide)).trans ((hF2295.1 231 23 (by decide)).trans ((hF2283.1 231 23 (by decide)).trans (hF2271.1 231 23 (by decide))))))))))).trans hv8))
                        obtain ⟨v2428, hv2428⟩ : ∃ v, gI g2419 231 17 = v := ⟨_, rfl⟩
                        have rv2428 := RgF.at hI2420.2.1 (p := 231) (b := 17) rfl
                        rw [hv2428] at rv2428
                        dsimp only at rv2428
                        have tv2428 := congrArg Int32.toInt hv2428
                        have x2429 := HI.eqI hI2420 (p := 231) (b := 17) (hv2428)
                        obtain ⟨v2430, hv2430⟩ : ∃ v, gI g2419 231 23 = v := ⟨_, rfl⟩
                        have rv2430 := RgF.at hI2420.2.1 (p := 231) (b := 23) rfl
                        rw [hv2430] at rv2430
                        dsimp only at rv2430
                        have tv2430 := congrArg Int32.toInt hv2430
                        have x2431 := HI.eqI hI2420 (p := 231) (b := 23) (hv2430)
                        have y2432 : (gI _ 231 23).toInt ≤ (gI _ 231 23).toInt := hr2423.1
                        have y2433 : (gI _ 231 17).toInt + (gI _ 231 23).toInt ≤ (gI _ 231 17).toInt + (gI _ 231 23).toInt := hr2423.2.1
                        have inn2434 := INN.cong inn2321 hI2374 (((hF2375.2.1 240 (by decide)).trans ((hF2359.2.1 240 (by decide)).trans ((hF2347.2.1 240 (by decide)).trans ((hF2335.2.1 240 (by decide)).trans (hF2326.2.1 240 (by decide))))))) (((hF2375.1 231 23 (by decide)).trans ((hF2359.1 231 23 (by decide)).trans ((hF2347.1 231 23 (by decide)).trans ((hF2335.1 231 23 (by decide)).trans (hF2326.1 231 23 (by decide)))))))
                        have pg2435 := PG.cong (hP.2.1 (by decide)) hI2374 (((hF2375.2.1 238 (by decide)).trans ((hF2359.2.1 238 (by decide)).trans ((hF2347.2.1 238 (by decide)).trans ((hF2335.2.1 238 (by decide)).trans ((hF2326.2.1 238 (by decide)).trans ((hF2317.2.1 238 (by decide)).trans ((hF2307.2.1 238 (by decide)).trans ((hF2295.2.1 238 (by decide)).trans ((hF2283.2.1 238 (by decide)).trans (hF2271.2.1 238 (by decide)))))))))))) (((hF2375.2.1 239 (by decide)).trans ((hF2359.2.1 239 (by decide)).trans ((hF2347.2.1 239 (by decide)).trans ((hF2335.2.1 239 (by decide)).trans ((hF2326.2.1 239 (by decide)).trans ((hF2317.2.1 239 (by decide)).trans ((hF2307.2.1 239 (by decide)).trans ((hF2295.2.1 239 (by decide)).trans ((hF2283.2.1 239 (by decide)).trans (hF2271.2.1 239 (by decide)))))))))))) (((hF2375.2.1 240 (by decide)).trans ((hF2359.2.1 240 (by decide)).trans ((hF2347.2.1 240 (by decide)).trans ((hF2335.2.1 240 (by decide)).trans ((hF2326.2.1 240 (by decide)).trans ((hF2317.2.1 240 (by decide)).trans ((hF2307.2.1 240 (by decide)).trans ((hF2295.2.1 240 (by decide)).trans ((hF2283.2.1 240 (by decide)).trans (hF2271.2.1 240 (by decide)))))))))))) (((hF2375.2.1 241 (by decide)).trans ((hF2359.2.1 241 (by decide)).trans ((hF2347.2.1 241 (by decide)).trans ((hF2335.2.1 241 (by decide)).trans ((hF2326.2.1 241 (by decide)).trans ((hF2317.2.1 241 (by decide)).trans ((hF2307.2.1 241 (by decide)).trans ((hF2295.2.1 241 (by decide)).trans ((hF2283.2.1 241 (by decide)).trans (hF2271.2.1 241 (by decide)))))))))))) (((hF2375.1 231 17 (by decide)).trans ((hF2359.1 231 17 (by decide)).trans ((hF2347.1 231 17 (by decide)).trans ((hF2335.1 231 17 (by decide)).trans ((hF2326.1 231 17 (by decide)).trans ((hF2317.1 231 17 (by decide)).trans ((hF2307.1 231 17 (by decide)).trans ((hF2295.1 231 17 (by decide)).trans ((hF2283.1 231 17 (by decide)).trans (hF2271.1 231 17 (by decide)))))))))))) (((hF2375.1 231 23 (by decide)).trans ((hF2359.1 231 23 (by decide)).trans ((hF2347.1 231 23 (by decide)).trans ((hF2335.1 231 23 (by decide)).trans ((hF2326.1 231 23 (by decide)).trans ((hF2317.1 231 23 (by decide)).trans ((hF2307.1 231 23 (by decide)).trans ((hF2295.1 231 23 (by decide)).trans ((hF2283.1 231 23 (by decide)).trans (hF2271.1 231 23 (by decide))))))))))))
                        have nsq2436 := INN.nsq inn2434 pg2435 (by omega)
                        have pg2437 := PG.cong (hP.2.1 (by decide)) hI2374 (((hF2375.2.1 238 (by decide)).trans ((hF2359.2.1 238 (by decide)).trans ((hF2347.2.1 238 (by decide)).trans ((hF2335.2.1 238 (by decide)).trans ((hF2326.2.1 238 (by decide)).trans ((hF2317.2.1 238 (by decide)).trans ((hF2307.2.1 238 (by decide)).trans ((hF2295.2.1 238 (by decide)).trans ((hF2283.2.1 238 (by decide)).trans (hF2271.2.1 238 (by decide)))))))))))) (((hF2375.2.1 239 (by decide)).trans ((hF2359.2.1 239 (by decide)).trans ((hF2347.2.1 239 (by decide)).trans ((hF2335.2.1 239 (by decide)).trans ((hF2326.2.1 239 (by decide)).trans ((hF2317.2.1 239 (by decide)).trans ((hF2307.2.1 239 (by decide)).trans ((hF2295.2.1 239 (by decide)).trans ((hF2283.2.1 239 (by decide)).trans (hF2271.2.1 239 (by decide)))))))))))) (((hF2375.2.1 240 (by decide)).trans ((hF2359.2.1 240 (by decide)).trans ((hF2347.2.1 240 (by decide)).trans ((hF2335.2.1 240 (by decide)).trans ((hF2326.2.1 240 (by decide)).trans ((hF2317.2.1 240 (by decide)).trans ((hF2307.2.1 240 (by decide)).trans ((hF2295.2.1 240 (by decide)).trans ((hF2283.2.1 240 (by decide)).trans (hF2271.2.1 240 (by decide)))))))))))) (((hF2375.2.1 241 (by decide)).trans ((hF2359.2.1 241 (by decide)).trans ((hF2347.2.1 241 (by decide)).trans ((hF2335.2.1 241 (by decide)).trans ((hF2326.2.1 241 (by decide)).trans ((hF2317.2.1 241 (by decide)).trans ((hF2307.2.1 241 (by decide)).trans ((hF2295.2.1 241 (by decide)).trans ((hF2283.2.1 241 (by decide)).trans (hF2271.2.1 241 (by decide)))))))))))) (((hF2375.1 231 17 (by decide)).trans ((hF2359.1 231 17 (by decide)).trans ((hF2347.1 231 17 (by decide)).trans ((hF2335.1 231 17 (by decide)).trans ((hF2326.1 231 17 (by decide)).trans ((hF2317.1 231 17 (by decide)).trans ((hF2307.1 231 17 (by decide)).trans ((hF2295.1 231 17 (by decide)).trans ((hF2283.1 231 17 (by decide)).trans (hF2271.1 231 17 (by decide)))))))))))) (((hF2375.1 231 23 (by decide)).trans ((hF2359.1 231 23 (by decide)).trans ((hF2347.1 231 23 (by decide)).trans ((hF2335.1 231 23 (by decide)).trans ((hF2326.1 231 23 (by decide)).trans ((hF2317.1 231 23 (by decide)).trans ((hF2307.1 231 23 (by decide)).trans ((hF2295.1 231 23 (by decide)).trans ((hF2283.1 231 23 (by decide)).trans (hF2271.1 231 23 (by decide))))))))))))
                        have inn2439 := INN.cong inn2321 hI2374 (((hF2375.2.1 240 (by decide)).trans ((hF2359.2.1 240 (by decide)).trans ((hF2347.2.1 240 (by decide)).trans ((hF2335.2.1 240 (by decide)).trans (hF2326.2.1 240 (by decide))))))) (((hF2375.1 231 23 (by decide)).trans ((hF2359.1 231 23 (by decide)).trans ((hF2347.1 231 23 (by decide)).trans ((hF2335.1 231 23 (by decide)).trans (hF2326.1 231 23 (by decide)))))))
                        have pg2438 := hr2423.2.2.1 _ _ _ pg2437
                        have nsq2441 := NSQ.le nsq2436 hI2420 hr2423.2.2.2.2.1 hr2423.1
                        refine At.enter rfl ?_
                        refine r_aload_n rfl ?_
                        refine r_iload_n rfl ?_
                        refine r_iconst 0 rfl ?_
                        have x2442 := HI.eqI hI2420 (p := 231) (b := 23) (hv2430)
                        have zv2443 : (26 : Int32).toInt = 26 := rfl
                        have zv2444 : (0 : Int32).toInt = 0 := rfl
                        refine r_callV 231 rfl [.ref 231, .int 26, .int 0] [] (Nat.le_of_ble_eq_true rfl) rfl (T_X11_push_231 _ hI2420 26 (by decide) 0 (by decide) (by omega)) ?_
                        rintro _ _ ⟨g2445, rfl, hI2446, hF2447, rfl, hr2449⟩
                        refine At.stn ?_
                        have hF2450 := Fr.tr hF2424 hF2447 rfl rfl
                        have zv2451 : (26 : Int32).toInt = 26 := rfl
                        have zv2452 : (0 : Int32).toInt = 0 := rfl
                        have x2453 := HI.eqI hI2420 (p := 231) (b := 17) (hv2428)
                        have x2454 := HI.eqI hI2420 (p := 231) (b := 23) (hv2430)
                        have x2455 := HI.eqI hI2446 (p := 231) (b := 17) (((hF2447.1 231 17 (by decide)).trans hv2428))
                        obtain ⟨v2456, hv2456⟩ : ∃ v, gI g2445 231 23 = v := ⟨_, rfl⟩
                        have rv2456 := RgF.at hI2446.2.1 (p := 231) (b := 23) rfl
                        rw [hv2456] at rv2456
                        dsimp only at rv2456
                        have tv2456 := congrArg Int32.toInt hv2456
                        have x2457 := HI.eqI hI2446 (p := 231) (b := 23) (hv2456)
                        have y2458 : (gI _ 231 23).toInt = (gI _ 231 23).toInt + 1 := hr2449.1
                        have pg2459 := PG.push (e' := 0) pg2438 hr2449 (hF2447.2.1 238 (by decide)) (hF2447.2.1 239 (by decide)) (hF2447.1 231 17 (by decide)) ⟨by omega, by omega⟩ (Or.inr nsq2441) (by omega) (by omega)
                        have nsq2460 := NSQ.push nsq2441 hr2449 (by omega)
                        refine At.enter rfl ?_
                        refine r_iconst 1 rfl ?_
                        refine r_ireti ?_
                        have x2461 := HI.eqI hI2446 (p := 231) (b := 8) ((((hF2447.1 231 8 (by decide)).trans ((hF2421.1 231 8 (by decide)).trans ((hF2375.1 231 8 (by decide)).trans ((hF2359.1 231 8 (by decide)).trans ((hF2347.1 231 8 (by decide)).trans ((hF2335.1 231 8 (by decide)).trans ((hF2326.1 231 8 (by decide)).trans ((hF2317.1 231 8 (by decide)).trans ((hF2307.1 231 8 (by decide)).trans ((hF2295.1 231 8 (by decide)).trans ((hF2283.1 231 8 (by decide)).trans (hF2271.1 231 8 (by decide))))))))))))).trans hv1))
                        have x2462 := HI.eqI hI2446 (p := 231) (b := 9) ((((hF2447.1 231 9 (by decide)).trans (hF2421.1 231 9 (by decide))).trans hv2386))
                        have x2463 := HI.eqI hI2446 (p := 231) (b := 10) ((((hF2447.1 231 10 (by decide)).trans (hF2421.1 231 10 (by decide))).trans hv2388))
                        have x2464 := HI.eqI hI2446 (p := 231) (b := 11) ((((hF2447.1 231 11 (by decide)).trans (hF2421.1 231 11 (by decide))).trans hv2390))
                        obtain ⟨v2465, hv2465⟩ : ∃ v, gJ g2373 231 12 = v := ⟨_, rfl⟩
                        have x2466 := HI.eqJ hI2446 (b := 12) ((((hF2447.2.2 231 12 (by decide)).trans (hF2421.2.2 231 12 (by decide))).trans hv2465))
                        have x2467 := HI.eqI hI2446 (p := 231) (b := 14) ((((hF2447.1 231 14 (by decide)).trans (hF2421.1 231 14 (by decide))).trans hv2392))
                        have x2468 := HI.eqI hI2446 (p := 231) (b := 17) (((hF2447.1 231 17 (by decide)).trans hv2428))
                        have x2469 := HI.eqI hI2446 (p := 231) (b := 23) (hv2456)
                        have x2470 := HI.eqI hI0 (p := 231) (b := 9) (hv2)
                        have zv2471 : (1 : Int32).toInt = 1 := rfl
                        have w262472 := W26.cong c2399 hI2446 (((hF2447.1 231 9 (by decide)).trans (hF2421.1 231 9 (by decide)))) (((hF2447.1 231 10 (by decide)).trans (hF2421.1 231 10 (by decide)))) (((hF2447.1 231 11 (by decide)).trans (hF2421.1 231 11 (by decide)))) (((hF2447.2.2 231 12 (by decide)).trans (hF2421.2.2 231 12 (by decide))))
                        exact ⟨_, rfl, hI2446, hF2450, _, rfl, by decide, ⟨by omega, by omega, by omega, by omega, w262472, by omega, by omega, (fun hbad => ⟨by omega, (PT.mk (fun _ => pg2459) (fun h => False.elim (by omega)) (fun h h9 => False.elim (by omega)) (fun h => False.elim (by omega)))⟩), (fun hbad => by omega)⟩⟩
                    · have c2366_ : v2360.toInt ≠ 0 := en_k_eq_f c2366
                      refine At.enter rfl ?_
                      refine r_iconst 1 rfl ?_
                      refine r_goto ?_
                      refine At.enter rfl ?_
                      have x2473 := HI.eqI hI2358 (p := 231) (b := 8) ((((hF2359.1 231 8 (by decide)).trans ((hF2347.1 231 8 (by decide)).trans ((hF2335.1 231 8 (by decide)).trans ((hF2326.1 231 8 (by decide)).trans ((hF2317.1 231 8 (by decide)).trans ((hF2307.1 231 8 (by decide)).trans ((hF2295.1 231 8 (by decide)).trans ((hF2283.1 231 8 (by decide)).trans (hF2271.1 231 8 (by decide)))))))))).trans hv1))
                      have x2474 := HI.eqI hI2358 (p := 231) (b := 9) ((((hF2359.1 231 9 (by decide)).trans ((hF2347.1 231 9 (by decide)).trans ((hF2335.1 231 9 (by decide)).trans ((hF2326.1 231 9 (by decide)).trans ((hF2317.1 231 9 (by decide)).trans ((hF2307.1 231 9 (by decide)).trans ((hF2295.1 231 9 (by decide)).trans ((hF2283.1 231 9 (by decide)).trans (hF2271.1 231 9 (by decide)))))))))).trans hv2))
                      have x2475 := HI.eqI hI2358 (p := 231) (b := 10) ((((hF2359.1 231 10 (by decide)).trans ((hF2347.1 231 10 (by decide)).trans ((hF2335.1 231 10 (by decide)).trans ((hF2326.1 231 10 (by decide)).trans ((hF2317.1 231 10 (by decide)).trans ((hF2307.1 231 10 (by decide)).trans ((hF2295.1 231 10 (by decide)).trans ((hF2283.1 231 10 (by decide)).trans (hF2271.1 231 10 (by decide)))))))))).trans hv3))
                      have x2476 := HI.eqI hI2358 (p := 231) (b := 11) ((((hF2359.1 231 11 (by decide)).trans ((hF2347.1 231 11 (by decide)).trans ((hF2335.1 231 11 (by decide)).trans ((hF2326.1 231 11 (by decide)).trans ((hF2317.1 231 11 (by decide)).trans ((hF2307.1 231 11 (by decide)).trans ((hF2295.1 231 11 (by decide)).trans ((hF2283.1 231 11 (by decide)).trans (hF2271.1 231 11 (by decide)))))))))).trans hv4))
                      have w262477 := W26.cong hW hI2358 (((hF2359.1 231 9 (by decide)).trans ((hF2347.1 231 9 (by decide)).trans ((hF2335.1 231 9 (by decide)).trans ((hF2326.1 231 9 (by decide)).trans ((hF2317.1 231 9 (by decide)).trans ((hF2307.1 231 9 (by decide)).trans ((hF2295.1 231 9 (by decide)).trans ((hF2283.1 231 9 (by decide)).trans (hF2271.1 231 9 (by decide))))))))))) (((hF2359.1 231 10 (by decide)).trans ((hF2347.1 231 10 (by decide)).trans ((hF2335.1 231 10 (by decide)).trans ((hF2326.1 231 10 (by decide)).trans ((hF2317.1 231 10 (by decide)).trans ((hF2307.1 231 10 (by decide)).trans ((hF2295.1 231 10 (by decide)).trans ((hF2283.1 231 10 (by decide)).trans (hF2271.1 231 10 (by decide))))))))))) (((hF2359.1 231 11 (by decide)).trans ((hF2347.1 231 11 (by decide)).trans ((hF2335.1 231 11 (by decide)).trans ((hF2326.1 231 11 (by decide)).trans ((hF2317.1 231 11 (by decide)).trans ((hF2307.1 231 11 (by decide)).trans ((hF2295.1 231 11 (by decide)).trans ((hF2283.1 231 11 (by decide)).trans (hF2271.1 231 11 (by decide))))))))))) (((hF2359.2.2 231 12 (by decide)).trans ((hF2347.2.2 231 12 (by decide)).trans ((hF2335.2.2 231 12 (by decide)).trans ((hF2326.2.2 231 12 (by decide)).trans ((hF2317.2.2 231 12 (by decide)).trans ((hF2307.2.2 231 12 (by decide)).trans ((hF2295.2.2 231 12 (by decide)).trans ((hF2283.2.2 231 12 (by decide)).trans (hF2271.2.2 231 12 (by decide)))))))))))
                      have zv2478 : (1 : Int32).toInt = 1 := rfl
                      refine r_callV 213 rfl [.ref 231, .int 1] [] (Nat.le_of_ble_eq_true rfl) rfl (T_X11_must_231 _ hI2358 1 (by decide) (by refine ⟨?_, ?_, ?_, ?_⟩ <;> omega) w262477) ?_
                      rintro _ _ ⟨g2479, rfl, hI2480, hF2481, rfl, hr2483⟩
                      refine At.stn ?_
                      have hF2484 := Fr.tr hF2362 hF2481 rfl rfl
                      have zv2485 : (1 : Int32).toInt = 1 := rfl
                      have x2486 := HI.eqI hI2358 (p := 231) (b := 8) ((((hF2359.1 231 8 (by decide)).trans ((hF2347.1 231 8 (by decide)).trans ((hF2335.1 231 8 (by decide)).trans ((hF2326.1 231 8 (by decide)).trans ((hF2317.1 231 8 (by decide)).trans ((hF2307.1 231 8 (by decide)).trans ((hF2295.1 231 8 (by decide)).trans ((hF2283.1 231 8 (by decide)).trans (hF2271.1 231 8 (by decide)))))))))).trans hv1))
                      have x2487 := HI.eqI hI2358 (p := 231) (b := 9) ((((hF2359.1 231 9 (by decide)).trans ((hF2347.1 231 9 (by decide)).trans ((hF2335.1 231 9 (by decide)).trans ((hF2326.1 231 9 (by decide)).trans ((hF2317.1 231 9 (by decide)).trans ((hF2307.1 231 9 (by decide)).trans ((hF2295.1 231 9 (by decide)).trans ((hF2283.1 231 9 (by decide)).trans (hF2271.1 231 9 (by decide)))))))))).trans hv2))
                      have x2488 := HI.eqI hI2358 (p := 231) (b := 10) ((((hF2359.1 231 10 (by decide)).trans ((hF2347.1 231 10 (by decide)).trans ((hF2335.1 231 10 (by decide)).trans ((hF2326.1 231 10 (by decide)).trans ((hF2317.1 231 10 (by decide)).trans ((hF2307.1 231 10 (by decide)).trans ((hF2295.1 231 10 (by decide)).trans ((hF2283.1 231 10 (by decide)).trans (hF2271.1 231 10 (by decide)))))))))).trans hv3))
                      have x2489 := HI.eqI hI2358 (p := 231) (b := 11) ((((hF2359.1 231 11 (by decide)).trans ((hF2347.1 231 11 (by decide)).trans ((hF2335.1 231 11 (by decide)).trans ((hF2326.1 231 11 (by decide)).trans ((hF2317.1 231 11 (by decide)).trans ((hF2307.1 231 11 (by decide)).trans ((hF2295.1 231 11 (by decide)).trans ((hF2283.1 231 11 (by decide)).trans (hF2271.1 231 11 (by decide)))))))))).trans hv4))
                      have x2490 := HI.eqI hI2358 (p := 231) (b := 14) ((((hF2359.1 231 14 (by decide)).trans ((hF2347.1 231 14 (by decide)).trans ((hF2335.1 231 14 (by decide)).trans ((hF2326.1 231 14 (by decide)).trans ((hF2317.1 231 14 (by decide)).trans ((hF2307.1 231 14 (by decide)).trans ((hF2295.1 231 14 (by decide)).trans ((hF2283.1 231 14 (by decide)).trans (hF2271.1 231 14 (by decide)))))))))).trans hv6))
                      have x2491 := HI.eqI hI2480 (p := 231) (b := 8) ((((hF2481.1 231 8 (by decide)).trans ((hF2359.1 231 8 (by decide)).trans ((hF2347.1 231 8 (by decide)).trans ((hF2335.1 231 8 (by decide)).trans ((hF2326.1 231 8 (by decide)).trans ((hF2317.1 231 8 (by decide)).trans ((hF2307.1 231 8 (by decide)).trans ((hF2295.1 231 8 (by decide)).trans ((hF2283.1 231 8 (by decide)).trans (hF2271.1 231 8 (by decide))))))))))).trans hv1))
                      obtain ⟨v2492, hv2492⟩ : ∃ v, gI g2479 231 9 = v := ⟨_, rfl⟩
                      have rv2492 := RgF.at hI2480.2.1 (p := 231) (b := 9) rfl
                      rw [hv2492] at rv2492
                      dsimp only at rv2492
                      have tv2492 := congrArg Int32.toInt hv2492
                      have x2493 := HI.eqI hI2480 (p := 231) (b := 9) (hv2492)
                      obtain ⟨v2494, hv2494⟩ : ∃ v, gI g2479 231 10 = v := ⟨_, rfl⟩
                      have rv2494 := RgF.at hI2480.2.1 (p := 231) (b := 10) rfl
                      rw [hv2494] at rv2494
                      dsimp only at rv2494
                      have tv2494 := congrArg Int32.toInt hv2494
                      have x2495 := HI.eqI hI2480 (p := 231) (b := 10) (hv2494)
                      obtain ⟨v2496, hv2496⟩ : ∃ v, gI g2479 231 11 = v := ⟨_, rfl⟩
                      have tv2496 := congrArg Int32.toInt hv2496
                      have x2497 := HI.eqI hI2480 (p := 231) (b := 11) (hv2496)
                      obtain ⟨v2498, hv2498⟩ : ∃ v, gI g2479 231 14 = v := ⟨_, rfl⟩
                      have tv2498 := congrArg Int32.toInt hv2498
                      have x2499 := HI.eqI hI2480 (p := 231) (b := 14) (hv2498)
                      obtain ⟨c2500, c2501, c2502, c2503, c2504, c2505, c2506⟩ := hr2483
                      refine At.enter rfl ?_
                      refine r_aload_n rfl ?_
                      refine q_getI (Sh.int hI2480.1 kx_231 rfl) v2498 hv2498 ?_
                      refine r_ifs 220 rfl (fun c2507 => ?_) (fun c2507 => ?_)
                      · have c2507_ : v2498.toInt ≠ 0 := en_k_ne_t c2507
                        clear c2506
                        refine At.enter rfl ?_
                        refine r_iconst 1 rfl ?_
                        refine r_ireti ?_
                        have x2508 := HI.eqI hI2480 (p := 231) (b := 8) ((((hF2481.1 231 8 (by decide)).trans ((hF2359.1 231 8 (by decide)).trans ((hF2347.1 231 8 (by decide)).trans ((hF2335.1 231 8 (by decide)).trans ((hF2326.1 231 8 (by decide)).trans ((hF2317.1 231 8 (by decide)).trans ((hF2307.1 231 8 (by decide)).trans ((hF2295.1 231 8 (by decide)).trans ((hF2283.1 231 8 (by decide)).trans (hF2271.1 231 8 (by decide))))))))))).trans hv1))
                        have x2509 := HI.eqI hI2480 (p := 231) (b := 9) (hv2492)
                        have x2510 := HI.eqI hI2480 (p := 231) (b := 10) (hv2494)
                        have x2511 := HI.eqI hI2480 (p := 231) (b := 11) (hv2496)
                        obtain ⟨v2512, hv2512⟩ : ∃ v, gJ g2479 231 12 = v := ⟨_, rfl⟩
                        have x2513 := HI.eqJ hI2480 (b := 12) (hv2512)
                        have x2514 := HI.eqI hI2480 (p := 231) (b := 14) (hv2498)
                        have x2515 := HI.eqI hI2480 (p := 231) (b := 17) ((((hF2481.1 231 17 (by decide)).trans ((hF2359.1 231 17 (by decide)).trans ((hF2347.1 231 17 (by decide)).trans ((hF2335.1 231 17 (by decide)).trans ((hF2326.1 231 17 (by decide)).trans ((hF2317.1 231 17 (by decide)).trans ((hF2307.1 231 17 (by decide)).trans ((hF2295.1 231 17 (by decide)).trans ((hF2283.1 231 17 (by decide)).trans (hF2271.1 231 17 (by decide))))))))))).trans hv7))
                        have x2516 := HI.eqI hI2480 (p := 231) (b := 23) ((((hF2481.1 231 23 (by decide)).trans ((hF2359.1 231 23 (by decide)).trans ((hF2347.1 231 23 (by decide)).trans ((hF2335.1 231 23 (by decide)).trans ((hF2326.1 231 23 (by decide)).trans ((hF2317.1 231 23 (by decide)).trans ((hF2307.1 231 23 (by decide)).trans ((hF2295.1 231 23 (by decide)).trans ((hF2283.1 231 23 (by decide)).trans (hF2271.1 231 23 (by decide))))))))))).trans hv8))
                        have x2517 := HI.eqI hI0 (p := 231) (b := 9) (hv2)
                        have zv2518 : (1 : Int32).toInt = 1 := rfl
                        exact ⟨_, rfl, hI2480, hF2484, _, rfl, by decide, ⟨by omega, by omega, by omega, by omega, c2505, by omega, by omega, (fun hbad => ⟨by omega, (PT.mk (fun h => False.elim (by omega)) (fun h => False.elim (by omega)) (fun h h9 => False.elim (by omega)) (fun h => False.elim (by omega)))⟩), (fun hbad => by omega)⟩⟩
                      · have c2507_ : v2498.toInt = 0 := en_k_ne_f c2507
                        obtain ⟨i2519, i2520, i2521⟩ := c2506 (by omega)
                        refine At.enter rfl ?_
                        refine r_aload_n rfl ?_
                        refine r_iconst 5 rfl ?_
                        have x2522 := HI.eqI hI2480 (p := 231) (b := 17) ((((hF2481.1 231 17 (by decide)).trans ((hF2359.1 231 17 (by decide)).trans ((hF2347.1 231 17 (by decide)).trans ((hF2335.1 231 17 (by decide)).trans ((hF2326.1 231 17 (by decide)).trans ((hF2317.1 231 17 (by decide)).trans ((hF2307.1 231 17 (by decide)).trans ((hF2295.1 231 17 (by decide)).trans ((hF2283.1 231 17 (by decide)).trans (hF2271.1 231 17 (by decide))))))))))).trans hv7))
                        have x2523 := HI.eqI hI2480 (p := 231) (b := 23) ((((hF2481.1 231 23 (by decide)).trans ((hF2359.1 231 23 (by decide)).trans ((hF2347.1 231 23 (by decide)).trans ((hF2335.1 231 23 (by decide)).trans ((hF2326.1 231 23 (by decide)).trans ((hF2317.1 231 23 (by decide)).trans ((hF2307.1 231 23 (by decide)).trans ((hF2295.1 231 23 (by decide)).trans ((hF2283.1 231 23 (by decide)).trans (hF2271.1 231 23 (by decide))))))))))).trans hv8))
                        have zv2524 : (5 : Int32).toInt = 5 := rfl
                        refine r_callV 225 rfl [.ref 231, .int 5] [] (Nat.le_of_ble_eq_true rfl) rfl (T_X11_settle_231 _ hI2480 5 (by decide) (by omega)) ?_
                        rintro _ _ ⟨g2525, rfl, hI2526, hF2527, rfl, hr2529⟩
                        refine At.stn ?_
                        have hF2530 := Fr.tr hF2484 hF2527 rfl rfl
                        have zv2531 : (5 : Int32).toInt = 5 := rfl
                        have x2532 := HI.eqI hI2480 (p := 231) (b := 17) ((((hF2481.1 231 17 (by decide)).trans ((hF2359.1 231 17 (by decide)).trans ((hF2347.1 231 17 (by decide)).trans ((hF2335.1 231 17 (by decide)).trans ((hF2326.1 231 17 (by decide)).trans ((hF2317.1 231 17 (by decide)).trans ((hF2307.1 231 17 (by decide)).trans ((hF2295.1 231 17 (by decide)).trans ((hF2283.1 231 17 (by decide)).trans (hF2271.1 231 17 (by decide))))))))))).trans hv7))
                        have x2533 := HI.eqI hI2480 (p := 231) (b := 23) ((((hF2481.1 231 23 (by decide)).trans ((hF2359.1 231 23 (by decide)).trans ((hF2347.1 231 23 (by decide)).trans ((hF2335.1 231 23 (by decide)).trans ((hF2326.1 231 23 (by decide)).trans ((hF2317.1 231 23 (by decide)).trans ((hF2307.1 231 23 (by decide)).trans ((hF2295.1 231 23 (by decide)).trans ((hF2283.1 231 23 (by decide)).trans (hF2271.1 231 23 (by decide))))))))))).trans hv8))
                        obtain ⟨v2534, hv2534⟩ : ∃ v, gI g2525 231 17 = v := ⟨_, rfl⟩
                        have rv2534 := RgF.at hI2526.2.1 (p := 231) (b := 17) rfl
                        rw [hv2534] at rv2534
                        dsimp only at rv2534
                        have tv2534 := congrArg Int32.toInt hv2534
                        have x2535 := HI.eqI hI2526 (p := 231) (b := 17) (hv2534)
                        obtain ⟨v2536, hv2536⟩ : ∃ v, gI g2525 231 23 = v := ⟨_, rfl⟩
                        have rv2536 := RgF.at hI2526.2.1 (p := 231) (b := 23) rfl
                        rw [hv2536] at rv2536
                        dsimp only at rv2536
                        have tv2536 := congrArg Int32.toInt hv2536
                        have x2537 := HI.eqI hI2526 (p := 231) (b := 23) (hv2536)
                        have y2538 : (gI _ 231 23).toInt ≤ (gI _ 231 23).toInt := hr2529.1
                        have y2539 : (gI _ 231 17).toInt + (gI _ 231 23).toInt ≤ (gI _ 231 17).toInt + (gI _ 231 23).toInt := hr2529.2.1
                        have inn2540 := INN.cong inn2321 hI2480 (((hF2481.2.1 240 (by decide)).trans ((hF2359.2.1 240 (by decide)).trans ((hF2347.2.1 240 (by decide)).trans ((hF2335.2.1 240 (by decide)).trans (hF2326.2.1 240 (by decide))))))) (((hF2481.1 231 23 (by decide)).trans ((hF2359.1 231 23 (by decide)).trans ((hF2347.1 231 23 (by decide)).trans ((hF2335.1 231 23 (by decide)).trans (hF2326.1 231 23 (by decide)))))))
                        have pg2541 := PG.cong (hP.2.1 (by decide)) hI2480 (((hF2481.2.1 238 (by decide)).trans ((hF2359.2.1 238 (by decide)).trans ((hF2347.2.1 238 (by decide)).trans ((hF2335.2.1 238 (by decide)).trans ((hF2326.2.1 238 (by decide)).trans ((hF2317.2.1 238 (by decide)).trans ((hF2307.2.1 238 (by decide)).trans ((hF2295.2.1 238 (by decide)).trans ((hF2283.2.1 238 (by decide)).trans (hF2271.2.1 238 (by decide)))))))))))) (((hF2481.2.1 239 (by decide)).trans ((hF2359.2.1 239 (by decide)).trans ((hF2347.2.1 239 (by decide)).trans ((hF2335.2.1 239 (by decide)).trans ((hF2326.2.1 239 (by decide)).trans ((hF2317.2.1 239 (by decide)).trans ((hF2307.2.1 239 (by decide)).trans ((hF2295.2.1 239 (by decide)).trans ((hF2283.2.1 239 (by decide)).trans (hF2271.2.1 239 (by decide)))))))))))) (((hF2481.2.1 240 (by decide)).trans ((hF2359.2.1 240 (by decide)).trans ((hF2347.2.1 240 (by decide)).trans ((hF2335.2.1 240 (by decide)).trans ((hF2326.2.1 240 (by decide)).trans ((hF2317.2.1 240 (by decide)).trans ((hF2307.2.1 240 (by decide)).trans ((hF2295.2.1 240 (by decide)).trans ((hF2283.2.1 240 (by decide)).trans (hF2271.2.1 240 (by decide)))))))))))) (((hF2481.2.1 241 (by decide)).trans ((hF2359.2.1 241 (by decide)).trans ((hF2347.2.1 241 (by decide)).trans ((hF2335.2.1 241 (by decide)).trans ((hF2326.2.1 241 (by decide)).trans ((hF2317.2.1 241 (by decide)).trans ((hF2307.2.1 241 (by decide)).trans ((hF2295.2.1 241 (by decide)).trans ((hF2283.2.1 241 (by decide)).trans (hF2271.2.1 241 (by decide)))))))))))) (((hF2481.1 231 17 (by decide)).trans ((hF2359.1 231 17 (by decide)).trans ((hF2347.1 231 17 (by decide)).trans ((hF2335.1 231 17 (by decide)).trans ((hF2326.1 231 17 (by decide)).trans ((hF2317.1 231 17 (by decide)).trans ((hF2307.1 231 17 (by decide)).trans ((hF2295.1 231 17 (by decide)).trans ((hF2283.1 231 17 (by decide)).trans (hF2271.1 231 17 (by decide)))))))))))) (((hF2481.1 231 23 (by decide)).trans ((hF2359.1 231 23 (by decide)).trans ((hF2347.1 231 23 (by decide)).trans ((hF2335.1 231 23 (by decide)).trans ((hF2326.1 231 23 (by decide)).trans ((hF2317.1 231 23 (by decide)).trans ((hF2307.1 231 23 (by decide)).trans ((hF2295.1 231 23 (by decide)).trans ((hF2283.1 231 23 (by decide)).trans (hF2271.1 231 23 (by decide))))))))))))
                        have nsq2542 := INN.nsq inn2540 pg2541 (by omega)
                        have pg2543 := PG.cong (hP.2.1 (by decide)) hI2480 (((hF2481.2.1 238 (by decide)).trans ((hF2359.2.1 238 (by decide)).trans ((hF2347.2.1 238 (by decide)).trans ((hF2335.2.1 238 (by decide)).trans ((hF2326.2.1 238 (by decide)).trans ((hF2317.2.1 238 (by decide)).trans ((hF2307.2.1 238 (by decide)).trans ((hF2295.2.1 238 (by decide)).trans ((hF2283.2.1 238 (by decide)).trans (hF2271.2.1 238 (by decide)))))))))))) (((hF2481.2.1 239 (by decide)).trans ((hF2359.2.1 239 (by decide)).trans ((hF2347.2.1 239 (by decide)).trans ((hF2335.2.1 239 (by decide)).trans ((hF2326.2.1 239 (by decide)).trans ((hF2317.2.1 239 (by decide)).trans ((hF2307.2.1 239 (by decide)).trans ((hF2295.2.1 239 (by decide)).trans ((hF2283.2.1 239 (by decide)).trans (hF2271.2.1 239 (by decide)))))))))))) (((hF2481.2.1 240 (by decide)).trans ((hF2359.2.1 240 (by decide)).trans ((hF2347.2.1 240 (by decide)).trans ((hF2335.2.1 240 (by decide)).trans ((hF2326.2.1 240 (by decide)).trans ((hF2317.2.1 240 (by decide)).trans ((hF2307.2.1 240 (by decide)).trans ((hF2295.2.1 240 (by decide)).trans ((hF2283.2.1 240 (by decide)).trans (hF2271.2.1 240 (by decide)))))))))))) (((hF2481.2.1 241 (by decide)).trans ((hF2359.2.1 241 (by decide)).trans ((hF2347.2.1 241 (by decide)).trans ((hF2335.2.1 241 (by decide)).trans ((hF2326.2.1 241 (by decide)).trans ((hF2317.2.1 241 (by decide)).trans ((hF2307.2.1 241 (by decide)).trans ((hF2295.2.1 241 (by decide)).trans ((hF2283.2.1 241 (by decide)).trans (hF2271.2.1 241 (by decide)))))))))))) (((hF2481.1 231 17 (by decide)).trans ((hF2359.1 231 17 (by decide)).trans ((hF2347.1 231 17 (by decide)).trans ((hF2335.1 231 17 (by decide)).trans ((hF2326.1 231 17 (by decide)).trans ((hF2317.1 231 17 (by decide)).trans ((hF2307.1 231 17 (by decide)).trans ((hF2295.1 231 17 (by decide)).trans ((hF2283.1 231 17 (by decide)).trans (hF2271.1 231 17 (by decide)))))))))))) (((hF2481.1 231 23 (by decide)).trans ((hF2359.1 231 23 (by decide)).trans ((hF2347.1 231 23 (by decide)).trans ((hF2335.1 231 23 (by decide)).trans ((hF2326.1 231 23 (by decide)).trans ((hF2317.1 231 23 (by decide)).trans ((hF2307.1 231 23 (by decide)).trans ((hF2295.1 231 23 (by decide)).trans ((hF2283.1 231 23 (by decide)).trans (hF2271.1 231 23 (by decide))))))))))))
                        have inn2545 := INN.cong inn2321 hI2480 (((hF2481.2.1 240 (by decide)).trans ((hF2359.2.1 240 (by decide)).trans ((hF2347.2.1 240 (by decide)).trans ((hF2335.2.1 240 (by decide)).trans (hF2326.2.1 240 (by decide))))))) (((hF2481.1 231 23 (by decide)).trans ((hF2359.1 231 23 (by decide)).trans ((hF2347.1 231 23 (by decide)).trans ((hF2335.1 231 23 (by decide)).trans (hF2326.1 231 23 (by decide)))))))
                        have pg2544 := hr2529.2.2.1 _ _ _ pg2543
                        have nsq2547 := NSQ.le nsq2542 hI2526 hr2529.2.2.2.2.1 hr2529.1
                        refine At.enter rfl ?_
                        refine r_aload_n rfl ?_
                        refine r_iload_n rfl ?_
                        refine r_iconst 0 rfl ?_
                        have x2548 := HI.eqI hI2526 (p := 231) (b := 23) (hv2536)
                        have zv2549 : (26 : Int32).toInt = 26 := rfl
                        have zv2550 : (0 : Int32).toInt = 0 := rfl
                        refine r_callV 231 rfl [.ref 231, .int 26, .int 0] [] (Nat.le_of_ble_eq_true rfl) rfl (T_X11_push_231 _ hI2526 26 (by decide) 0 (by decide) (by omega)) ?_
                        rintro _ _ ⟨g2551, rfl, hI2552, hF2553, rfl, hr2555⟩
                        refine At.stn ?_
                        have hF2556 := Fr.tr hF2530 hF2553 rfl rfl
                        have zv2557 : (26 : Int32).toInt = 26 := rfl
                        have zv2558 : (0 : Int32).toInt = 0 := rfl
                        have x2559 := HI.eqI hI2526 (p := 231) (b := 17) (hv2534)
                        have x2560 := HI.eqI hI2526 (p := 231) (b := 23) (hv2536)
                        have x2561 := HI.eqI hI2552 (p := 231) (b := 17) (((hF2553.1 231 17 (by decide)).trans hv2534))
                        obtain ⟨v2562, hv2562⟩ : ∃ v, gI g2551 231 23 = v := ⟨_, rfl⟩
                        have rv2562 := RgF.at hI2552.2.1 (p := 231) (b := 23) rfl
                        rw [hv2562] at rv2562
                        dsimp only at rv2562
                        have tv2562 := congrArg Int32.toInt hv2562
                        have x2563 := HI.eqI hI2552 (p := 231) (b := 23) (hv2562)
                        have y2564 : (gI _ 231 23).toInt = (gI _ 231 23).toInt + 1 := hr2555.1
                        have pg2565 := PG.push (e' := 0) pg2544 hr2555 (hF2553.2.1 238 (by decide)) (hF2553.2.1 239 (by decide)) (hF2553.1 231 17 (by decide)) ⟨by omega, by omega⟩ (Or.inr nsq2547) (by omega) (by omega)
                        have nsq2566 := NSQ.push nsq2547 hr2555 (by omega)
                        refine At.enter rfl ?_
                        refine r_iconst 1 rfl ?_
                        refine r_ireti ?_
                        have x2567 := HI.eqI hI2552 (p := 231) (b := 8) ((((hF2553.1 231 8 (by decide)).trans ((hF2527.1 231 8 (by decide)).trans ((hF2481.1 231 8 (by decide)).trans ((hF2359.1 231 8 (by decide)).trans ((hF2347.1 231 8 (by decide)).trans ((hF2335.1 231 8 (by decide)).trans ((hF2326.1 231 8 (by decide)).trans ((hF2317.1 231 8 (by decide)).trans ((hF2307.1 231 8 (by decide)).trans ((hF2295.1 231 8 (by decide)).trans ((hF2283.1 231 8 (by decide)).trans (hF2271.1 231 8 (by decide))))))))))))).trans hv1))
                        have x2568 := HI.eqI hI2552 (p := 231) (b := 9) ((((hF2553.1 231 9 (by decide)).trans (hF2527.1 231 9 (by decide))).trans hv2492))
                        have x2569 := HI.eqI hI2552 (p := 231) (b := 10) ((((hF2553.1 231 10 (by decide)).trans (hF2527.1 231 10 (by decide))).trans hv2494))
                        have x2570 := HI.eqI hI2552 (p := 231) (b := 11) ((((hF2553.1 231 11 (by decide)).trans (hF2527.1 231 11 (by decide))).trans hv2496))
                        obtain ⟨v2571, hv2571⟩ : ∃ v, gJ g2479 231 12 = v := ⟨_, rfl⟩
                        have x2572 := HI.eqJ hI2552 (b := 12) ((((hF2553.2.2 231 12 (by decide)).trans (hF2527.2.2 231 12 (by decide))).trans hv2571))
                        have x2573 := HI.eqI hI2552 (p := 231) (b := 14) ((((hF2553.1 231 14 (by decide)).trans (hF2527.1 231 14 (by decide))).trans hv2498))
                        have x2574 := HI.eqI hI2552 (p := 231) (b := 17) (((hF2553.1 231 17 (by decide)).trans hv2534))
                        have x2575 := HI.eqI hI2552 (p := 231) (b := 23) (hv2562)
                        have x2576 := HI.eqI hI0 (p := 231) (b := 9) (hv2)
                        have zv2577 : (1 : Int32).toInt = 1 := rfl
                        have w262578 := W26.cong c2505 hI2552 (((hF2553.1 231 9 (by decide)).trans (hF2527.1 231 9 (by decide)))) (((hF2553.1 231 10 (by decide)).trans (hF2527.1 231 10 (by decide)))) (((hF2553.1 231 11 (by decide)).trans (hF2527.1 231 11 (by decide)))) (((hF2553.2.2 231 12 (by decide)).trans (hF2527.2.2 231 12 (by decide))))
                        exact ⟨_, rfl, hI2552, hF2556, _, rfl, by decide, ⟨by omega, by omega, by omega, by omega, w262578, by omega, by omega, (fun hbad => ⟨by omega, (PT.mk (fun _ => pg2565) (fun h => False.elim (by omega)) (fun h h9 => False.elim (by omega)) (fun h => False.elim (by omega)))⟩), (fun hbad => by omega)⟩⟩
                  · have c2354_ : v2348.toInt ≠ 0 := en_k_eq_f c2354
                    refine At.enter rfl ?_
                    refine r_bipush 25 rfl ?_
                    refine r_goto ?_
                    refine At.enter rfl ?_
                    refine r_istore_n ([(2, .int 25), (3, .int v2318), (0, .ref 231), (1, .int a1)]) rfl ?_
                    refine r_aload_n rfl ?_
                    refine r_iload_n rfl ?_
                    refine r_bipush 26 rfl ?_
                    refine r_ict (by decide) ?_
                    refine At.enter rfl ?_
                    refine r_iconst 1 rfl ?_
                    refine r_goto ?_
                    refine At.enter rfl ?_
                    have x2579 := HI.eqI hI2346 (p := 231) (b := 8) ((((hF2347.1 231 8 (by decide)).trans ((hF2335.1 231 8 (by decide)).trans ((hF2326.1 231 8 (by decide)).trans ((hF2317.1 231 8 (by decide)).trans ((hF2307.1 231 8 (by decide)).trans ((hF2295.1 231 8 (by decide)).trans ((hF2283.1 231 8 (by decide)).trans (hF2271.1 231 8 (by decide))))))))).trans hv1))
                    have x2580 := HI.eqI hI2346 (p := 231) (b := 9) ((((hF2347.1 231 9 (by decide)).trans ((hF2335.1 231 9 (by decide)).trans ((hF2326.1 231 9 (by decide)).trans ((hF2317.1 231 9 (by decide)).trans ((hF2307.1 231 9 (by decide)).trans ((hF2295.1 231 9 (by decide)).trans ((hF2283.1 231 9 (by decide)).trans (hF2271.1 231 9 (by decide))))))))).trans hv2))
                    have x2581 := HI.eqI hI2346 (p := 231) (b := 10) ((((hF2347.1 231 10 (by decide)).trans ((hF2335.1 231 10 (by decide)).trans ((hF2326.1 231 10 (by decide)).trans ((hF2317.1 231 10 (by decide)).trans ((hF2307.1 231 10 (by decide)).trans ((hF2295.1 231 10 (by decide)).trans ((hF2283.1 231 10 (by decide)).trans (hF2271.1 231 10 (by decide))))))))).trans hv3))
                    have x2582 := HI.eqI hI2346 (p := 231) (b := 11) ((((hF2347.1 231 11 (by decide)).trans ((hF2335.1 231 11 (by decide)).trans ((hF2326.1 231 11 (by decide)).trans ((hF2317.1 231 11 (by decide)).trans ((hF2307.1 231 11 (by decide)).trans ((hF2295.1 231 11 (by decide)).trans ((hF2283.1 231 11 (by decide)).trans (hF2271.1 231 11 (by decide))))))))).trans hv4))
                    have w262583 := W26.cong hW hI2346 (((hF2347.1 231 9 (by decide)).trans ((hF2335.1 231 9 (by decide)).trans ((hF2326.1 231 9 (by decide)).trans ((hF2317.1 231 9 (by decide)).trans ((hF2307.1 231 9 (by decide)).trans ((hF2295.1 231 9 (by decide)).trans ((hF2283.1 231 9 (by decide)).trans (hF2271.1 231 9 (by decide)))))))))) (((hF2347.1 231 10 (by decide)).trans ((hF2335.1 231 10 (by decide)).trans ((hF2326.1 231 10 (by decide)).trans ((hF2317.1 231 10 (by decide)).trans ((hF2307.1 231 10 (by decide)).trans ((hF2295.1 231 10 (by decide)).trans ((hF2283.1 231 10 (by decide)).trans (hF2271.1 231 10 (by decide)))))))))) (((hF2347.1 231 11 (by decide)).trans ((hF2335.1 231 11 (by decide)).trans ((hF2326.1 231 11 (by decide)).trans ((hF2317.1 231 11 (by decide)).trans ((hF2307.1 231 11 (by decide)).trans ((hF2295.1 231 11 (by decide)).trans ((hF2283.1 231 11 (by decide)).trans (hF2271.1 231 11 (by decide)))))))))) (((hF2347.2.2 231 12 (by decide)).trans ((hF2335.2.2 231 12 (by decide)).trans ((hF2326.2.2 231 12 (by decide)).trans ((hF2317.2.2 231 12 (by decide)).trans ((hF2307.2.2 231 12 (by decide)).trans ((hF2295.2.2 231 12 (by decide)).trans ((hF2283.2.2 231 12 (by decide)).trans (hF2271.2.2 231 12 (by decide))))))))))
                    have zv2584 : (1 : Int32).toInt = 1 := rfl
                    refine r_callV 213 rfl [.ref 231, .int 1] [] (Nat.le_of_ble_eq_true rfl) rfl (T_X11_must_231 _ hI2346 1 (by decide) (by refine ⟨?_, ?_, ?_, ?_⟩ <;> omega) w262583) ?_
                    rintro _ _ ⟨g2585, rfl, hI2586, hF2587, rfl, hr2589⟩
                    refine At.stn ?_
                    have hF2590 := Fr.tr hF2350 hF2587 rfl rfl
                    have zv2591 : (1 : Int32).toInt = 1 := rfl
                    have x2592 := HI.eqI hI2346 (p := 231) (b := 8) ((((hF2347.1 231 8 (by decide)).trans ((hF2335.1 231 8 (by decide)).trans ((hF2326.1 231 8 (by decide)).trans ((hF2317.1 231 8 (by decide)).trans ((hF2307.1 231 8 (by decide)).trans ((hF2295.1 231 8 (by decide)).trans ((hF2283.1 231 8 (by decide)).trans (hF2271.1 231 8 (by decide))))))))).trans hv1))
                    have x2593 := HI.eqI hI2346 (p := 231) (b := 9) ((((hF2347.1 231 9 (by decide)).trans ((hF2335.1 231 9 (by decide)).trans ((hF2326.1 231 9 (by decide)).trans ((hF2317.1 231 9 (by decide)).trans ((hF2307.1 231 9 (by decide)).trans ((hF2295.1 231 9 (by decide)).trans ((hF2283.1 231 9 (by decide)).trans (hF2271.1 231 9 (by decide))))))))).trans hv2))
                    have x2594 := HI.eqI hI2346 (p := 231) (b := 10) ((((hF2347.1 231 10 (by decide)).trans ((hF2335.1 231 10 (by decide)).trans ((hF2326.1 231 10 (by decide)).trans ((hF2317.1 231 10 (by decide)).trans ((hF2307.1 231 10 (by decide)).trans ((hF2295.1 231 10 (by decide)).trans ((hF2283.1 231 10 (by decide)).trans (hF2271.1 231 10 (by decide))))))))).trans hv3))
                    have x2595 := HI.eqI hI2346 (p := 231) (b := 11) ((((hF2347.1 231 11 (by decide)).trans ((hF2335.1 231 11 (by decide)).trans ((hF2326.1 231 11 (by decide)).trans ((hF2317.1 231 11 (by decide)).trans ((hF2307.1 231 11 (by decide)).trans ((hF2295.1 231 11 (by decide)).trans ((hF2283.1 231 11 (by decide)).trans (hF2271.1 231 11 (by decide))))))))).trans hv4))
                    have x2596 := HI.eqI hI2346 (p := 231) (b := 14) ((((hF2347.1 231 14 (by decide)).trans ((hF2335.1 231 14 (by decide)).trans ((hF2326.1 231 14 (by decide)).trans ((hF2317.1 231 14 (by decide)).trans ((hF2307.1 231 14 (by decide)).trans ((hF2295.1 231 14 (by decide)).trans ((hF2283.1 231 14 (by decide)).trans (hF2271.1 231 14 (by decide))))))))).trans hv6))
                    have x2597 := HI.eqI hI2586 (p := 231) (b := 8) ((((hF2587.1 231 8 (by decide)).trans ((hF2347.1 231 8 (by decide)).trans ((hF2335.1 231 8 (by decide)).trans ((hF2326.1 231 8 (by decide)).trans ((hF2317.1 231 8 (by decide)).trans ((hF2307.1 231 8 (by decide)).trans ((hF2295.1 231 8 (by decide)).trans ((hF2283.1 231 8 (by decide)).trans (hF2271.1 231 8 (by decide)))))))))).trans hv1))
                    obtain ⟨v2598, hv2598⟩ : ∃ v, gI g2585 231 9 = v := ⟨_, rfl⟩
                    have rv2598 := RgF.at hI2586.2.1 (p := 231) (b := 9) rfl
                    rw [hv2598] at rv2598
                    dsimp only at rv2598
                    have tv2598 := congrArg Int32.toInt hv2598
                    have x2599 := HI.eqI hI2586 (p := 231) (b := 9) (hv2598)
                    obtain ⟨v2600, hv2600⟩ : ∃ v, gI g2585 231 10 = v := ⟨_, rfl⟩
                    have rv2600 := RgF.at hI2586.2.1 (p := 231) (b := 10) rfl
                    rw [hv2600] at rv2600
                    dsimp only at rv2600
                    have tv2600 := congrArg Int32.toInt hv2600
                    have x2601 := HI.eqI hI2586 (p := 231) (b := 10) (hv2600)
                    obtain ⟨v2602, hv2602⟩ : ∃ v, gI g2585 231 11 = v := ⟨_, rfl⟩
                    have tv2602 := congrArg Int32.toInt hv2602
                    have x2603 := HI.eqI hI2586 (p := 231) (b := 11) (hv2602)
                    obtain ⟨v2604, hv2604⟩ : ∃ v, gI g2585 231 14 = v := ⟨_, rfl⟩
                    have tv2604 := congrArg Int32.toInt hv2604
                    have x2605 := HI.eqI hI2586 (p := 231) (b := 14) (hv2604)
                    obtain ⟨c2606, c2607, c2608, c2609, c2610, c2611, c2612⟩ := hr2589
                    refine At.enter rfl ?_
                    refine r_aload_n rfl ?_
                    refine q_getI (Sh.int hI2586.1 kx_231 rfl) v2604 hv2604 ?_
                    refine r_ifs 220 rfl (fun c2613 => ?_) (fun c2613 => ?_)
                    · have c2613_ : v2604.toInt ≠ 0 := en_k_ne_t c2613
                      clear c2612
                      refine At.enter rfl ?_
                      refine r_iconst 1 rfl ?_
                      refine r_ireti ?_
                      have x2614 := HI.eqI hI2586 (p := 231) (b := 8) ((((hF2587.1 231 8 (by decide)).trans ((hF2347.1 231 8 (by decide)).trans ((hF2335.1 231 8 (by decide)).trans ((hF2326.1 231 8 (by decide)).trans ((hF2317.1 231 8 (by decide)).trans ((hF2307.1 231 8 (by decide)).trans ((hF2295.1 231 8 (by decide)).trans ((hF2283.1 231 8 (by decide)).trans (hF2271.1 231 8 (by decide)))))))))).trans hv1))
                      have x2615 := HI.eqI hI2586 (p := 231) (b := 9) (hv2598)
                      have x2616 := HI.eqI hI2586 (p := 231) (b := 10) (hv2600)
                      have x2617 := HI.eqI hI2586 (p := 231) (b := 11) (hv2602)
                      obtain ⟨v2618, hv2618⟩ : ∃ v, gJ g2585 231 12 = v := ⟨_, rfl⟩
                      have x2619 := HI.eqJ hI2586 (b := 12) (hv2618)
                      have x2620 := HI.eqI hI2586 (p := 231) (b := 14) (hv2604)
                      have x2621 := HI.eqI hI2586 (p := 231) (b := 17) ((((hF2587.1 231 17 (by decide)).trans ((hF2347.1 231 17 (by decide)).trans ((hF2335.1 231 17 (by decide)).trans ((hF2326.1 231 17 (by decide)).trans ((hF2317.1 231 17 (by decide)).trans ((hF2307.1 231 17 (by decide)).trans ((hF2295.1 231 17 (by decide)).trans ((hF2283.1 231 17 (by decide)).trans (hF2271.1 231 17 (by decide)))))))))).trans hv7))
                      have x2622 := HI.eqI hI2586 (p := 231) (b := 23) ((((hF2587.1 231 23 (by decide)).trans ((hF2347.1 231 23 (by decide)).trans ((hF2335.1 231 23 (by decide)).trans ((hF2326.1 231 23 (by decide)).trans ((hF2317.1 231 23 (by decide)).trans ((hF2307.1 231 23 (by decide)).trans ((hF2295.1 231 23 (by decide)).trans ((hF2283.1 231 23 (by decide)).trans (hF2271.1 231 23 (by decide)))))))))).trans hv8))
                      have x2623 := HI.eqI hI0 (p := 231) (b := 9) (hv2)
                      have zv2624 : (1 : Int32).toInt = 1 := rfl
                      exact ⟨_, rfl, hI2586, hF2590, _, rfl, by decide, ⟨by omega, by omega, by omega, by omega, c2611, by omega, by omega, (fun hbad => ⟨by omega, (PT.mk (fun h => False.elim (by omega)) (fun h => False.elim (by omega)) (fun h h9 => False.elim (by omega)) (fun h => False.elim (by omega)))⟩), (fun hbad => by omega)⟩⟩
                    · have c2613_ : v2604.toInt = 0 := en_k_ne_f c2613
                      obtain ⟨i2625, i2626, i2627⟩ := c2612 (by omega)
                      refine At.enter rfl ?_
                      refine r_aload_n rfl ?_
                      refine r_iconst 5 rfl ?_
                      have x2628 := HI.eqI hI2586 (p := 231) (b := 17) ((((hF2587.1 231 17 (by decide)).trans ((hF2347.1 231 17 (by decide)).trans ((hF2335.1 231 17 (by decide)).trans ((hF2326.1 231 17 (by decide)).trans ((hF2317.1 231 17 (by decide)).trans ((hF2307.1 231 17 (by decide)).trans ((hF2295.1 231 17 (by decide)).trans ((hF2283.1 231 17 (by decide)).trans (hF2271.1 231 17 (by decide)))))))))).trans hv7))
                      have x2629 := HI.eqI hI2586 (p := 231) (b := 23) ((((hF2587.1 231 23 (by decide)).trans ((hF2347.1 231 23 (by decide)).trans ((hF2335.1 231 23 (by decide)).trans ((hF2326.1 231 23 (by decide)).trans ((hF2317.1 231 23 (by decide)).trans ((hF2307.1 231 23 (by decide)).trans ((hF2295.1 231 23 (by decide)).trans ((hF2283.1 231 23 (by decide)).trans (hF2271.1 231 23 (by decide)))))))))).trans hv8))
                      have zv2630 : (5 : Int32).toInt = 5 := rfl
                      refine r_callV 225 rfl [.ref 231, .int 5] [] (Nat.le_of_ble_eq_true rfl) rfl (T_X11_settle_231 _ hI2586 5 (by decide) (by omega)) ?_
                      rintro _ _ ⟨g2631, rfl, hI2632, hF2633, rfl, hr2635⟩
                      refine At.stn ?_
                      have hF2636 := Fr.tr hF2590 hF2633 rfl rfl
                      have zv2637 : (5 : Int32).toInt = 5 := rfl
                      have x2638 := HI.eqI hI2586 (p := 231) (b := 17) ((((hF2587.1 231 17 (by decide)).trans ((hF2347.1 231 17 (by decide)).trans ((hF2335.1 231 17 (by decide)).trans ((hF2326.1 231 17 (by decide)).trans ((hF2317.1 231 17 (by decide)).trans ((hF2307.1 231 17 (by decide)).trans ((hF2295.1 231 17 (by decide)).trans ((hF2283.1 231 17 (by decide)).trans (hF2271.1 231 17 (by decide)))))))))).trans hv7))
                      have x2639 := HI.eqI hI2586 (p := 231) (b := 23) ((((hF2587.1 231 23 (by decide)).trans ((hF2347.1 231 23 (by decide)).trans ((hF2335.1 231 23 (by decide)).trans ((hF2326.1 231 23 (by decide)).trans ((hF2317.1 231 23 (by decide)).trans ((hF2307.1 231 23 (by decide)).trans ((hF2295.1 231 23 (by decide)).trans ((hF2283.1 231 23 (by decide)).trans (hF2271.1 231 23 (by decide)))))))))).trans hv8))
                      obtain ⟨v2640, hv2640⟩ : ∃ v, gI g2631 231 17 = v := ⟨_, rfl⟩
                      have rv2640 := RgF.at hI2632.2.1 (p := 231) (b := 17) rfl
                      rw [hv2640] at rv2640
                      dsimp only at rv2640
                      have tv2640 := congrArg Int32.toInt hv2640
                      have x2641 := HI.eqI hI2632 (p := 231) (b := 17) (hv2640)
                      obtain ⟨v2642, hv2642⟩ : ∃ v, gI g2631 231 23 = v := ⟨_, rfl⟩
                      have rv2642 := RgF.at hI2632.2.1 (p := 231) (b := 23) rfl
                      rw [hv2642] at rv2642
                      dsimp only at rv2642
                      have tv2642 := congrArg Int32.toInt hv2642
                      have x2643 := HI.eqI hI2632 (p := 231) (b := 23) (hv2642)
                      have y2644 : (gI _ 231 23).toInt ≤ (gI _ 231 23).toInt := hr2635.1
                      have y2645 : (gI _ 231 17).toInt + (gI _ 231 23).toInt ≤ (gI _ 231 17).toInt + (gI _ 231 23).toInt := hr2635.2.1
                      have inn2646 := INN.cong inn2321 hI2586 (((hF2587.2.1 240 (by decide)).trans ((hF2347.2.1 240 (by decide)).trans ((hF2335.2.1 240 (by decide)).trans (hF2326.2.1 240 (by decide)))))) (((hF2587.1 231 23 (by decide)).trans ((hF2347.1 231 23 (by decide)).trans ((hF2335.1 231 23 (by decide)).trans (hF2326.1 231 23 (by decide))))))
                      have pg2647 := PG.cong (hP.2.1 (by decide)) hI2586 (((hF2587.2.1 238 (by decide)).trans ((hF2347.2.1 238 (by decide)).trans ((hF2335.2.1 238 (by decide)).trans ((hF2326.2.1 238 (by decide)).trans ((hF2317.2.1 238 (by decide)).trans ((hF2307.2.1 238 (by decide)).trans ((hF2295.2.1 238 (by decide)).trans ((hF2283.2.1 238 (by decide)).trans (hF2271.2.1 238 (by decide))))))))))) (((hF2587.2.1 239 (by decide)).trans ((hF2347.2.1 239 (by decide)).trans ((hF2335.2.1 239 (by decide)).trans ((hF2326.2.1 239 (by decide)).trans ((hF2317.2.1 239 (by decide)).trans ((hF2307.2.1 239 (by decide)).trans ((hF2295.2.1 239 (by decide)).trans ((hF2283.2.1 239 (by decide)).trans (hF2271.2.1 239 (by decide))))))))))) (((hF2587.2.1 240 (by decide)).trans ((hF2347.2.1 240 (by decide)).trans ((hF2335.2.1 240 (by decide)).trans ((hF2326.2.1 240 (by decide)).trans ((hF2317.2.1 240 (by decide)).trans ((hF2307.2.1 240 (by decide)).trans ((hF2295.2.1 240 (by decide)).trans ((hF2283.2.1 240 (by decide)).trans (hF2271.2.1 240 (by decide))))))))))) (((hF2587.2.1 241 (by decide)).trans ((hF2347.2.1 241 (by decide)).trans ((hF2335.2.1 241 (by decide)).trans ((hF2326.2.1 241 (by decide)).trans ((hF2317.2.1 241 (by decide)).trans ((hF2307.2.1 241 (by decide)).trans ((hF2295.2.1 241 (by decide)).trans ((hF2283.2.1 241 (by decide)).trans (hF2271.2.1 241 (by decide))))))))))) (((hF2587.1 231 17 (by decide)).trans ((hF2347.1 231 17 (by decide)).trans ((hF2335.1 231 17 (by decide)).trans ((hF2326.1 231 17 (by decide)).trans ((hF2317.1 231 17 (by decide)).trans ((hF2307.1 231 17 (by decide)).trans ((hF2295.1 231 17 (by decide)).trans ((hF2283.1 231 17 (by decide)).trans (hF2271.1 231 17 (by decide))))))))))) (((hF2587.1 231 23 (by decide)).trans ((hF2347.1 231 23 (by decide)).trans ((hF2335.1 231 23 (by decide)).trans ((hF2326.1 231 23 (by decide)).trans ((hF2317.1 231 23 (by decide)).trans ((hF2307.1 231 23 (by decide)).trans ((hF2295.1 231 23 (by decide)).trans ((hF2283.1 231 23 (by decide)).trans (hF2271.1 231 23 (by decide)))))))))))
                      have nsq2648 := INN.nsq inn2646 pg2647 (by omega)
                      have pg2649 := PG.cong (hP.2.1 (by decide)) hI2586 (((hF2587.2.1 238 (by decide)).trans ((hF2347.2.1 238 (by decide)).trans ((hF2335.2.1 238 (by decide)).trans ((hF2326.2.1 238 (by decide)).trans ((hF2317.2.1 238 (by decide)).trans ((hF2307.2.1 238 (by decide)).trans ((hF2295.2.1 238 (by decide)).trans ((hF2283.2.1 238 (by decide)).trans (hF2271.2.1 238 (by decide))))))))))) (((hF2587.2.1 239 (by decide)).trans ((hF2347.2.1 239 (by decide)).trans ((hF2335.2.1 239 (by decide)).trans ((hF2326.2.1 239 (by decide)).trans ((hF2317.2.1 239 (by decide)).trans ((hF2307.2.1 239 (by decide)).trans ((hF2295.2.1 239 (by decide)).trans ((hF2283.2.1 239 (by decide)).trans (hF2271.2.1 239 (by decide))))))))))) (((hF2587.2.1 240 (by decide)).trans ((hF2347.2.1 240 (by decide)).trans ((hF2335.2.1 240 (by decide)).trans ((hF2326.2.1 240 (by decide)).trans ((hF2317.2.1 240 (by decide)).trans ((hF2307.2.1 240 (by decide)).trans ((hF2295.2.1 240 (by decide)).trans ((hF2283.2.1 240 (by decide)).trans (hF2271.2.1 240 (by decide))))))))))) (((hF2587.2.1 241 (by decide)).trans ((hF2347.2.1 241 (by decide)).trans ((hF2335.2.1 241 (by decide)).trans ((hF2326.2.1 241 (by decide)).trans ((hF2317.2.1 241 (by decide)).trans ((hF2307.2.1 241 (by decide)).trans ((hF2295.2.1 241 (by decide)).trans ((hF2283.2.1 241 (by decide)).trans (hF2271.2.1 241 (by decide))))))))))) (((hF2587.1 231 17 (by decide)).trans ((hF2347.1 231 17 (by decide)).trans ((hF2335.1 231 17 (by decide)).trans ((hF2326.1 231 17 (by decide)).trans ((hF2317.1 231 17 (by decide)).trans ((hF2307.1 231 17 (by decide)).trans ((hF2295.1 231 17 (by decide)).trans ((hF2283.1 231 17 (by decide)).trans (hF2271.1 231 17 (by decide))))))))))) (((hF2587.1 231 23 (by decide)).trans ((hF2347.1 231 23 (by decide)).trans ((hF2335.1 231 23 (by decide)).trans ((hF2326.1 231 23 (by decide)).trans ((hF2317.1 231 23 (by decide)).trans ((hF2307.1 231 23 (by decide)).trans ((hF2295.1 231 23 (by decide)).trans ((hF2283.1 231 23 (by decide)).trans (hF2271.1 231 23 (by decide)))))))))))
                      have inn2651 := INN.cong inn2321 hI2586 (((hF2587.2.1 240 (by decide)).trans ((hF2347.2.1 240 (by decide)).trans ((hF2335.2.1 240 (by decide)).trans (hF2326.2.1 240 (by decide)))))) (((hF2587.1 231 23 (by decide)).trans ((hF2347.1 231 23 (by decide)).trans ((hF2335.1 231 23 (by decide)).trans (hF2326.1 231 23 (by decide))))))
                      have pg2650 := hr2635.2.2.1 _ _ _ pg2649
                      have nsq2653 := NSQ.le nsq2648 hI2632 hr2635.2.2.2.2.1 hr2635.1
                      refine At.enter rfl ?_
                      refine r_aload_n rfl ?_
                      refine r_iload_n rfl ?_
                      refine r_iconst 0 rfl ?_
                      have x2654 := HI.eqI hI2632 (p := 231) (b := 23) (hv2642)
                      have zv2655 : (25 : Int32).toInt = 25 := rfl
                      have zv2656 : (0 : Int32).toInt = 0 := rfl
                      refine r_callV 231 rfl [.ref 231, .int 25, .int 0] [] (Nat.le_of_ble_eq_true rfl) rfl (T_X11_push_231 _ hI2632 25 (by decide) 0 (by decide) (by omega)) ?_
                      rintro _ _ ⟨g2657, rfl, hI2658, hF2659, rfl, hr2661⟩
                      refine At.stn ?_
                      have hF2662 := Fr.tr hF2636 hF2659 rfl rfl
                      have zv2663 : (25 : Int32).toInt = 25 := rfl
                      have zv2664 : (0 : Int32).toInt = 0 := rfl
                      have x2665 := HI.eqI hI2632 (p := 231) (b := 17) (hv2640)
                      have x2666 := HI.eqI hI2632 (p := 231) (b := 23) (hv2642)
                      have x2667 := HI.eqI hI2658 (p := 231) (b := 17) (((hF2659.1 231 17 (by decide)).trans hv2640))
                      obtain ⟨v2668, hv2668⟩ : ∃ v, gI g2657 231 23 = v := ⟨_, rfl⟩
                      have rv2668 := RgF.at hI2658.2.1 (p := 231) (b := 23) rfl
                      rw [hv2668] at rv2668
                      dsimp only at rv2668
                      have tv2668 := congrArg Int32.toInt hv2668
                      have x2669 := HI.eqI hI2658 (p := 231) (b := 23) (hv2668)
                      have y2670 : (gI _ 231 23).toInt = (gI _ 231 23).toInt + 1 := hr2661.1
                      have pg2671 := PG.push (e' := 0) pg2650 hr2661 (hF2659.2.1 238 (by decide)) (hF2659.2.1 239 (by decide)) (hF2659.1 231 17 (by decide)) ⟨by omega, by omega⟩ (Or.inr nsq2653) (by omega) (by omega)
                      have nsq2672 := NSQ.push nsq2653 hr2661 (by omega)
                      refine At.enter rfl ?_
                      refine r_iconst 1 rfl ?_
                      refine r_ireti ?_
                      have x2673 := HI.eqI hI2658 (p := 231) (b := 8) ((((hF2659.1 231 8 (by decide)).trans ((hF2633.1 231 8 (by decide)).trans ((hF2587.1 231 8 (by decide)).trans ((hF2347.1 231 8 (by decide)).trans ((hF2335.1 231 8 (by decide)).trans ((hF2326.1 231 8 (by decide)).trans ((hF2317.1 231 8 (by decide)).trans ((hF2307.1 231 8 (by decide)).trans ((hF2295.1 231 8 (by decide)).trans ((hF2283.1 231 8 (by decide)).trans (hF2271.1 231 8 (by decide)))))))))))).trans hv1))
                      have x2674 := HI.eqI hI2658 (p := 231) (b := 9) ((((hF2659.1 231 9 (by decide)).trans (hF2633.1 231 9 (by decide))).trans hv2598))
                      have x2675 := HI.eqI hI2658 (p := 231) (b := 10) ((((hF2659.1 231 10 (by decide)).trans (hF2633.1 231 10 (by decide))).trans hv2600))
                      have x2676 := HI.eqI hI2658 (p := 231) (b := 11) ((((hF2659.1 231 11 (by decide)).trans (hF2633.1 231 11 (by decide))).trans hv2602))
                      obtain ⟨v2677, hv2677⟩ : ∃ v, gJ g2585 231 12 = v := ⟨_, rfl⟩
                      have x2678 := HI.eqJ hI2658 (b := 12) ((((hF2659.2.2 231 12 (by decide)).trans (hF2633.2.2 231 12 (by decide))).trans hv2677))
                      have x2679 := HI.eqI hI2658 (p := 231) (b := 14) ((((hF2659.1 231 14 (by decide)).trans (hF2633.1 231 14 (by decide))).trans hv2604))
                      have x2680 := HI.eqI hI2658 (p := 231) (b := 17) (((hF2659.1 231 17 (by decide)).trans hv2640))
                      have x2681 := HI.eqI hI2658 (p := 231) (b := 23) (hv2668)
                      have x2682 := HI.eqI hI0 (p := 231) (b := 9) (hv2)
                      have zv2683 : (1 : Int32).toInt = 1 := rfl
                      have w262684 := W26.cong c2611 hI2658 (((hF2659.1 231 9 (by decide)).trans (hF2633.1 231 9 (by decide)))) (((hF2659.1 231 10 (by decide)).trans (hF2633.1 231 10 (by decide)))) (((hF2659.1 231 11 (by decide)).trans (hF2633.1 231 11 (by decide)))) (((hF2659.2.2 231 12 (by decide)).trans (hF2633.2.2 231 12 (by decide))))
                      exact ⟨_, rfl, hI2658, hF2662, _, rfl, by decide, ⟨by omega, by omega, by omega, by omega, w262684, by omega, by omega, (fun hbad => ⟨by omega, (PT.mk (fun _ => pg2671) (fun h => False.elim (by omega)) (fun h h9 => False.elim (by omega)) (fun h => False.elim (by omega)))⟩), (fun hbad => by omega)⟩⟩
                · have c2342_ : v2336.toInt ≠ 0 := en_k_eq_f c2342
                  refine At.enter rfl ?_
                  refine r_bipush 24 rfl ?_
                  refine r_goto ?_
                  refine At.enter rfl ?_
                  refine r_istore_n ([(2, .int 24), (3, .int v2318), (0, .ref 231), (1, .int a1)]) rfl ?_
                  refine r_aload_n rfl ?_
                  refine r_iload_n rfl ?_
                  refine r_bipush 26 rfl ?_
                  refine r_ict (by decide) ?_
                  refine At.enter rfl ?_
                  refine r_iconst 1 rfl ?_
                  refine r_goto ?_
                  refine At.enter rfl ?_
                  have x2685 := HI.eqI hI2334 (p := 231) (b := 8) ((((hF2335.1 231 8 (by decide)).trans ((hF2326.1 231 8 (by decide)).trans ((hF2317.1 231 8 (by decide)).trans ((hF2307.1 231 8 (by decide)).trans ((hF2295.1 231 8 (by decide)).trans ((hF2283.1 231 8 (by decide)).trans (hF2271.1 231 8 (by decide)))))))).trans hv1))
                  have x2686 := HI.eqI hI2334 (p := 231) (b := 9) ((((hF2335.1 231 9 (by decide)).trans ((hF2326.1 231 9 (by decide)).trans ((hF2317.1 231 9 (by decide)).trans ((hF2307.1 231 9 (by decide)).trans ((hF2295.1 231 9 (by decide)).trans ((hF2283.1 231 9 (by decide)).trans (hF2271.1 231 9 (by decide)))))))).trans hv2))
                  have x2687 := HI.eqI hI2334 (p := 231) (b := 10) ((((hF2335.1 231 10 (by decide)).trans ((hF2326.1 231 10 (by decide)).trans ((hF2317.1 231 10 (by decide)).trans ((hF2307.1 231 10 (by decide)).trans ((hF2295.1 231 10 (by decide)).trans ((hF2283.1 231 10 (by decide)).trans (hF2271.1 231 10 (by decide)))))))).trans hv3))
                  have x2688 := HI.eqI hI2334 (p := 231) (b := 11) ((((hF2335.1 231 11 (by decide)).trans ((hF2326.1 231 11 (by decide)).trans ((hF2317.1 231 11 (by decide)).trans ((hF2307.1 231 11 (by decide)).trans ((hF2295.1 231 11 (by decide)).trans ((hF2283.1 231 11 (by decide)).trans (hF2271.1 231 11 (by decide)))))))).trans hv4))
                  have w262689 := W26.cong hW hI2334 (((hF2335.1 231 9 (by decide)).trans ((hF2326.1 231 9 (by decide)).trans ((hF2317.1 231 9 (by decide)).trans ((hF2307.1 231 9 (by decide)).trans ((hF2295.1 231 9 (by decide)).trans ((hF2283.1 231 9 (by decide)).trans (hF2271.1 231 9 (by decide))))))))) (((hF2335.1 231 10 (by decide)).trans ((hF2326.1 231 10 (by decide)).trans ((hF2317.1 231 10 (by decide)).trans ((hF2307.1 231 10 (by decide)).trans ((hF2295.1 231 10 (by decide)).trans ((hF2283.1 231 10 (by decide)).trans (hF2271.1 231 10 (by decide))))))))) (((hF2335.1 231 11 (by decide)).trans ((hF2326.1 231 11 (by decide)).trans ((hF2317.1 231 11 (by decide)).trans ((hF2307.1 231 11 (by decide)).trans ((hF2295.1 231 11 (by decide)).trans ((hF2283.1 231 11 (by decide)).trans (hF2271.1 231 11 (by decide))))))))) (((hF2335.2.2 231 12 (by decide)).trans ((hF2326.2.2 231 12 (by decide)).trans ((hF2317.2.2 231 12 (by decide)).trans ((hF2307.2.2 231 12 (by decide)).trans ((hF2295.2.2 231 12 (by decide)).trans ((hF2283.2.2 231 12 (by decide)).trans (hF2271.2.2 231 12 (by decide)))))))))
                  have zv2690 : (1 : Int32).toInt = 1 := rfl
                  refine r_callV 213 rfl [.ref 231, .int 1] [] (Nat.le_of_ble_eq_true rfl) rfl (T_X11_must_231 _ hI2334 1 (by decide) (by refine ⟨?_, ?_, ?_, ?_⟩ <;> omega) w262689) ?_
                  rintro _ _ ⟨g2691, rfl, hI2692, hF2693, rfl, hr2695⟩
                  refine At.stn ?_
                  have hF2696 := Fr.tr hF2338 hF2693 rfl rfl
                  have zv2697 : (1 : Int32).toInt = 1 := rfl
                  have x2698 := HI.eqI hI2334 (p := 231) (b := 8) ((((hF2335.1 231 8 (by decide)).trans ((hF2326.1 231 8 (by decide)).trans ((hF2317.1 231 8 (by decide)).trans ((hF2307.1 231 8 (by decide)).trans ((hF2295.1 231 8 (by decide)).trans ((hF2283.1 231 8 (by decide)).trans (hF2271.1 231 8 (by decide)))))))).trans hv1))
                  have x2699 := HI.eqI hI2334 (p := 231) (b := 9) ((((hF2335.1 231 9 (by decide)).trans ((hF2326.1 231 9 (by decide)).trans ((hF2317.1 231 9 (by decide)).trans ((hF2307.1 231 9 (by decide)).trans ((hF2295.1 231 9 (by decide)).trans ((hF2283.1 231 9 (by decide)).trans (hF2271.1 231 9 (by decide)))))))).trans hv2))
                  have x2700 := HI.eqI hI2334 (p := 231) (b := 10) ((((hF2335.1 231 10 (by decide)).trans ((hF2326.1 231 10 (by decide)).trans ((hF2317.1 231 10 (by decide)).trans ((hF2307.1 231 10 (by decide)).trans ((hF2295.1 231 10 (by decide)).trans ((hF2283.1 231 10 (by decide)).trans (hF2271.1 231 10 (by decide)))))))).trans hv3))
                  have x2701 := HI.eqI hI2334 (p := 231) (b := 11) ((((hF2335.1 231 11 (by decide)).trans ((hF2326.1 231 11 (by decide)).trans ((hF2317.1 231 11 (by decide)).trans ((hF2307.1 231 11 (by decide)).trans ((hF2295.1 231 11 (by decide)).trans ((hF2283.1 231 11 (by decide)).trans (hF2271.1 231 11 (by decide)))))))).trans hv4))
                  have x2702 := HI.eqI hI2334 (p := 231) (b := 14) ((((hF2335.1 231 14 (by decide)).trans ((hF2326.1 231 14 (by decide)).trans ((hF2317.1 231 14 (by decide)).trans ((hF2307.1 231 14 (by decide)).trans ((hF2295.1 231 14 (by decide)).trans ((hF2283.1 231 14 (by decide)).trans (hF2271.1 231 14 (by decide)))))))).trans hv6))
                  have x2703 := HI.eqI hI2692 (p := 231) (b := 8) ((((hF2693.1 231 8 (by decide)).trans ((hF2335.1 231 8 (by decide)).trans ((hF2326.1 231 8 (by decide)).trans ((hF2317.1 231 8 (by decide)).trans ((hF2307.1 231 8 (by decide)).trans ((hF2295.1 231 8 (by decide)).trans ((hF2283.1 231 8 (by decide)).trans (hF2271.1 231 8 (by decide))))))))).trans hv1))
                  obtain ⟨v2704, hv2704⟩ : ∃ v, gI g2691 231 9 = v := ⟨_, rfl⟩
                  have rv2704 := RgF.at hI2692.2.1 (p := 231) (b := 9) rfl
                  rw [hv2704] at rv2704
                  dsimp only at rv2704
                  have tv2704 := congrArg Int32.toInt hv2704
                  have x2705 := HI.eqI hI2692 (p := 231) (b := 9) (hv2704)
                  obtain ⟨v2706, hv2706⟩ : ∃ v, gI g2691 231 10 = v := ⟨_, rfl⟩
                  have rv2706 := RgF.at hI2692.2.1 (p := 231) (b := 10) rfl
                  rw [hv2706] at rv2706
                  dsimp only at rv2706
                  have tv2706 := congrArg Int32.toInt hv2706
                  have x2707 := HI.eqI hI2692 (p := 231) (b := 10) (hv2706)
                  obtain ⟨v2708, hv2708⟩ : ∃ v, gI g2691 231 11 = v := ⟨_, rfl⟩
                  have tv2708 := congrArg Int32.toInt hv2708
                  have x2709 := HI.eqI hI2692 (p := 231) (b := 11) (hv2708)
                  obtain ⟨v2710, hv2710⟩ : ∃ v, gI g2691 231 14 = v := ⟨_, rfl⟩
                  have tv2710 := congrArg Int32.toInt hv2710
                  have x2711 := HI.eqI hI2692 (p := 231) (b := 14) (hv2710)
                  obtain ⟨c2712, c2713, c2714, c2715, c2716, c2717, c2718⟩ := hr2695
                  refine At.enter rfl ?_
                  refine r_aload_n rfl ?_
                  refine q_getI (Sh.int hI2692.1 kx_231 rfl) v2710 hv2710 ?_
                  refine r_ifs 220 rfl (fun c2719 => ?_) (fun c2719 => ?_)
                  · have c2719_ : v2710.toInt ≠ 0 := en_k_ne_t c2719
                    clear c2718
                    refine At.enter rfl ?_
                    refine r_iconst 1 rfl ?_
                    refine r_ireti ?_
                    have x2720 := HI.eqI hI2692 (p := 231) (b := 8) ((((hF2693.1 231 8 (by decide)).trans ((hF2335.1 231 8 (by decide)).trans ((hF2326.1 231 8 (by decide)).trans ((hF2317.1 231 8 (by decide)).trans ((hF2307.1 231 8 (by decide)).trans ((hF2295.1 231 8 (by decide)).trans ((hF2283.1 231 8 (by decide)).trans (hF2271.1 231 8 (by decide))))))))).trans hv1))
                    have x2721 := HI.eqI hI2692 (p := 231) (b := 9) (hv2704)
                    have x2722 := HI.eqI hI2692 (p := 231) (b := 10) (hv2706)
                    have x2723 := HI.eqI hI2692 (p := 231) (b := 11) (hv2708)
                    obtain ⟨v2724, hv2724⟩ : ∃ v, gJ g2691 231 12 = v := ⟨_, rfl⟩
                    have x2725 := HI.eqJ hI2692 (b := 12) (hv2724)
                    have x2726 := HI.eqI hI2692 (p := 231) (b := 14) (hv2710)
                    have x2727 := HI.eqI hI2692 (p := 231) (b := 17) ((((hF2693.1 231 17 (by decide)).trans ((hF2335.1 231 17 (by decide)).trans ((hF2326.1 231 17 (by decide)).trans ((hF2317.1 231 17 (by decide)).trans ((hF2307.1 231 17 (by decide)).trans ((hF2295.1 231 17 (by decide)).trans ((hF2283.1 231 17 (by decide)).trans (hF2271.1 231 17 (by decide))))))))).trans hv7))
                    have x2728 := HI.eqI hI2692 (p := 231) (b := 23) ((((hF2693.1 231 23 (by decide)).trans ((hF2335.1 231 23 (by decide)).trans ((hF2326.1 231 23 (by decide)).trans ((hF2317.1 231 23 (by decide)).trans ((hF2307.1 231 23 (by decide)).trans ((hF2295.1 231 23 (by decide)).trans ((hF2283.1 231 23 (by decide)).trans (hF2271.1 231 23 (by decide))))))))).trans hv8))
                    have x2729 := HI.eqI hI0 (p := 231) (b := 9) (hv2)
                    have zv2730 : (1 : Int32).toInt = 1 := rfl
                    exact ⟨_, rfl, hI2692, hF2696, _, rfl, by decide, ⟨by omega, by omega, by omega, by omega, c2717, by omega, by omega, (fun hbad => ⟨by omega, (PT.mk (fun h => False.elim (by omega)) (fun h => False.elim (by omega)) (fun h h9 => False.elim (by omega)) (fun h => False.elim (by omega)))⟩), (fun hbad => by omega)⟩⟩
                  · have c2719_ : v2710.toInt = 0 := en_k_ne_f c2719
                    obtain ⟨i2731, i2732, i2733⟩ := c2718 (by omega)
                    refine At.enter rfl ?_
                    refine r_aload_n rfl ?_
                    refine r_iconst 5 rfl ?_
                    have x2734 := HI.eqI hI2692 (p := 231) (b := 17) ((((hF2693.1 231 17 (by decide)).trans ((hF2335.1 231 17 (by decide)).trans ((hF2326.1 231 17 (by decide)).trans ((hF2317.1 231 17 (by decide)).trans ((hF2307.1 231 17 (by decide)).trans ((hF2295.1 231 17 (by decide)).trans ((hF2283.1 231 17 (by decide)).trans (hF2271.1 231 17 (by decide))))))))).trans hv7))
                    have x2735 := HI.eqI hI2692 (p := 231) (b := 23) ((((hF2693.1 231 23 (by decide)).trans ((hF2335.1 231 23 (by decide)).trans ((hF2326.1 231 23 (by decide)).trans ((hF2317.1 231 23 (by decide)).trans ((hF2307.1 231 23 (by decide)).trans ((hF2295.1 231 23 (by decide)).trans ((hF2283.1 231 23 (by decide)).trans (hF2271.1 231 23 (by decide))))))))).trans hv8))
                    have zv2736 : (5 : Int32).toInt = 5 := rfl
                    refine r_callV 225 rfl [.ref 231, .int 5] [] (Nat.le_of_ble_eq_true rfl) rfl (T_X11_settle_231 _ hI2692 5 (by decide) (by omega)) ?_
                    rintro _ _ ⟨g2737, rfl, hI2738, hF2739, rfl, hr2741⟩
                    refine At.stn ?_
                    have hF2742 := Fr.tr hF2696 hF2739 rfl rfl
                    have zv2743 : (5 : Int32).toInt = 5 := rfl
                    have x2744 := HI.eqI hI2692 (p := 231) (b := 17) ((((hF2693.1 231 17 (by decide)).trans ((hF2335.1 231 17 (by decide)).trans ((hF2326.1 231 17 (by decide)).trans ((hF2317.1 231 17 (by decide)).trans ((hF2307.1 231 17 (by decide)).trans ((hF2295.1 231 17 (by decide)).trans ((hF2283.1 231 17 (by decide)).trans (hF2271.1 231 17 (by decide))))))))).trans hv7))
                    have x2745 := HI.eqI hI2692 (p := 231) (b := 23) ((((hF2693.1 231 23 (by decide)).trans ((hF2335.1 231 23 (by decide)).trans ((hF2326.1 231 23 (by decide)).trans ((hF2317.1 231 23 (by decide)).trans ((hF2307.1 231 23 (by decide)).trans ((hF2295.1 231 23 (by decide)).trans ((hF2283.1 231 23 (by decide)).trans (hF2271.1 231 23 (by decide))))))))).trans hv8))
                    obtain ⟨v2746, hv2746⟩ : ∃ v, gI g2737 231 17 = v := ⟨_, rfl⟩
                    have rv2746 := RgF.at hI2738.2.1 (p := 231) (b := 17) rfl
                    rw [hv2746] at rv2746
                    dsimp only at rv2746
                    have tv2746 := congrArg Int32.toInt hv2746
                    have x2747 := HI.eqI hI2738 (p := 231) (b := 17) (hv2746)
                    obtain ⟨v2748, hv2748⟩ : ∃ v, gI g2737 231 23 = v := ⟨_, rfl⟩
                    have rv2748 := RgF.at hI2738.2.1 (p := 231) (b := 23) rfl
                    rw [hv2748] at rv2748
                    dsimp only at rv2748
                    have tv2748 := congrArg Int32.toInt hv2748
                    have x2749 := HI.eqI hI2738 (p := 231) (b := 23) (hv2748)
                    have y2750 : (gI _ 231 23).toInt ≤ (gI _ 231 23).toInt := hr2741.1
                    have y2751 : (gI _ 231 17).toInt + (gI _ 231 23).toInt ≤ (gI _ 231 17).toInt + (gI _ 231 23).toInt := hr2741.2.1
                    have inn2752 := INN.cong inn2321 hI2692 (((hF2693.2.1 240 (by decide)).trans ((hF2335.2.1 240 (by decide)).trans (hF2326.2.1 240 (by decide))))) (((hF2693.1 231 23 (by decide)).trans ((hF2335.1 231 23 (by decide)).trans (hF2326.1 231 23 (by decide)))))
                    have pg2753 := PG.cong (hP.2.1 (by decide)) hI2692 (((hF2693.2.1 238 (by decide)).trans ((hF2335.2.1 238 (by decide)).trans ((hF2326.2.1 238 (by decide)).trans ((hF2317.2.1 238 (by decide)).trans ((hF2307.2.1 238 (by decide)).trans ((hF2295.2.1 238 (by decide)).trans ((hF2283.2.1 238 (by decide)).trans (hF2271.2.1 238 (by decide)))))))))) (((hF2693.2.1 239 (by decide)).trans ((hF2335.2.1 239 (by decide)).trans ((hF2326.2.1 239 (by decide)).trans ((hF2317.2.1 239 (by decide)).trans ((hF2307.2.1 239 (by decide)).trans ((hF2295.2.1 239 (by decide)).trans ((hF2283.2.1 239 (by decide)).trans (hF2271.2.1 239 (by decide)))))))))) (((hF2693.2.1 240 (by decide)).trans ((hF2335.2.1 240 (by decide)).trans ((hF2326.2.1 240 (by decide)).trans ((hF2317.2.1 240 (by decide)).trans ((hF2307.2.1 240 (by decide)).trans ((hF2295.2.1 240 (by decide)).trans ((hF2283.2.1 240 (by decide)).trans (hF2271.2.1 240 (by decide)))))))))) (((hF2693.2.1 241 (by decide)).trans ((hF2335.2.1 241 (by decide)).trans ((hF2326.2.1 241 (by decide)).trans ((hF2317.2.1 241 (by decide)).trans ((hF2307.2.1 241 (by decide)).trans ((hF2295.2.1 241 (by decide)).trans ((hF2283.2.1 241 (by decide)).trans (hF2271.2.1 241 (by decide)))))))))) (((hF2693.1 231 17 (by decide)).trans ((hF2335.1 231 17 (by decide)).trans ((hF2326.1 231 17 (by decide)).trans ((hF2317.1 231 17 (by decide)).trans ((hF2307.1 231 17 (by decide)).trans ((hF2295.1 231 17 (by decide)).trans ((hF2283.1 231 17 (by decide)).trans (hF2271.1 231 17 (by decide)))))))))) (((hF2693.1 231 23 (by decide)).trans ((hF2335.1 231 23 (by decide)).trans ((hF2326.1 231 23 (by decide)).trans ((hF2317.1 231 23 (by decide)).trans ((hF2307.1 231 23 (by decide)).trans ((hF2295.1 231 23 (by decide)).trans ((hF2283.1 231 23 (by decide)).trans (hF2271.1 231 23 (by decide))))))))))
                    have nsq2754 := INN.nsq inn2752 pg2753 (by omega)
                    have pg2755 := PG.cong (hP.2.1 (by decide)) hI2692 (((hF2693.2.1 238 (by decide)).trans ((hF2335.2.1 238 (by decide)).trans ((hF2326.2.1 238 (by decide)).trans ((hF2317.2.1 238 (by decide)).trans ((hF2307.2.1 238 (by decide)).trans ((hF2295.2.1 238 (by decide)).trans ((hF2283.2.1 238 (by decide)).trans (hF2271.2.1 238 (by decide)))))))))) (((hF2693.2.1 239 (by decide)).trans ((hF2335.2.1 239 (by decide)).trans ((hF2326.2.1 239 (by decide)).trans ((hF2317.2.1 239 (by decide)).trans ((hF2307.2.1 239 (by decide)).trans ((hF2295.2.1 239 (by decide)).trans ((hF2283.2.1 239 (by decide)).trans (hF2271.2.1 239 (by decide)))))))))) (((hF2693.2.1 240 (by decide)).trans ((hF2335.2.1 240 (by decide)).trans ((hF2326.2.1 240 (by decide)).trans ((hF2317.2.1 240 (by decide)).trans ((hF2307.2.1 240 (by decide)).trans ((hF2295.2.1 240 (by decide)).trans ((hF2283.2.1 240 (by decide)).trans (hF2271.2.1 240 (by decide)))))))))) (((hF2693.2.1 241 (by decide)).trans ((hF2335.2.1 241 (by decide)).trans ((hF2326.2.1 241 (by decide)).trans ((hF2317.2.1 241 (by decide)).trans ((hF2307.2.1 241 (by decide)).trans ((hF2295.2.1 241 (by decide)).trans ((hF2283.2.1 241 (by decide)).trans (hF2271.2.1 241 (by decide)))))))))) (((hF2693.1 231 17 (by decide)).trans ((hF2335.1 231 17 (by decide)).trans ((hF2326.1 231 17 (by decide)).trans ((hF2317.1 231 17 (by decide)).trans ((hF2307.1 231 17 (by decide)).trans ((hF2295.1 231 17 (by decide)).trans ((hF2283.1 231 17 (by decide)).trans (hF2271.1 231 17 (by decide)))))))))) (((hF2693.1 231 23 (by decide)).trans ((hF2335.1 231 23 (by decide)).trans ((hF2326.1 231 23 (by decide)).trans ((hF2317.1 231 23 (by decide)).trans ((hF2307.1 231 23 (by decide)).trans ((hF2295.1 231 23 (by decide)).trans ((hF2283.1 231 23 (by decide)).trans (hF2271.1 231 23 (by decide))))))))))
                    have inn2757 := INN.cong inn2321 hI2692 (((hF2693.2.1 240 (by decide)).trans ((hF2335.2.1 240 (by decide)).trans (hF2326.2.1 240 (by decide))))) (((hF2693.1 231 23 (by decide)).trans ((hF2335.1 231 23 (by decide)).trans (hF2326.1 231 23 (by decide)))))
                    have pg2756 := hr2741.2.2.1 _ _ _ pg2755
                    have nsq2759 := NSQ.le nsq2754 hI2738 hr2741.2.2.2.2.1 hr2741.1
                    refine At.enter rfl ?_
                    refine r_aload_n rfl ?_
                    refine r_iload_n rfl ?_
                    refine r_iconst 0 rfl ?_
                    have x2760 := HI.eqI hI2738 (p := 231) (b := 23) (hv2748)
                    have zv2761 : (24 : Int32).toInt = 24 := rfl
                    have zv2762 : (0 : Int32).toInt = 0 := rfl
                    refine r_callV 231 rfl [.ref 231, .int 24, .int 0] [] (Nat.le_of_ble_eq_true rfl) rfl (T_X11_push_231 _ hI2738 24 (by decide) 0 (by decide) (by omega)) ?_
                    rintro _ _ ⟨g2763, rfl, hI2764, hF2765, rfl, hr2767⟩
                    refine At.stn ?_
                    have hF2768 := Fr.tr hF2742 hF2765 rfl rfl
                    have zv2769 : (24 : Int32).toInt = 24 := rfl
                    have zv2770 : (0 : Int32).toInt = 0 := rfl
                    have x2771 := HI.eqI hI2738 (p := 231) (b := 17) (hv2746)
                    have x2772 := HI.eqI hI2738 (p := 231) (b := 23) (hv2748)
                    have x2773 := HI.eqI hI2764 (p := 231) (b := 17) (((hF2765.1 231 17 (by decide)).trans hv2746))
                    obtain ⟨v2774, hv2774⟩ : ∃ v, gI g2763 231 23 = v := ⟨_, rfl⟩
                    have rv2774 := RgF.at hI2764.2.1 (p := 231) (b := 23) rfl
                    rw [hv2774] at rv2774
                    dsimp only at rv2774
                    have tv2774 := congrArg Int32.toInt hv2774
                    have x2775 := HI.eqI hI2764 (p := 231) (b := 23) (hv2774)
                    have y2776 : (gI _ 231 23).toInt = (gI _ 231 23).toInt + 1 := hr2767.1
                    have pg2777 := PG.push (e' := 0) pg2756 hr2767 (hF2765.2.1 238 (by decide)) (hF2765.2.1 239 (by decide)) (hF2765.1 231 17 (by decide)) ⟨by omega, by omega⟩ (Or.inr nsq2759) (by omega) (by omega)
                    have nsq2778 := NSQ.push nsq2759 hr2767 (by omega)
                    refine At.enter rfl ?_
                    refine r_iconst 1 rfl ?_
                    refine r_ireti ?_
                    have x2779 := HI.eqI hI2764 (p := 231) (b := 8) ((((hF2765.1 231 8 (by decide)).trans ((hF2739.1 231 8 (by decide)).trans ((hF2693.1 231 8 (by decide)).trans ((hF2335.1 231 8 (by decide)).trans ((hF2326.1 231 8 (by decide)).trans ((hF2317.1 231 8 (by decide)).trans ((hF2307.1 231 8 (by decide)).trans ((hF2295.1 231 8 (by decide)).trans ((hF2283.1 231 8 (by decide)).trans (hF2271.1 231 8 (by decide))))))))))).trans hv1))
                    have x2780 := HI.eqI hI2764 (p := 231) (b := 9) ((((hF2765.1 231 9 (by decide)).trans (hF2739.1 231 9 (by decide))).trans hv2704))
                    have x2781 := HI.eqI hI2764 (p := 231) (b := 10) ((((hF2765.1 231 10 (by decide)).trans (hF2739.1 231 10 (by decide))).trans hv2706))
                    have x2782 := HI.eqI hI2764 (p := 231) (b := 11) ((((hF2765.1 231 11 (by decide)).trans (hF2739.1 231 11 (by decide))).trans hv2708))
                    obtain ⟨v2783, hv2783⟩ : ∃ v, gJ g2691 231 12 = v := ⟨_, rfl⟩
                    have x2784 := HI.eqJ hI2764 (b := 12) ((((hF2765.2.2 231 12 (by decide)).trans (hF2739.2.2 231 12 (by decide))).trans hv2783))
                    have x2785 := HI.eqI hI2764 (p := 231) (b := 14) ((((hF2765.1 231 14 (by decide)).trans (hF2739.1 231 14 (by decide))).trans hv2710))
                    have x2786 := HI.eqI hI2764 (p := 231) (b := 17) (((hF2765.1 231 17 (by decide)).trans hv2746))
                    have x2787 := HI.eqI hI2764 (p := 231) (b := 23) (hv2774)
                    have x2788 := HI.eqI hI0 (p := 231) (b := 9) (hv2)
                    have zv2789 : (1 : Int32).toInt = 1 := rfl
                    have w262790 := W26.cong c2717 hI2764 (((hF2765.1 231 9 (by decide)).trans (hF2739.1 231 9 (by decide)))) (((hF2765.1 231 10 (by decide)).trans (hF2739.1 231 10 (by decide)))) (((hF2765.1 231 11 (by decide)).trans (hF2739.1 231 11 (by decide)))) (((hF2765.2.2 231 12 (by decide)).trans (hF2739.2.2 231 12 (by decide))))
                    exact ⟨_, rfl, hI2764, hF2768, _, rfl, by decide, ⟨by omega, by omega, by omega, by omega, w262790, by omega, by omega, (fun hbad => ⟨by omega, (PT.mk (fun _ => pg2777) (fun h => False.elim (by omega)) (fun h h9 => False.elim (by omega)) (fun h => False.elim (by omega)))⟩), (fun hbad => by omega)⟩⟩
              · have c2330_ : v2327.toInt ≠ 0 := en_k_eq_f c2330
                refine At.enter rfl ?_
                refine r_iconst 2 rfl ?_
                refine r_ireti ?_
                have x2791 := HI.eqI hI2325 (p := 231) (b := 8) ((((hF2326.1 231 8 (by decide)).trans ((hF2317.1 231 8 (by decide)).trans ((hF2307.1 231 8 (by decide)).trans ((hF2295.1 231 8 (by decide)).trans ((hF2283.1 231 8 (by decide)).trans (hF2271.1 231 8 (by decide))))))).trans hv1))
                have x2792 := HI.eqI hI2325 (p := 231) (b := 9) ((((hF2326.1 231 9 (by decide)).trans ((hF2317.1 231 9 (by decide)).trans ((hF2307.1 231 9 (by decide)).trans ((hF2295.1 231 9 (by decide)).trans ((hF2283.1 231 9 (by decide)).trans (hF2271.1 231 9 (by decide))))))).trans hv2))
                have x2793 := HI.eqI hI2325 (p := 231) (b := 10) ((((hF2326.1 231 10 (by decide)).trans ((hF2317.1 231 10 (by decide)).trans ((hF2307.1 231 10 (by decide)).trans ((hF2295.1 231 10 (by decide)).trans ((hF2283.1 231 10 (by decide)).trans (hF2271.1 231 10 (by decide))))))).trans hv3))
                have x2794 := HI.eqI hI2325 (p := 231) (b := 11) ((((hF2326.1 231 11 (by decide)).trans ((hF2317.1 231 11 (by decide)).trans ((hF2307.1 231 11 (by decide)).trans ((hF2295.1 231 11 (by decide)).trans ((hF2283.1 231 11 (by decide)).trans (hF2271.1 231 11 (by decide))))))).trans hv4))
                have x2795 := HI.eqJ hI2325 (b := 12) ((((hF2326.2.2 231 12 (by decide)).trans ((hF2317.2.2 231 12 (by decide)).trans ((hF2307.2.2 231 12 (by decide)).trans ((hF2295.2.2 231 12 (by decide)).trans ((hF2283.2.2 231 12 (by decide)).trans (hF2271.2.2 231 12 (by decide))))))).trans hv5))
                have x2796 := HI.eqI hI2325 (p := 231) (b := 14) ((((hF2326.1 231 14 (by decide)).trans ((hF2317.1 231 14 (by decide)).trans ((hF2307.1 231 14 (by decide)).trans ((hF2295.1 231 14 (by decide)).trans ((hF2283.1 231 14 (by decide)).trans (hF2271.1 231 14 (by decide))))))).trans hv6))
                have x2797 := HI.eqI hI2325 (p := 231) (b := 17) ((((hF2326.1 231 17 (by decide)).trans ((hF2317.1 231 17 (by decide)).trans ((hF2307.1 231 17 (by decide)).trans ((hF2295.1 231 17 (by decide)).trans ((hF2283.1 231 17 (by decide)).trans (hF2271.1 231 17 (by decide))))))).trans hv7))
                have x2798 := HI.eqI hI2325 (p := 231) (b := 23) ((((hF2326.1 231 23 (by decide)).trans ((hF2317.1 231 23 (by decide)).trans ((hF2307.1 231 23 (by decide)).trans ((hF2295.1 231 23 (by decide)).trans ((hF2283.1 231 23 (by decide)).trans (hF2271.1 231 23 (by decide))))))).trans hv8))
                have x2799 := HI.eqI hI0 (p := 231) (b := 9) (hv2)
                have zv2800 : (2 : Int32).toInt = 2 := rfl
                have pg2801 := PG.cong (hP.2.1 (by decide)) hI2325 (((hF2326.2.1 238 (by decide)).trans ((hF2317.2.1 238 (by decide)).trans ((hF2307.2.1 238 (by decide)).trans ((hF2295.2.1 238 (by decide)).trans ((hF2283.2.1 238 (by decide)).trans (hF2271.2.1 238 (by decide)))))))) (((hF2326.2.1 239 (by decide)).trans ((hF2317.2.1 239 (by decide)).trans ((hF2307.2.1 239 (by decide)).trans ((hF2295.2.1 239 (by decide)).trans ((hF2283.2.1 239 (by decide)).trans (hF2271.2.1 239 (by decide)))))))) (((hF2326.2.1 240 (by decide)).trans ((hF2317.2.1 240 (by decide)).trans ((hF2307.2.1 240 (by decide)).trans ((hF2295.2.1 240 (by decide)).trans ((hF2283.2.1 240 (by decide)).trans (hF2271.2.1 240 (by decide)))))))) (((hF2326.2.1 241 (by decide)).trans ((hF2317.2.1 241 (by decide)).trans ((hF2307.2.1 241 (by decide)).trans ((hF2295.2.1 241 (by decide)).trans ((hF2283.2.1 241 (by decide)).trans (hF2271.2.1 241 (by decide)))))))) (((hF2326.1 231 17 (by decide)).trans ((hF2317.1 231 17 (by decide)).trans ((hF2307.1 231 17 (by decide)).trans ((hF2295.1 231 17 (by decide)).trans ((hF2283.1 231 17 (by decide)).trans (hF2271.1 231 17 (by decide)))))))) (((hF2326.1 231 23 (by decide)).trans ((hF2317.1 231 23 (by decide)).trans ((hF2307.1 231 23 (by decide)).trans ((hF2295.1 231 23 (by decide)).trans ((hF2283.1 231 23 (by decide)).trans (hF2271.1 231 23 (by decide))))))))
                have inn2802 := INN.cong inn2321 hI2325 ((hF2326.2.1 240 (by decide))) ((hF2326.1 231 23 (by decide)))
                have pg2803 := PG.cong (hP.2.1 (by decide)) hI2325 (((hF2326.2.1 238 (by decide)).trans ((hF2317.2.1 238 (by decide)).trans ((hF2307.2.1 238 (by decide)).trans ((hF2295.2.1 238 (by decide)).trans ((hF2283.2.1 238 (by decide)).trans (hF2271.2.1 238 (by decide)))))))) (((hF2326.2.1 239 (by decide)).trans ((hF2317.2.1 239 (by decide)).trans ((hF2307.2.1 239 (by decide)).trans ((hF2295.2.1 239 (by decide)).trans ((hF2283.2.1 239 (by decide)).trans (hF2271.2.1 239 (by decide)))))))) (((hF2326.2.1 240 (by decide)).trans ((hF2317.2.1 240 (by decide)).trans ((hF2307.2.1 240 (by decide)).trans ((hF2295.2.1 240 (by decide)).trans ((hF2283.2.1 240 (by decide)).trans (hF2271.2.1 240 (by decide)))))))) (((hF2326.2.1 241 (by decide)).trans ((hF2317.2.1 241 (by decide)).trans ((hF2307.2.1 241 (by decide)).trans ((hF2295.2.1 241 (by decide)).trans ((hF2283.2.1 241 (by decide)).trans (hF2271.2.1 241 (by decide)))))))) (((hF2326.1 231 17 (by decide)).trans ((hF2317.1 231 17 (by decide)).trans ((hF2307.1 231 17 (by decide)).trans ((hF2295.1 231 17 (by decide)).trans ((hF2283.1 231 17 (by decide)).trans (hF2271.1 231 17 (by decide)))))))) (((hF2326.1 231 23 (by decide)).trans ((hF2317.1 231 23 (by decide)).trans ((hF2307.1 231 23 (by decide)).trans ((hF2295.1 231 23 (by decide)).trans ((hF2283.1 231 23 (by decide)).trans (hF2271.1 231 23 (by decide))))))))
                have nsq2804 := INN.nsq inn2802 pg2803 (by omega)
                have w262805 := W26.cong hW hI2325 (((hF2326.1 231 9 (by decide)).trans ((hF2317.1 231 9 (by decide)).trans ((hF2307.1 231 9 (by decide)).trans ((hF2295.1 231 9 (by decide)).trans ((hF2283.1 231 9 (by decide)).trans (hF2271.1 231 9 (by decide)))))))) (((hF2326.1 231 10 (by decide)).trans ((hF2317.1 231 10 (by decide)).trans ((hF2307.1 231 10 (by decide)).trans ((hF2295.1 231 10 (by decide)).trans ((hF2283.1 231 10 (by decide)).trans (hF2271.1 231 10 (by decide)))))))) (((hF2326.1 231 11 (by decide)).trans ((hF2317.1 231 11 (by decide)).trans ((hF2307.1 231 11 (by decide)).trans ((hF2295.1 231 11 (by decide)).trans ((hF2283.1 231 11 (by decide)).trans (hF2271.1 231 11 (by decide)))))))) (((hF2326.2.2 231 12 (by decide)).trans ((hF2317.2.2 231 12 (by decide)).trans ((hF2307.2.2 231 12 (by decide)).trans ((hF2295.2.2 231 12 (by decide)).trans ((hF2283.2.2 231 12 (by decide)).trans (hF2271.2.2 231 12 (by decide))))))))
                exact ⟨_, rfl, hI2325, hF2329, _, rfl, by decide, ⟨by omega, by omega, by omega, by omega, w262805, by omega, by omega, (fun hbad => ⟨by omega, (PT.mk (fun h => False.elim (by omega)) (fun _ => pg2801) (fun _ _ => nsq2804) (fun h => False.elim (by omega)))⟩), (fun hbad => by omega)⟩⟩
            · have c2323_ : v2318.toInt = (-1) := en_i_ne_f c2323
              refine At.enter rfl ?_
              refine r_iload_n rfl ?_
              refine r_ifs 147 rfl (fun c2806 => ?_) (fun c2806 => ?_)
              · have c2806_ : a1.toInt ≠ 0 := en_k_ne_t c2806
                refine At.enter rfl ?_
                refine r_aload_n rfl ?_
                refine r_callV 153 rfl [.ref 231] [] (Nat.le_of_ble_eq_true rfl) rfl (T_X11_isCompared_231 _ hI2316) ?_
                rintro _ _ ⟨g2807, rfl, hI2808, hF2809, v2810, rfl, hr2811⟩
                refine At.sti ?_
                have hF2812 := Fr.tr hF2320 hF2809 rfl rfl
                refine At.enter rfl ?_
                refine r_ifs 156 rfl (fun c2813 => ?_) (fun c2813 => ?_)
                · have c2813_ : v2810.toInt = 0 := en_k_eq_t c2813
                  refine At.enter rfl ?_
                  refine r_aload_n rfl ?_
                  refine r_bipush 60 rfl ?_
                  have x2814 := HI.eqI hI2808 (p := 231) (b := 11) ((((hF2809.1 231 11 (by decide)).trans ((hF2317.1 231 11 (by decide)).trans ((hF2307.1 231 11 (by decide)).trans ((hF2295.1 231 11 (by decide)).trans ((hF2283.1 231 11 (by decide)).trans (hF2271.1 231 11 (by decide))))))).trans hv4))
                  have zv2815 : (60 : Int32).toInt = 60 := rfl
                  refine r_callV 164 rfl [.ref 231, .int 60] [] (Nat.le_of_ble_eq_true rfl) rfl (T_X11_isSign_231 _ hI2808 60 (by omega)) ?_
                  rintro _ _ ⟨g2816, rfl, hI2817, hF2818, v2819, rfl, hr2820⟩
                  refine At.sti ?_
                  have hF2821 := Fr.tr hF2812 hF2818 rfl rfl
                  have zv2822 : (60 : Int32).toInt = 60 := rfl
                  have x2823 := HI.eqI hI2808 (p := 231) (b := 11) ((((hF2809.1 231 11 (by decide)).trans ((hF2317.1 231 11 (by decide)).trans ((hF2307.1 231 11 (by decide)).trans ((hF2295.1 231 11 (by decide)).trans ((hF2283.1 231 11 (by decide)).trans (hF2271.1 231 11 (by decide))))))).trans hv4))
                  have x2824 := HI.eqI hI2817 (p := 231) (b := 11) ((((hF2818.1 231 11 (by decide)).trans ((hF2809.1 231 11 (by decide)).trans ((hF2317.1 231 11 (by decide)).trans ((hF2307.1 231 11 (by decide)).trans ((hF2295.1 231 11 (by decide)).trans ((hF2283.1 231 11 (by decide)).trans (hF2271.1 231 11 (by decide)))))))).trans hv4))
                  refine At.enter rfl ?_
                  refine r_ifs 167 rfl (fun c2825 => ?_) (fun c2825 => ?_)
                  · have c2825_ : v2819.toInt = 0 := en_k_eq_t c2825
                    refine At.enter rfl ?_
                    refine r_aload_n rfl ?_
                    refine r_bipush 62 rfl ?_
                    have x2826 := HI.eqI hI2817 (p := 231) (b := 11) ((((hF2818.1 231 11 (by decide)).trans ((hF2809.1 231 11 (by decide)).trans ((hF2317.1 231 11 (by decide)).trans ((hF2307.1 231 11 (by decide)).trans ((hF2295.1 231 11 (by decide)).trans ((hF2283.1 231 11 (by decide)).trans (hF2271.1 231 11 (by decide)))))))).trans hv4))
                    have zv2827 : (62 : Int32).toInt = 62 := rfl
                    refine r_callV 178 rfl [.ref 231, .int 62] [] (Nat.le_of_ble_eq_true rfl) rfl (T_X11_isSign_231 _ hI2817 62 (by omega)) ?_
                    rintro _ _ ⟨g2828, rfl, hI2829, hF2830, v2831, rfl, hr2832⟩
                    refine At.sti ?_
                    have hF2833 := Fr.tr hF2821 hF2830 rfl rfl
                    have zv2834 : (62 : Int32).toInt = 62 := rfl
                    have x2835 := HI.eqI hI2817 (p := 231) (b := 11) ((((hF2818.1 231 11 (by decide)).trans ((hF2809.1 231 11 (by decide)).trans ((hF2317.1 231 11 (by decide)).trans ((hF2307.1 231 11 (by decide)).trans ((hF2295.1 231 11 (by decide)).trans ((hF2283.1 231 11 (by decide)).trans (hF2271.1 231 11 (by decide)))))))).trans hv4))
                    have x2836 := HI.eqI hI2829 (p := 231) (b := 11) ((((hF2830.1 231 11 (by decide)).trans ((hF2818.1 231 11 (by decide)).trans ((hF2809.1 231 11 (by decide)).trans ((hF2317.1 231 11 (by decide)).trans ((hF2307.1 231 11 (by decide)).trans ((hF2295.1 231 11 (by decide)).trans ((hF2283.1 231 11 (by decide)).trans (hF2271.1 231 11 (by decide))))))))).trans hv4))
                    refine At.enter rfl ?_
                    refine r_ifs 181 rfl (fun c2837 => ?_) (fun c2837 => ?_)
                    · have c2837_ : v2831.toInt = 0 := en_k_eq_t c2837
                      refine At.enter rfl ?_
                      refine r_bipush 26 rfl ?_
                      refine Ar.fall 188 rfl ?_
                      refine At.enter rfl ?_
                      refine r_istore_n ([(2, .int 26), (3, .int v2318), (0, .ref 231), (1, .int a1)]) rfl ?_
                      refine r_aload_n rfl ?_
                      refine r_iload_n rfl ?_
                      refine r_bipush 26 rfl ?_
                      refine r_icf 196 rfl (by decide) ?_
                      refine At.enter rfl ?_
                      refine r_aload_n rfl ?_
                      refine r_bipush 61 rfl ?_
                      have x2838 := HI.eqI hI2829 (p := 231) (b := 11) ((((hF2830.1 231 11 (by decide)).trans ((hF2818.1 231 11 (by decide)).trans ((hF2809.1 231 11 (by decide)).trans ((hF2317.1 231 11 (by decide)).trans ((hF2307.1 231 11 (by decide)).trans ((hF2295.1 231 11 (by decide)).trans ((hF2283.1 231 11 (by decide)).trans (hF2271.1 231 11 (by decide))))))))).trans hv4))
                      have zv2839 : (61 : Int32).toInt = 61 := rfl
                      refine r_callV 202 rfl [.ref 231, .int 61] [.ref 231] (Nat.le_of_ble_eq_true rfl) rfl (T_X11_isSign_231 _ hI2829 61 (by omega)) ?_
                      rintro _ _ ⟨g2840, rfl, hI2841, hF2842, v2843, rfl, hr2844⟩
                      refine At.sti ?_
                      have hF2845 := Fr.tr hF2833 hF2842 rfl rfl
                      have zv2846 : (61 : Int32).toInt = 61 := rfl
                      have x2847 := HI.eqI hI2829 (p := 231) (b := 11) ((((hF2830.1 231 11 (by decide)).trans ((hF2818.1 231 11 (by decide)).trans ((hF2809.1 231 11 (by decide)).trans ((hF2317.1 231 11 (by decide)).trans ((hF2307.1 231 11 (by decide)).trans ((hF2295.1 231 11 (by decide)).trans ((hF2283.1 231 11 (by decide)).trans (hF2271.1 231 11 (by decide))))))))).trans hv4))
                      have x2848 := HI.eqI hI2841 (p := 231) (b := 11) ((((hF2842.1 231 11 (by decide)).trans ((hF2830.1 231 11 (by decide)).trans ((hF2818.1 231 11 (by decide)).trans ((hF2809.1 231 11 (by decide)).trans ((hF2317.1 231 11 (by decide)).trans ((hF2307.1 231 11 (by decide)).trans ((hF2295.1 231 11 (by decide)).trans ((hF2283.1 231 11 (by decide)).trans (hF2271.1 231 11 (by decide)))))))))).trans hv4))
                      refine At.enter rfl ?_
                      refine r_ifs 205 rfl (fun c2849 => ?_) (fun c2849 => ?_)
                      · have c2849_ : v2843.toInt = 0 := en_k_eq_t c2849
                        refine At.enter rfl ?_
                        refine r_iconst 0 rfl ?_
                        refine Ar.fall 210 rfl ?_
                        refine At.enter rfl ?_
                        have x2850 := HI.eqI hI2841 (p := 231) (b := 8) ((((hF2842.1 231 8 (by decide)).trans ((hF2830.1 231 8 (by decide)).trans ((hF2818.1 231 8 (by decide)).trans ((hF2809.1 231 8 (by decide)).trans ((hF2317.1 231 8 (by decide)).trans ((hF2307.1 231 8 (by decide)).trans ((hF2295.1 231 8 (by decide)).trans ((hF2283.1 231 8 (by decide)).trans (hF2271.1 231 8 (by decide)))))))))).trans hv1))
                        have x2851 := HI.eqI hI2841 (p := 231) (b := 9) ((((hF2842.1 231 9 (by decide)).trans ((hF2830.1 231 9 (by decide)).trans ((hF2818.1 231 9 (by decide)).trans ((hF2809.1 231 9 (by decide)).trans ((hF2317.1 231 9 (by decide)).trans ((hF2307.1 231 9 (by decide)).trans ((hF2295.1 231 9 (by decide)).trans ((hF2283.1 231 9 (by decide)).trans (hF2271.1 231 9 (by decide)))))))))).trans hv2))
                        have x2852 := HI.eqI hI2841 (p := 231) (b := 10) ((((hF2842.1 231 10 (by decide)).trans ((hF2830.1 231 10 (by decide)).trans ((hF2818.1 231 10 (by decide)).trans ((hF2809.1 231 10 (by decide)).trans ((hF2317.1 231 10 (by decide)).trans ((hF2307.1 231 10 (by decide)).trans ((hF2295.1 231 10 (by decide)).trans ((hF2283.1 231 10 (by decide)).trans (hF2271.1 231 10 (by decide)))))))))).trans hv3))
                        have x2853 := HI.eqI hI2841 (p := 231) (b := 11) ((((hF2842.1 231 11 (by decide)).trans ((hF2830.1 231 11 (by decide)).trans ((hF2818.1 231 11 (by decide)).trans ((hF2809.1 231 11 (by decide)).trans ((hF2317.1 231 11 (by decide)).trans ((hF2307.1 231 11 (by decide)).trans ((hF2295.1 231 11 (by decide)).trans ((hF2283.1 231 11 (by decide)).trans (hF2271.1 231 11 (by decide)))))))))).trans hv4))
                        have w262854 := W26.cong hW hI2841 (((hF2842.1 231 9 (by decide)).trans ((hF2830.1 231 9 (by decide)).trans ((hF2818.1 231 9 (by decide)).trans ((hF2809.1 231 9 (by decide)).trans ((hF2317.1 231 9 (by decide)).trans ((hF2307.1 231 9 (by decide)).trans ((hF2295.1 231 9 (by decide)).trans ((hF2283.1 231 9 (by decide)).trans (hF2271.1 231 9 (by decide))))))))))) (((hF2842.1 231 10 (by decide)).trans ((hF2830.1 231 10 (by decide)).trans ((hF2818.1 231 10 (by decide)).trans ((hF2809.1 231 10 (by decide)).trans ((hF2317.1 231 10 (by decide)).trans ((hF2307.1 231 10 (by decide)).trans ((hF2295.1 231 10 (by decide)).trans ((hF2283.1 231 10 (by decide)).trans (hF2271.1 231 10 (by decide))))))))))) (((hF2842.1 231 11 (by decide)).trans ((hF2830.1 231 11 (by decide)).trans ((hF2818.1 231 11 (by decide)).trans ((hF2809.1 231 11 (by decide)).trans ((hF2317.1 231 11 (by decide)).trans ((hF2307.1 231 11 (by decide)).trans ((hF2295.1 231 11 (by decide)).trans ((hF2283.1 231 11 (by decide)).trans (hF2271.1 231 11 (by decide))))))))))) (((hF2842.2.2 231 12 (by decide)).trans ((hF2830.2.2 231 12 (by decide)).trans ((hF2818.2.2 231 12 (by decide)).trans ((hF2809.2.2 231 12 (by decide)).trans ((hF2317.2.2 231 12 (by decide)).trans ((hF2307.2.2 231 12 (by decide)).trans ((hF2295.2.2 231 12 (by decide)).trans ((hF2283.2.2 231 12 (by decide)).trans (hF2271.2.2 231 12 (by decide)))))))))))
                        have zv2855 : (0 : Int32).toInt = 0 := rfl
                        refine r_callV 213 rfl [.ref 231, .int 0] [] (Nat.le_of_ble_eq_true rfl) rfl (T_X11_must_231 _ hI2841 0 (by decide) (by refine ⟨?_, ?_, ?_, ?_⟩ <;> omega) w262854) ?_
                        rintro _ _ ⟨g2856, rfl, hI2857, hF2858, rfl, hr2860⟩
                        refine At.stn ?_
                        have hF2861 := Fr.tr hF2845 hF2858 rfl rfl
                        have zv2862 : (0 : Int32).toInt = 0 := rfl
                        have x2863 := HI.eqI hI2841 (p := 231) (b := 8) ((((hF2842.1 231 8 (by decide)).trans ((hF2830.1 231 8 (by decide)).trans ((hF2818.1 231 8 (by decide)).trans ((hF2809.1 231 8 (by decide)).trans ((hF2317.1 231 8 (by decide)).trans ((hF2307.1 231 8 (by decide)).trans ((hF2295.1 231 8 (by decide)).trans ((hF2283.1 231 8 (by decide)).trans (hF2271.1 231 8 (by decide)))))))))).trans hv1))
                        have x2864 := HI.eqI hI2841 (p := 231) (b := 9) ((((hF2842.1 231 9 (by decide)).trans ((hF2830.1 231 9 (by decide)).trans ((hF2818.1 231 9 (by decide)).trans ((hF2809.1 231 9 (by decide)).trans ((hF2317.1 231 9 (by decide)).trans ((hF2307.1 231 9 (by decide)).trans ((hF2295.1 231 9 (by decide)).trans ((hF2283.1 231 9 (by decide)).trans (hF2271.1 231 9 (by decide)))))))))).trans hv2))
                        have x2865 := HI.eqI hI2841 (p := 231) (b := 10) ((((hF2842.1 231 10 (by decide)).trans ((hF2830.1 231 10 (by decide)).trans ((hF2818.1 231 10 (by decide)).trans ((hF2809.1 231 10 (by decide)).trans ((hF2317.1 231 10 (by decide)).trans ((hF2307.1 231 10 (by decide)).trans ((hF2295.1 231 10 (by decide)).trans ((hF2283.1 231 10 (by decide)).trans (hF2271.1 231 10 (by decide)))))))))).trans hv3))
                        have x2866 := HI.eqI hI2841 (p := 231) (b := 11) ((((hF2842.1 231 11 (by decide)).trans ((hF2830.1 231 11 (by decide)).trans ((hF2818.1 231 11 (by decide)).trans ((hF2809.1 231 11 (by decide)).trans ((hF2317.1 231 11 (by decide)).trans ((hF2307.1 231 11 (by decide)).trans ((hF2295.1 231 11 (by decide)).trans ((hF2283.1 231 11 (by decide)).trans (hF2271.1 231 11 (by decide)))))))))).trans hv4))
                        have x2867 := HI.eqI hI2841 (p := 231) (b := 14) ((((hF2842.1 231 14 (by decide)).trans ((hF2830.1 231 14 (by decide)).trans ((hF2818.1 231 14 (by decide)).trans ((hF2809.1 231 14 (by decide)).trans ((hF2317.1 231 14 (by decide)).trans ((hF2307.1 231 14 (by decide)).trans ((hF2295.1 231 14 (by decide)).trans ((hF2283.1 231 14 (by decide)).trans (hF2271.1 231 14 (by decide)))))))))).trans hv6))
                        have x2868 := HI.eqI hI2857 (p := 231) (b := 8) ((((hF2858.1 231 8 (by decide)).trans ((hF2842.1 231 8 (by decide)).trans ((hF2830.1 231 8 (by decide)).trans ((hF2818.1 231 8 (by decide)).trans ((hF2809.1 231 8 (by decide)).trans ((hF2317.1 231 8 (by decide)).trans ((hF2307.1 231 8 (by decide)).trans ((hF2295.1 231 8 (by decide)).trans ((hF2283.1 231 8 (by decide)).trans (hF2271.1 231 8 (by decide))))))))))).trans hv1))
                        obtain ⟨v2869, hv2869⟩ : ∃ v, gI g2856 231 9 = v := ⟨_, rfl⟩
                        have rv2869 := RgF.at hI2857.2.1 (p := 231) (b := 9) rfl
                        rw [hv2869] at rv2869
                        dsimp only at rv2869
                        have tv2869 := congrArg Int32.toInt hv2869
                        have x2870 := HI.eqI hI2857 (p := 231) (b := 9) (hv2869)
                        obtain ⟨v2871, hv2871⟩ : ∃ v, gI g2856 231 10 = v := ⟨_, rfl⟩
                        have rv2871 := RgF.at hI2857.2.1 (p := 231) (b := 10) rfl
                        rw [hv2871] at rv2871
                        dsimp only at rv2871
                        have tv2871 := congrArg Int32.toInt hv2871
                        have x2872 := HI.eqI hI2857 (p := 231) (b := 10) (hv2871)
                        obtain ⟨v2873, hv2873⟩ : ∃ v, gI g2856 231 11 = v := ⟨_, rfl⟩
                        have tv2873 := congrArg Int32.toInt hv2873
                        have x2874 := HI.eqI hI2857 (p := 231) (b := 11) (hv2873)
                        obtain ⟨v2875, hv2875⟩ : ∃ v, gI g2856 231 14 = v := ⟨_, rfl⟩
                        have tv2875 := congrArg Int32.toInt hv2875
                        have x2876 := HI.eqI hI2857 (p := 231) (b := 14) (hv2875)
                        obtain ⟨c2877, c2878, c2879, c2880, c2881, c2882, c2883⟩ := hr2860
                        refine At.enter rfl ?_
                        refine r_aload_n rfl ?_
                        refine q_getI (Sh.int hI2857.1 kx_231 rfl) v2875 hv2875 ?_
                        refine r_ifs 220 rfl (fun c2884 => ?_) (fun c2884 => ?_)
                        · have c2884_ : v2875.toInt ≠ 0 := en_k_ne_t c2884
                          clear c2883
                          refine At.enter rfl ?_
                          refine r_iconst 1 rfl ?_
                          refine r_ireti ?_
                          have x2885 := HI.eqI hI2857 (p := 231) (b := 8) ((((hF2858.1 231 8 (by decide)).trans ((hF2842.1 231 8 (by decide)).trans ((hF2830.1 231 8 (by decide)).trans ((hF2818.1 231 8 (by decide)).trans ((hF2809.1 231 8 (by decide)).trans ((hF2317.1 231 8 (by decide)).trans ((hF2307.1 231 8 (by decide)).trans ((hF2295.1 231 8 (by decide)).trans ((hF2283.1 231 8 (by decide)).trans (hF2271.1 231 8 (by decide))))))))))).trans hv1))
                          have x2886 := HI.eqI hI2857 (p := 231) (b := 9) (hv2869)
                          have x2887 := HI.eqI hI2857 (p := 231) (b := 10) (hv2871)
                          have x2888 := HI.eqI hI2857 (p := 231) (b := 11) (hv2873)
                          obtain ⟨v2889, hv2889⟩ : ∃ v, gJ g2856 231 12 = v := ⟨_, rfl⟩
                          have x2890 := HI.eqJ hI2857 (b := 12) (hv2889)
                          have x2891 := HI.eqI hI2857 (p := 231) (b := 14) (hv2875)
                          have x2892 := HI.eqI hI2857 (p := 231) (b := 17) ((((hF2858.1 231 17 (by decide)).trans ((hF2842.1 231 17 (by decide)).trans ((hF2830.1 231 17 (by decide)).trans ((hF2818.1 231 17 (by decide)).trans ((hF2809.1 231 17 (by decide)).trans ((hF2317.1 231 17 (by decide)).trans ((hF2307.1 231 17 (by decide)).trans ((hF2295.1 231 17 (by decide)).trans ((hF2283.1 231 17 (by decide)).trans (hF2271.1 231 17 (by decide))))))))))).trans hv7))
                          have x2893 := HI.eqI hI2857 (p := 231) (b := 23) ((((hF2858.1 231 23 (by decide)).trans ((hF2842.1 231 23 (by decide)).trans ((hF2830.1 231 23 (by decide)).trans ((hF2818.1 231 23 (by decide)).trans ((hF2809.1 231 23 (by decide)).trans ((hF2317.1 231 23 (by decide)).trans ((hF2307.1 231 23 (by decide)).trans ((hF2295.1 231 23 (by decide)).trans ((hF2283.1 231 23 (by decide)).trans (hF2271.1 231 23 (by decide))))))))))).trans hv8))
                          have x2894 := HI.eqI hI0 (p := 231) (b := 9) (hv2)
                          have zv2895 : (1 : Int32).toInt = 1 := rfl
                          exact ⟨_, rfl, hI2857, hF2861, _, rfl, by decide, ⟨by omega, by omega, by omega, by omega, c2882, by omega, by omega, (fun hbad => ⟨by omega, (PT.mk (fun h => False.elim (by omega)) (fun h => False.elim (by omega)) (fun h h9 => False.elim (by omega)) (fun h => False.elim (by omega)))⟩), (fun hbad => by omega)⟩⟩
                        · have c2884_ : v2875.toInt = 0 := en_k_ne_f c2884
                          obtain ⟨i2896, i2897, i2898⟩ := c2883 (by omega)
                          refine At.enter rfl ?_
                          refine r_aload_n rfl ?_
                          refine r_iconst 5 rfl ?_
                          have x2899 := HI.eqI hI2857 (p := 231) (b := 17) ((((hF2858.1 231 17 (by decide)).trans ((hF2842.1 231 17 (by decide)).trans ((hF2830.1 231 17 (by decide)).trans ((hF2818.1 231 17 (by decide)).trans ((hF2809.1 231 17 (by decide)).trans ((hF2317.1 231 17 (by decide)).trans ((hF2307.1 231 17 (by decide)).trans ((hF2295.1 231 17 (by decide)).trans ((hF2283.1 231 17 (by decide)).trans (hF2271.1 231 17 (by decide))))))))))).trans hv7))
                          have x2900 := HI.eqI hI2857 (p := 231) (b := 23) ((((hF2858.1 231 23 (by decide)).trans ((hF2842.1 231 23 (by decide)).trans ((hF2830.1 231 23 (by decide)).trans ((hF2818.1 231 23 (by decide)).trans ((hF2809.1 231 23 (by decide)).trans ((hF2317.1 231 23 (by decide)).trans ((hF2307.1 231 23 (by decide)).trans ((hF2295.1 231 23 (by decide)).trans ((hF2283.1 231 23 (by decide)).trans (hF2271.1 231 23 (by decide))))))))))).trans hv8))
                          have zv2901 : (5 : Int32).toInt = 5 := rfl
                          refine r_callV 225 rfl [.ref 231, .int 5] [] (Nat.le_of_ble_eq_true rfl) rfl (T_X11_settle_231 _ hI2857 5 (by decide) (by omega)) ?_
                          rintro _ _ ⟨g2902, rfl, hI2903, hF2904, rfl, hr2906⟩
                          refine At.stn ?_
                          have hF2907 := Fr.tr hF2861 hF2904 rfl rfl
                          have zv2908 : (5 : Int32).toInt = 5 := rfl
                          have x2909 := HI.eqI hI2857 (p := 231) (b := 17) ((((hF2858.1 231 17 (by decide)).trans ((hF2842.1 231 17 (by decide)).trans ((hF2830.1 231 17 (by decide)).trans ((hF2818.1 231 17 (by decide)).trans ((hF2809.1 231 17 (by decide)).trans ((hF2317.1 231 17 (by decide)).trans ((hF2307.1 231 17 (by decide)).trans ((hF2295.1 231 17 (by decide)).trans ((hF2283.1 231 17 (by decide)).trans (hF2271.1 231 17 (by decide))))))))))).trans hv7))
                          have x2910 := HI.eqI hI2857 (p := 231) (b := 23) ((((hF2858.1 231 23 (by decide)).trans ((hF2842.1 231 23 (by decide)).trans ((hF2830.1 231 23 (by decide)).trans ((hF2818.1 231 23 (by decide)).trans ((hF2809.1 231 23 (by decide)).trans ((hF2317.1 231 23 (by decide)).trans ((hF2307.1 231 23 (by decide)).trans ((hF2295.1 231 23 (by decide)).trans ((hF2283.1 231 23 (by decide)).trans (hF2271.1 231 23 (by decide))))))))))).trans hv8))
                          obtain ⟨v2911, hv2911⟩ : ∃ v, gI g2902 231 17 = v := ⟨_, rfl⟩
                          have rv2911 := RgF.at hI2903.2.1 (p := 231) (b := 17) rfl
                          rw [hv2911] at rv2911
                          dsimp only at rv2911
                          have tv2911 := congrArg Int32.toInt hv2911
                          have x2912 := HI.eqI hI2903 (p := 231) (b := 17) (hv2911)
                          obtain ⟨v2913, hv2913⟩ : ∃ v, gI g2902 231 23 = v := ⟨_, rfl⟩
                          have rv2913 := RgF.at hI2903.2.1 (p := 231) (b := 23) rfl
                          rw [hv2913] at rv2913
                          dsimp only at rv2913
                          have tv2913 := congrArg Int32.toInt hv2913
                          have x2914 := HI.eqI hI2903 (p := 231) (b := 23) (hv2913)
                          have y2915 : (gI _ 231 23).toInt ≤ (gI _ 231 23).toInt := hr2906.1
                          have y2916 : (gI _ 231 17).toInt + (gI _ 231 23).toInt ≤ (gI _ 231 17).toInt + (gI _ 231 23).toInt := hr2906.2.1
                          have inn2917 := INN.cong inn2321 hI2857 (((hF2858.2.1 240 (by decide)).trans ((hF2842.2.1 240 (by decide)).trans ((hF2830.2.1 240 (by decide)).trans ((hF2818.2.1 240 (by decide)).trans (hF2809.2.1 240 (by decide))))))) (((hF2858.1 231 23 (by decide)).trans ((hF2842.1 231 23 (by decide)).trans ((hF2830.1 231 23 (by decide)).trans ((hF2818.1 231 23 (by decide)).trans (hF2809.1 231 23 (by decide)))))))
                          have pg2918 := PG.cong (hP.2.1 (by decide)) hI2857 (((hF2858.2.1 238 (by decide)).trans ((hF2842.2.1 238 (by decide)).trans ((hF2830.2.1 238 (by decide)).trans ((hF2818.2.1 238 (by decide)).trans ((hF2809.2.1 238 (by decide)).trans ((hF2317.2.1 238 (by decide)).trans ((hF2307.2.1 238 (by decide)).trans ((hF2295.2.1 238 (by decide)).trans ((hF2283.2.1 238 (by decide)).trans (hF2271.2.1 238 (by decide)))))))))))) (((hF2858.2.1 239 (by decide)).trans ((hF2842.2.1 239 (by decide)).trans ((hF2830.2.1 239 (by decide)).trans ((hF2818.2.1 239 (by decide)).trans ((hF2809.2.1 239 (by decide)).trans ((hF2317.2.1 239 (by decide)).trans ((hF2307.2.1 239 (by decide)).trans ((hF2295.2.1 239 (by decide)).trans ((hF2283.2.1 239 (by decide)).trans (hF2271.2.1 239 (by decide)))))))))))) (((hF2858.2.1 240 (by decide)).trans ((hF2842.2.1 240 (by decide)).trans ((hF2830.2.1 240 (by decide)).trans ((hF2818.2.1 240 (by decide)).trans ((hF2809.2.1 240 (by decide)).trans ((hF2317.2.1 240 (by decide)).trans ((hF2307.2.1 240 (by decide)).trans ((hF2295.2.1 240 (by decide)).trans ((hF2283.2.1 240 (by decide)).trans (hF2271.2.1 240 (by decide)))))))))))) (((hF2858.2.1 241 (by decide)).trans ((hF2842.2.1 241 (by decide)).trans ((hF2830.2.1 241 (by decide)).trans ((hF2818.2.1 241 (by decide)).trans ((hF2809.2.1 241 (by decide)).trans ((hF2317.2.1 241 (by decide)).trans ((hF2307.2.1 241 (by decide)).trans ((hF2295.2.1 241 (by decide)).trans ((hF2283.2.1 241 (by decide)).trans (hF2271.2.1 241 (by decide)))))))))))) (((hF2858.1 231 17 (by decide)).trans ((hF2842.1 231 17 (by decide)).trans ((hF2830.1 231 17 (by decide)).trans ((hF2818.1 231 17 (by decide)).trans ((hF2809.1 231 17 (by decide)).trans ((hF2317.1 231 17 (by decide)).trans ((hF2307.1 231 17 (by decide)).trans ((hF2295.1 231 17 (by decide)).trans ((hF2283.1 231 17 (by decide)).trans (hF2271.1 231 17 (by decide)))))))))))) (((hF2858.1 231 23 (by decide)).trans ((hF2842.1 231 23 (by decide)).trans ((hF2830.1 231 23 (by decide)).trans ((hF2818.1 231 23 (by decide)).trans ((hF2809.1 231 23 (by decide)).trans ((hF2317.1 231 23 (by decide)).trans ((hF2307.1 231 23 (by decide)).trans ((hF2295.1 231 23 (by decide)).trans ((hF2283.1 231 23 (by decide)).trans (hF2271.1 231 23 (by decide))))))))))))
                          have nsq2919 := INN.nsq inn2917 pg2918 (by omega)
                          have pg2920 := PG.cong (hP.2.1 (by decide)) hI2857 (((hF2858.2.1 238 (by decide)).trans ((hF2842.2.1 238 (by decide)).trans ((hF2830.2.1 238 (by decide)).trans ((hF2818.2.1 238 (by decide)).trans ((hF2809.2.1 238 (by decide)).trans ((hF2317.2.1 238 (by decide)).trans ((hF2307.2.1 238 (by decide)).trans ((hF2295.2.1 238 (by decide)).trans ((hF2283.2.1 238 (by decide)).trans (hF2271.2.1 238 (by decide)))))))))))) (((hF2858.2.1 239 (by decide)).trans ((hF2842.2.1 239 (by decide)).trans ((hF2830.2.1 239 (by decide)).trans ((hF2818.2.1 239 (by decide)).trans ((hF2809.2.1 239 (by decide)).trans ((hF2317.2.1 239 (by decide)).trans ((hF2307.2.1 239 (by decide)).trans ((hF2295.2.1 239 (by decide)).trans ((hF2283.2.1 239 (by decide)).trans (hF2271.2.1 239 (by decide)))))))))))) (((hF2858.2.1 240 (by decide)).trans ((hF2842.2.1 240 (by decide)).trans ((hF2830.2.1 240 (by decide)).trans ((hF2818.2.1 240 (by decide)).trans ((hF2809.2.1 240 (by decide)).trans ((hF2317.2.1 240 (by decide)).trans ((hF2307.2.1 240 (by decide)).trans ((hF2295.2.1 240 (by decide)).trans ((hF2283.2.1 240 (by decide)).trans (hF2271.2.1 240 (by decide)))))))))))) (((hF2858.2.1 241 (by decide)).trans ((hF2842.2.1 241 (by decide)).trans ((hF2830.2.1 241 (by decide)).trans ((hF2818.2.1 241 (by decide)).trans ((hF2809.2.1 241 (by decide)).trans ((hF2317.2.1 241 (by decide)).trans ((hF2307.2.1 241 (by decide)).trans ((hF2295.2.1 241 (by decide)).trans ((hF2283.2.1 241 (by decide)).trans (hF2271.2.1 241 (by decide)))))))))))) (((hF2858.1 231 17 (by decide)).trans ((hF2842.1 231 17 (by decide)).trans ((hF2830.1 231 17 (by decide)).trans ((hF2818.1 231 17 (by decide)).trans ((hF2809.1 231 17 (by decide)).trans ((hF2317.1 231 17 (by decide)).trans ((hF2307.1 231 17 (by decide)).trans ((hF2295.1 231 17 (by decide)).trans ((hF2283.1 231 17 (by decide)).trans (hF2271.1 231 17 (by decide)))))))))))) (((hF2858.1 231 23 (by decide)).trans ((hF2842.1 231 23 (by decide)).trans ((hF2830.1 231 23 (by decide)).trans ((hF2818.1 231 23 (by decide)).trans ((hF2809.1 231 23 (by decide)).trans ((hF2317.1 231 23 (by decide)).trans ((hF2307.1 231 23 (by decide)).trans ((hF2295.1 231 23 (by decide)).trans ((hF2283.1 231 23 (by decide)).trans (hF2271.1 231 23 (by decide))))))))))))
                          have inn2922 := INN.cong inn2321 hI2857 (((hF2858.2.1 240 (by decide)).trans ((hF2842.2.1 240 (by decide)).trans ((hF2830.2.1 240 (by decide)).trans ((hF2818.2.1 240 (by decide)).trans (hF2809.2.1 240 (by decide))))))) (((hF2858.1 231 23 (by decide)).trans ((hF2842.1 231 23 (by decide)).trans ((hF2830.1 231 23 (by decide)).trans ((hF2818.1 231 23 (by decide)).trans (hF2809.1 231 23 (by decide)))))))
                          have pg2921 := hr2906.2.2.1 _ _ _ pg2920
                          have nsq2924 := NSQ.le nsq2919 hI2903 hr2906.2.2.2.2.1 hr2906.1
                          refine At.enter rfl ?_
                          refine r_aload_n rfl ?_
                          refine r_iload_n rfl ?_
                          refine r_iconst 0 rfl ?_
                          have x2925 := HI.eqI hI2903 (p := 231) (b := 23) (hv2913)
                          have zv2926 : (26 : Int32).toInt = 26 := rfl
                          have zv2927 : (0 : Int32).toInt = 0 := rfl
                          refine r_callV 231 rfl [.ref 231, .int 26, .int 0] [] (Nat.le_of_ble_eq_true rfl) rfl (T_X11_push_231 _ hI2903 26 (by decide) 0 (by decide) (by omega)) ?_
                          rintro _ _ ⟨g2928, rfl, hI2929, hF2930, rfl, hr2932⟩
                          refine At.stn ?_
                          have hF2933 := Fr.tr hF2907 hF2930 rfl rfl
                          have zv2934 : (26 : Int32).toInt = 26 := rfl
                          have zv2935 : (0 : Int32).toInt = 0 := rfl
                          have x2936 := HI.eqI hI2903 (p := 231) (b := 17) (hv2911)
                          have x2937 := HI.eqI hI2903 (p := 231) (b := 23) (hv2913)
                          have x2938 := HI.eqI hI2929 (p := 231) (b := 17) (((hF2930.1 231 17 (by decide)).trans hv2911))
                          obtain ⟨v2939, hv2939⟩ : ∃ v, gI g2928 231 23 = v := ⟨_, rfl⟩
                          have rv2939 := RgF.at hI2929.2.1 (p := 231) (b := 23) rfl
                          rw [hv2939] at rv2939
                          dsimp only at rv2939
                          have tv2939 := congrArg Int32.toInt hv2939
                          have x2940 := HI.eqI hI2929 (p := 231) (b := 23) (hv2939)
                          have y2941 : (gI _ 231 23).toInt = (gI _ 231 23).toInt + 1 := hr2932.1
                          have pg2942 := PG.push (e' := 0) pg2921 hr2932 (hF2930.2.1 238 (by decide)) (hF2930.2.1 239 (by decide)) (hF2930.1 231 17 (by decide)) ⟨by omega, by omega⟩ (Or.inr nsq2924) (by omega) (by omega)
                          have nsq2943 := NSQ.push nsq2924 hr2932 (by omega)
                          refine At.enter rfl ?_
                          refine r_iconst 1 rfl ?_
                          refine r_ireti ?_
                          have x2944 := HI.eqI hI2929 (p := 231) (b := 8) ((((hF2930.1 231 8 (by decide)).trans ((hF2904.1 231 8 (by decide)).trans ((hF2858.1 231 8 (by decide)).trans ((hF2842.1 231 8 (by decide)).trans ((hF2830.1 231 8 (by decide)).trans ((hF2818.1 231 8 (by decide)).trans ((hF2809.1 231 8 (by decide)).trans ((hF2317.1 231 8 (by decide)).trans ((hF2307.1 231 8 (by decide)).trans ((hF2295.1 231 8 (by decide)).trans ((hF2283.1 231 8 (by decide)).trans (hF2271.1 231 8 (by decide))))))))))))).trans hv1))
                          have x2945 := HI.eqI hI2929 (p := 231) (b := 9) ((((hF2930.1 231 9 (by decide)).trans (hF2904.1 231 9 (by decide))).trans hv2869))
                          have x2946 := HI.eqI hI2929 (p := 231) (b := 10) ((((hF2930.1 231 10 (by decide)).trans (hF2904.1 231 10 (by decide))).trans hv2871))
                          have x2947 := HI.eqI hI2929 (p := 231) (b := 11) ((((hF2930.1 231 11 (by decide)).trans (hF2904.1 231 11 (by decide))).trans hv2873))
                          obtain ⟨v2948, hv2948⟩ : ∃ v, gJ g2856 231 12 = v := ⟨_, rfl⟩
                          have x2949 := HI.eqJ hI2929 (b := 12) ((((hF2930.2.2 231 12 (by decide)).trans (hF2904.2.2 231 12 (by decide))).trans hv2948))
                          have x2950 := HI.eqI hI2929 (p := 231) (b := 14) ((((hF2930.1 231 14 (by decide)).trans (hF2904.1 231 14 (by decide))).trans hv2875))
                          have x2951 := HI.eqI hI2929 (p := 231) (b := 17) (((hF2930.1 231 17 (by decide)).trans hv2911))
                          have x2952 := HI.eqI hI2929 (p := 231) (b := 23) (hv2939)
                          have x2953 := HI.eqI hI0 (p := 231) (b := 9) (hv2)
                          have zv2954 : (1 : Int32).toInt = 1 := rfl
                          have w262955 := W26.cong c2882 hI2929 (((hF2930.1 231 9 (by decide)).trans (hF2904.1 231 9 (by decide)))) (((hF2930.1 231 10 (by decide)).trans (hF2904.1 231 10 (by decide)))) (((hF2930.1 231 11 (by decide)).trans (hF2904.1 231 11 (by decide)))) (((hF2930.2.2 231 12 (by decide)).trans (hF2904.2.2 231 12 (by decide))))
                          exact ⟨_, rfl, hI2929, hF2933, _, rfl, by decide, ⟨by omega, by omega, by omega, by omega, w262955, by omega, by omega, (fun hbad => ⟨by omega, (PT.mk (fun _ => pg2942) (fun h => False.elim (by omega)) (fun h h9 => False.elim (by omega)) (fun h => False.elim (by omega)))⟩), (fun hbad => by omega)⟩⟩
                      · have c2849_ : v2843.toInt ≠ 0 := en_k_eq_f c2849
                        refine At.enter rfl ?_
                        refine r_iconst 1 rfl ?_
                        refine r_goto ?_
                        refine At.enter rfl ?_
                        have x2956 := HI.eqI hI2841 (p := 231) (b := 8) ((((hF2842.1 231 8 (by decide)).trans ((hF2830.1 231 8 (by decide)).trans ((hF2818.1 231 8 (by decide)).trans ((hF2809.1 231 8 (by decide)).trans ((hF2317.1 231 8 (by decide)).trans ((hF2307.1 231 8 (by decide)).trans ((hF2295.1 231 8 (by decide)).trans ((hF2283.1 231 8 (by decide)).trans (hF2271.1 231 8 (by decide)))))))))).trans hv1))
                        have x2957 := HI.eqI hI2841 (p := 231) (b := 9) ((((hF2842.1 231 9 (by decide)).trans ((hF2830.1 231 9 (by decide)).trans ((hF2818.1 231 9 (by decide)).trans ((hF2809.1 231 9 (by decide)).trans ((hF2317.1 231 9 (by decide)).trans ((hF2307.1 231 9 (by decide)).trans ((hF2295.1 231 9 (by decide)).trans ((hF2283.1 231 9 (by decide)).trans (hF2271.1 231 9 (by decide)))))))))).trans hv2))
                        have x2958 := HI.eqI hI2841 (p := 231) (b := 10) ((((hF2842.1 231 10 (by decide)).trans ((hF2830.1 231 10 (by decide)).trans ((hF2818.1 231 10 (by decide)).trans ((hF2809.1 231 10 (by decide)).trans ((hF2317.1 231 10 (by decide)).trans ((hF2307.1 231 10 (by decide)).trans ((hF2295.1 231 10 (by decide)).trans ((hF2283.1 231 10 (by decide)).trans (hF2271.1 231 10 (by decide)))))))))).trans hv3))
                        have x2959 := HI.eqI hI2841 (p := 231) (b := 11) ((((hF2842.1 231 11 (by decide)).trans ((hF2830.1 231 11 (by decide)).trans ((hF2818.1 231 11 (by decide)).trans ((hF2809.1 231 11 (by decide)).trans ((hF2317.1 231 11 (by decide)).trans ((hF2307.1 231 11 (by decide)).trans ((hF2295.1 231 11 (by decide)).trans ((hF2283.1 231 11 (by decide)).trans (hF2271.1 231 11 (by decide)))))))))).trans hv4))
                        have w262960 := W26.cong hW hI2841 (((hF2842.1 231 9 (by decide)).trans ((hF2830.1 231 9 (by decide)).trans ((hF2818.1 231 9 (by decide)).trans ((hF2809.1 231 9 (by decide)).trans ((hF2317.1 231 9 (by decide)).trans ((hF2307.1 231 9 (by decide)).trans ((hF2295.1 231 9 (by decide)).trans ((hF2283.1 231 9 (by decide)).trans (hF2271.1 231 9 (by decide))))))))))) (((hF2842.1 231 10 (by decide)).trans ((hF2830.1 231 10 (by decide)).trans ((hF2818.1 231 10 (by decide)).trans ((hF2809.1 231 10 (by decide)).trans ((hF2317.1 231 10 (by decide)).trans ((hF2307.1 231 10 (by decide)).trans ((hF2295.1 231 10 (by decide)).trans ((hF2283.1 231 10 (by decide)).trans (hF2271.1 231 10 (by decide))))))))))) (((hF2842.1 231 11 (by decide)).trans ((hF2830.1 231 11 (by decide)).trans ((hF2818.1 231 11 (by decide)).trans ((hF2809.1 231 11 (by decide)).trans ((hF2317.1 231 11 (by decide)).trans ((hF2307.1 231 11 (by decide)).trans ((hF2295.1 231 11 (by decide)).trans ((hF2283.1 231 11 (by decide)).trans (hF2271.1 231 11 (by decide))))))))))) (((hF2842.2.2 231 12 (by decide)).trans ((hF2830.2.2 231 12 (by decide)).trans ((hF2818.2.2 231 12 (by decide)).trans ((hF2809.2.2 231 12 (by decide)).trans ((hF2317.2.2 231 12 (by decide)).trans ((hF2307.2.2 231 12 (by decide)).trans ((hF2295.2.2 231 12 (by decide)).trans ((hF2283.2.2 231 12 (by decide)).trans (hF2271.2.2 231 12 (by decide)))))))))))
                        have zv2961 : (1 : Int32).toInt = 1 := rfl
                        refine r_callV 213 rfl [.ref 231, .int 1] [] (Nat.le_of_ble_eq_true rfl) rfl (T_X11_must_231 _ hI2841 1 (by decide) (by refine ⟨?_, ?_, ?_, ?_⟩ <;> omega) w262960) ?_
                        rintro _ _ ⟨g2962, rfl, hI2963, hF2964, rfl, hr2966⟩
                        refine At.stn ?_
                        have hF2967 := Fr.tr hF2845 hF2964 rfl rfl
                        have zv2968 : (1 : Int32).toInt = 1 := rfl
                        have x2969 := HI.eqI hI2841 (p := 231) (b := 8) ((((hF2842.1 231 8 (by decide)).trans ((hF2830.1 231 8 (by decide)).trans ((hF2818.1 231 8 (by decide)).trans ((hF2809.1 231 8 (by decide)).trans ((hF2317.1 231 8 (by decide)).trans ((hF2307.1 231 8 (by decide)).trans ((hF2295.1 231 8 (by decide)).trans ((hF2283.1 231 8 (by decide)).trans (hF2271.1 231 8 (by decide)))))))))).trans hv1))
                        have x2970 := HI.eqI hI2841 (p := 231) (b := 9) ((((hF2842.1 231 9 (by decide)).trans ((hF2830.1 231 9 (by decide)).trans ((hF2818.1 231 9 (by decide)).trans ((hF2809.1 231 9 (by decide)).trans ((hF2317.1 231 9 (by decide)).trans ((hF2307.1 231 9 (by decide)).trans ((hF2295.1 231 9 (by decide)).trans ((hF2283.1 231 9 (by decide)).trans (hF2271.1 231 9 (by decide)))))))))).trans hv2))
                        have x2971 := HI.eqI hI2841 (p := 231) (b := 10) ((((hF2842.1 231 10 (by decide)).trans ((hF2830.1 231 10 (by decide)).trans ((hF2818.1 231 10 (by decide)).trans ((hF2809.1 231 10 (by decide)).trans ((hF2317.1 231 10 (by decide)).trans ((hF2307.1 231 10 (by decide)).trans ((hF2295.1 231 10 (by decide)).trans ((hF2283.1 231 10 (by decide)).trans (hF2271.1 231 10 (by decide)))))))))).trans hv3))
                        have x2972 := HI.eqI hI2841 (p := 231) (b := 11) ((((hF2842.1 231 11 (by decide)).trans ((hF2830.1 231 11 (by decide)).trans ((hF2818.1 231 11 (by decide)).trans ((hF2809.1 231 11 (by decide)).trans ((hF2317.1 231 11 (by decide)).trans ((hF2307.1 231 11 (by decide)).trans ((hF2295.1 231 11 (by decide)).trans ((hF2283.1 231 11 (by decide)).trans (hF2271.1 231 11 (by decide)))))))))).trans hv4))
                        have x2973 := HI.eqI hI2841 (p := 231) (b := 14) ((((hF2842.1 231 14 (by decide)).trans ((hF2830.1 231 14 (by decide)).trans ((hF2818.1 231 14 (by decide)).trans ((hF2809.1 231 14 (by decide)).trans ((hF2317.1 231 14 (by decide)).trans ((hF2307.1 231 14 (by decide)).trans ((hF2295.1 231 14 (by decide)).trans ((hF2283.1 231 14 (by decide)).trans (hF2271.1 231 14 (by decide)))))))))).trans hv6))
                        have x2974 := HI.eqI hI2963 (p := 231) (b := 8) ((((hF2964.1 231 8 (by decide)).trans ((hF2842.1 231 8 (by decide)).trans ((hF2830.1 231 8 (by decide)).trans ((hF2818.1 231 8 (by decide)).trans ((hF2809.1 231 8 (by decide)).trans ((hF2317.1 231 8 (by decide)).trans ((hF2307.1 231 8 (by decide)).trans ((hF2295.1 231 8 (by decide)).trans ((hF2283.1 231 8 (by decide)).trans (hF2271.1 231 8 (by decide))))))))))).trans hv1))
                        obtain ⟨v2975, hv2975⟩ : ∃ v, gI g2962 231 9 = v := ⟨_, rfl⟩
                        have rv2975 := RgF.at hI2963.2.1 (p := 231) (b := 9) rfl
                        rw [hv2975] at rv2975
                        dsimp only at rv2975
                        have tv2975 := congrArg Int32.toInt hv2975
                        have x2976 := HI.eqI hI2963 (p := 231) (b := 9) (hv2975)
                        obtain ⟨v2977, hv2977⟩ : ∃ v, gI g2962 231 10 = v := ⟨_, rfl⟩
                        have rv2977 := RgF.at hI2963.2.1 (p := 231) (b := 10) rfl
                        rw [hv2977] at rv2977
                        dsimp only at rv2977
                        have tv2977 := congrArg Int32.toInt hv2977
                        have x2978 := HI.eqI hI2963 (p := 231) (b := 10) (hv2977)
                        obtain ⟨v2979, hv2979⟩ : ∃ v, gI g2962 231 11 = v := ⟨_, rfl⟩
                        have tv2979 := congrArg Int32.toInt hv2979
                        have x2980 := HI.eqI hI2963 (p := 231) (b := 11) (hv2979)
                        obtain ⟨v2981, hv2981⟩ : ∃ v, gI g2962 231 14 = v := ⟨_, rfl⟩
                        have tv2981 := congrArg Int32.toInt hv2981
                        have x2982 := HI.eqI hI2963 (p := 231) (b := 14) (hv2981)
                        obtain ⟨c2983, c2984, c2985, c2986, c2987, c2988, c2989⟩ := hr2966
                        refine At.enter rfl ?_
                        refine r_aload_n rfl ?_
                        refine q_getI (Sh.int hI2963.1 kx_231 rfl) v2981 hv2981 ?_
                        refine r_ifs 220 rfl (fun c2990 => ?_) (fun c2990 => ?_)
                        · have c2990_ : v2981.toInt ≠ 0 := en_k_ne_t c2990
                          clear c2989
                          refine At.enter rfl ?_
                          refine r_iconst 1 rfl ?_
                          refine r_ireti ?_
                          have x2991 := HI.eqI hI2963 (p := 231) (b := 8) ((((hF2964.1 231 8 (by decide)).trans ((hF2842.1 231 8 (by decide)).trans ((hF2830.1 231 8 (by decide)).trans ((hF2818.1 231 8 (by decide)).trans ((hF2809.1 231 8 (by decide)).trans ((hF2317.1 231 8 (by decide)).trans ((hF2307.1 231 8 (by decide)).trans ((hF2295.1 231 8 (by decide)).trans ((hF2283.1 231 8 (by decide)).trans (hF2271.1 231 8 (by decide))))))))))).trans hv1))
                          have x2992 := HI.eqI hI2963 (p := 231) (b := 9) (hv2975)
                          have x2993 := HI.eqI hI2963 (p := 231) (b := 10) (hv2977)
                          have x2994 := HI.eqI hI2963 (p := 231) (b := 11) (hv2979)
                          obtain ⟨v2995, hv2995⟩ : ∃ v, gJ g2962 231 12 = v := ⟨_, rfl⟩
                          have x2996 := HI.eqJ hI2963 (b := 12) (hv2995)
                          have x2997 := HI.eqI hI2963 (p := 231) (b := 14) (hv2981)
                          have x2998 := HI.eqI hI2963 (p := 231) (b := 17) ((((hF2964.1 231 17 (by decide)).trans ((hF2842.1 231 17 (by decide)).trans ((hF2830.1 231 17 (by decide)).trans ((hF2818.1 231 17 (by decide)).trans ((hF2809.1 231 17 (by decide)).trans ((hF2317.1 231 17 (by decide)).trans ((hF2307.1 231 17 (by decide)).trans ((hF2295.1 231 17 (by decide)).trans ((hF2283.1 231 17 (by decide)).trans (hF2271.1 231 17 (by decide))))))))))).trans hv7))
                          have x2999 := HI.eqI hI2963 (p := 231) (b := 23) ((((hF2964.1 231 23 (by decide)).trans ((hF2842.1 231 23 (by decide)).trans ((hF2830.1 231 23 (by decide)).trans ((hF2818.1 231 23 (by decide)).trans ((hF2809.1 231 23 (by decide)).trans ((hF2317.1 231 23 (by decide)).trans ((hF2307.1 231 23 (by decide)).trans ((hF2295.1 231 23 (by decide)).trans ((hF2283.1 231 23 (by decide)).trans (hF2271.1 231 23 (by decide))))))))))).trans hv8))
                          have x3000 := HI.eqI hI0 (p := 231) (b := 9) (hv2)
                          have zv3001 : (1 : Int32).toInt = 1 := rfl
                          exact ⟨_, rfl, hI2963, hF2967, _, rfl, by decide, ⟨by omega, by omega, by omega, by omega, c2988, by omega, by omega, (fun hbad => ⟨by omega, (PT.mk (fun h => False.elim (by omega)) (fun h => False.elim (by omega)) (fun h h9 => False.elim (by omega)) (fun h => False.elim (by omega)))⟩), (fun hbad => by omega)⟩⟩
                        · have c2990_ : v2981.toInt = 0 := en_k_ne_f c2990
                          obtain ⟨i3002, i3003, i3004⟩ := c2989 (by omega)
                          refine At.enter rfl ?_
                          refine r_aload_n rfl ?_
                          refine r_iconst 5 rfl ?_
                          have x3005 := HI.eqI hI2963 (p := 231) (b := 17) ((((hF2964.1 231 17 (by decide)).trans ((hF2842.1 231 17 (by decide)).trans ((hF2830.1 231 17 (by decide)).trans ((hF2818.1 231 17 (by decide)).trans ((hF2809.1 231 17 (by decide)).trans ((hF2317.1 231 17 (by decide)).trans ((hF2307.1 231 17 (by decide)).trans ((hF2295.1 231 17 (by decide)).trans ((hF2283.1 231 17 (by decide)).trans (hF2271.1 231 17 (by decide))))))))))).trans hv7))
                          have x3006 := HI.eqI hI2963 (p := 231) (b := 23) ((((hF2964.1 231 23 (by decide)).trans ((hF2842.1 231 23 (by decide)).trans ((hF2830.1 231 23 (by decide)).trans ((hF2818.1 231 23 (by decide)).trans ((hF2809.1 231 23 (by decide)).trans ((hF2317.1 231 23 (by decide)).trans ((hF2307.1 231 23 (by decide)).trans ((hF2295.1 231 23 (by decide)).trans ((hF2283.1 231 23 (by decide)).trans (hF2271.1 231 23 (by decide))))))))))).trans hv8))
                          have zv3007 : (5 : Int32).toInt = 5 := rfl
                          refine r_callV 225 rfl [.ref 231, .int 5] [] (Nat.le_of_ble_eq_true rfl) rfl (T_X11_settle_231 _ hI2963 5 (by decide) (by omega)) ?_
                          rintro _ _ ⟨g3008, rfl, hI3009, hF3010, rfl, hr3012⟩
                          refine At.stn ?_
                          have hF3013 := Fr.tr hF2967 hF3010 rfl rfl
                          have zv3014 : (5 : Int32).toInt = 5 := rfl
                          have x3015 := HI.eqI hI2963 (p := 231) (b := 17) ((((hF2964.1 231 17 (by decide)).trans ((hF2842.1 231 17 (by decide)).trans ((hF2830.1 231 17 (by decide)).trans ((hF2818.1 231 17 (by decide)).trans ((hF2809.1 231 17 (by decide)).trans ((hF2317.1 231 17 (by decide)).trans ((hF2307.1 231 17 (by decide)).trans ((hF2295.1 231 17 (by decide)).trans ((hF2283.1 231 17 (by decide)).trans (hF2271.1 231 17 (by decide))))))))))).trans hv7))
                          have x3016 := HI.eqI hI2963 (p := 231) (b := 23) ((((hF2964.1 231 23 (by decide)).trans ((hF2842.1 231 23 (by decide)).trans ((hF2830.1 231 23 (by decide)).trans ((hF2818.1 231 23 (by decide)).trans ((hF2809.1 231 23 (by decide)).trans ((hF2317.1 231 23 (by decide)).trans ((hF2307.1 231 23 (by decide)).trans ((hF2295.1 231 23 (by decide)).trans ((hF2283.1 231 23 (by decide)).trans (hF2271.1 231 23 (by decide))))))))))).trans hv8))
                          obtain ⟨v3017, hv3017⟩ : ∃ v, gI g3008 231 17 = v := ⟨_, rfl⟩
                          have rv3017 := RgF.at hI3009.2.1 (p := 231) (b := 17) rfl
                          rw [hv3017] at rv3017
                          dsimp only at rv3017
                          have tv3017 := congrArg Int32.toInt hv3017
                          have x3018 := HI.eqI hI3009 (p := 231) (b := 17) (hv3017)
                          obtain ⟨v3019, hv3019⟩ : ∃ v, gI g3008 231 23 = v := ⟨_, rfl⟩
                          have rv3019 := RgF.at hI3009.2.1 (p := 231) (b := 23) rfl
                          rw [hv3019] at rv3019
                          dsimp only at rv3019
                          have tv3019 := congrArg Int32.toInt hv3019
                          have x3020 := HI.eqI hI3009 (p := 231) (b := 23) (hv3019)
                          have y3021 : (gI _ 231 23).toInt ≤ (gI _ 231 23).toInt := hr3012.1
                          have y3022 : (gI _ 231 17).toInt + (gI _ 231 23).toInt ≤ (gI _ 231 17).toInt + (gI _ 231 23).toInt := hr3012.2.1
                          have inn3023 := INN.cong inn2321 hI2963 (((hF2964.2.1 240 (by decide)).trans ((hF2842.2.1 240 (by decide)).trans ((hF2830.2.1 240 (by decide)).trans ((hF2818.2.1 240 (by decide)).trans (hF2809.2.1 240 (by decide))))))) (((hF2964.1 231 23 (by decide)).trans ((hF2842.1 231 23 (by decide)).trans ((hF2830.1 231 23 (by decide)).trans ((hF2818.1 231 23 (by decide)).trans (hF2809.1 231 23 (by decide)))))))
                          have pg3024 := PG.cong (hP.2.1 (by decide)) hI2963 (((hF2964.2.1 238 (by decide)).trans ((hF2842.2.1 238 (by decide)).trans ((hF2830.2.1 238 (by decide)).trans ((hF2818.2.1 238 (by decide)).trans ((hF2809.2.1 238 (by decide)).trans ((hF2317.2.1 238 (by decide)).trans ((hF2307.2.1 238 (by decide)).trans ((hF2295.2.1 238 (by decide)).trans ((hF2283.2.1 238 (by decide)).trans (hF2271.2.1 238 (by decide)))))))))))) (((hF2964.2.1 239 (by decide)).trans ((hF2842.2.1 239 (by decide)).trans ((hF2830.2.1 239 (by decide)).trans ((hF2818.2.1 239 (by decide)).trans ((hF2809.2.1 239 (by decide)).trans ((hF2317.2.1 239 (by decide)).trans ((hF2307.2.1 239 (by decide)).trans ((hF2295.2.1 239 (by decide)).trans ((hF2283.2.1 239 (by decide)).trans (hF2271.2.1 239 (by decide)))))))))))) (((hF2964.2.1 240 (by decide)).trans ((hF2842.2.1 240 (by decide)).trans ((hF2830.2.1 240 (by decide)).trans ((hF2818.2.1 240 (by decide)).trans ((hF2809.2.1 240 (by decide)).trans ((hF2317.2.1 240 (by decide)).trans ((hF2307.2.1 240 (by decide)).trans ((hF2295.2.1 240 (by decide)).trans ((hF2283.2.1 240 (by decide)).trans (hF2271.2.1 240 (by decide)))))))))))) (((hF2964.2.1 241 (by decide)).trans ((hF2842.2.1 241 (by decide)).trans ((hF2830.2.1 241 (by decide)).trans ((hF2818.2.1 241 (by decide)).trans ((hF2809.2.1 241 (by decide)).trans ((hF2317.2.1 241 (by decide)).trans ((hF2307.2.1 241 (by decide)).trans ((hF2295.2.1 241 (by decide)).trans ((hF2283.2.1 241 (by decide)).trans (hF2271.2.1 241 (by decide)))))))))))) (((hF2964.1 231 17 (by decide)).trans ((hF2842.1 231 17 (by decide)).trans ((hF2830.1 231 17 (by decide)).trans ((hF2818.1 231 17 (by decide)).trans ((hF2809.1 231 17 (by decide)).trans ((hF2317.1 231 17 (by decide)).trans ((hF2307.1 231 17 (by decide)).trans ((hF2295.1 231 17 (by decide)).trans ((hF2283.1 231 17 (by decide)).trans (hF2271.1 231 17 (by decide)))))))))))) (((hF2964.1 231 23 (by decide)).trans ((hF2842.1 231 23 (by decide)).trans ((hF2830.1 231 23 (by decide)).trans ((hF2818.1 231 23 (by decide)).trans ((hF2809.1 231 23 (by decide)).trans ((hF2317.1 231 23 (by decide)).trans ((hF2307.1 231 23 (by decide)).trans ((hF2295.1 231 23 (by decide)).trans ((hF2283.1 231 23 (by decide)).trans (hF2271.1 231 23 (by decide))))))))))))
                          have nsq3025 := INN.nsq inn3023 pg3024 (by omega)
                          have pg3026 := PG.cong (hP.2.1 (by decide)) hI2963 (((hF2964.2.1 238 (by decide)).trans ((hF2842.2.1 238 (by decide)).trans ((hF2830.2.1 238 (by decide)).trans ((hF2818.2.1 238 (by decide)).trans ((hF2809.2.1 238 (by decide)).trans ((hF2317.2.1 238 (by decide)).trans ((hF2307.2.1 238 (by decide)).trans ((hF2295.2.1 238 (by decide)).trans ((hF2283.2.1 238 (by decide)).trans (hF2271.2.1 238 (by decide)))))))))))) (((hF2964.2.1 239 (by decide)).trans ((hF2842.2.1 239 (by decide)).trans ((hF2830.2.1 239 (by decide)).trans ((hF2818.2.1 239 (by decide)).trans ((hF2809.2.1 239 (by decide)).trans ((hF2317.2.1 239 (by decide)).trans ((hF2307.2.1 239 (by decide)).trans ((hF2295.2.1 239 (by decide)).trans ((hF2283.2.1 239 (by decide)).trans (hF2271.2.1 239 (by decide)))))))))))) (((hF2964.2.1 240 (by decide)).trans ((hF2842.2.1 240 (by decide)).trans ((hF2830.2.1 240 (by decide)).trans ((hF2818.2.1 240 (by decide)).trans ((hF2809.2.1 240 (by decide)).trans ((hF2317.2.1 240 (by decide)).trans ((hF2307.2.1 240 (by decide)).trans ((hF2295.2.1 240 (by decide)).trans ((hF2283.2.1 240 (by decide)).trans (hF2271.2.1 240 (by decide)))))))))))) (((hF2964.2.1 241 (by decide)).trans ((hF2842.2.1 241 (by decide)).trans ((hF2830.2.1 241 (by decide)).trans ((hF2818.2.1 241 (by decide)).trans ((hF2809.2.1 241 (by decide)).trans ((hF2317.2.1 241 (by decide)).trans ((hF2307.2.1 241 (by decide)).trans ((hF2295.2.1 241 (by decide)).trans ((hF2283.2.1 241 (by decide)).trans (hF2271.2.1 241 (by decide)))))))))))) (((hF2964.1 231 17 (by decide)).trans ((hF2842.1 231 17 (by decide)).trans ((hF2830.1 231 17 (by decide)).trans ((hF2818.1 231 17 (by decide)).trans ((hF2809.1 231 17 (by decide)).trans ((hF2317.1 231 17 (by decide)).trans ((hF2307.1 231 17 (by decide)).trans ((hF2295.1 231 17 (by decide)).trans ((hF2283.1 231 17 (by decide)).trans (hF2271.1 231 17 (by decide)))))))))))) (((hF2964.1 231 23 (by decide)).trans ((hF2842.1 231 23 (by decide)).trans ((hF2830.1 231 23 (by decide)).trans ((hF2818.1 231 23 (by decide)).trans ((hF2809.1 231 23 (by decide)).trans ((hF2317.1 231 23 (by decide)).trans ((hF2307.1 231 23 (by decide)).trans ((hF2295.1 231 23 (by decide)).trans ((hF2283.1 231 23 (by decide)).trans (hF2271.1 231 23 (by decide))))))))))))
                          have inn3028 := INN.cong inn2321 hI2963 (((hF2964.2.1 240 (by decide)).trans ((hF2842.2.1 240 (by decide)).trans ((hF2830.2.1 240 (by decide)).trans ((hF2818.2.1 240 (by decide)).trans (hF2809.2.1 240 (by decide))))))) (((hF2964.1 231 23 (by decide)).trans ((hF2842.1 231 23 (by decide)).trans ((hF2830.1 231 23 (by decide)).trans ((hF2818.1 231 23 (by decide)).trans (hF2809.1 231 23 (by decide)))))))
                          have pg3027 := hr3012.2.2.1 _ _ _ pg3026
                          have nsq3030 := NSQ.le nsq3025 hI3009 hr3012.2.2.2.2.1 hr3012.1
                          refine At.enter rfl ?_
                          refine r_aload_n rfl ?_
                          refine r_iload_n rfl ?_
                          refine r_iconst 0 rfl ?_
                          have x3031 := HI.eqI hI3009 (p := 231) (b := 23) (hv3019)
                          have zv3032 : (26 : Int32).toInt = 26 := rfl
                          have zv3033 : (0 : Int32).toInt = 0 := rfl
                          refine r_callV 231 rfl [.ref 231, .int 26, .int 0] [] (Nat.le_of_ble_eq_true rfl) rfl (T_X11_push_231 _ hI3009 26 (by decide) 0 (by decide) (by omega)) ?_
                          rintro _ _ ⟨g3034, rfl, hI3035, hF3036, rfl, hr3038⟩
                          refine At.stn ?_
                          have hF3039 := Fr.tr hF3013 hF3036 rfl rfl
                          have zv3040 : (26 : Int32).toInt = 26 := rfl
                          have zv3041 : (0 : Int32).toInt = 0 := rfl
                          have x3042 := HI.eqI hI3009 (p := 231) (b := 17) (hv3017)
                          have x3043 := HI.eqI hI3009 (p := 231) (b := 23) (hv3019)
                          have x3044 := HI.eqI hI3035 (p := 231) (b := 17) (((hF3036.1 231 17 (by decide)).trans hv3017))
                          obtain ⟨v3045, hv3045⟩ : ∃ v, gI g3034 231 23 = v := ⟨_, rfl⟩
                          have rv3045 := RgF.at hI3035.2.1 (p := 231) (b := 23) rfl
                          rw [hv3045] at rv3045
                          dsimp only at rv3045
                          have tv3045 := congrArg Int32.toInt hv3045
                          have x3046 := HI.eqI hI3035 (p := 231) (b := 23) (hv3045)
                          have y3047 : (gI _ 231 23).toInt = (gI _ 231 23).toInt + 1 := hr3038.1
                          have pg3048 := PG.push (e' := 0) pg3027 hr3038 (hF3036.2.1 238 (by decide)) (hF3036.2.1 239 (by decide)) (hF3036.1 231 17 (by decide)) ⟨by omega, by omega⟩ (Or.inr nsq3030) (by omega) (by omega)
                          have nsq3049 := NSQ.push nsq3030 hr3038 (by omega)
                          refine At.enter rfl ?_
                          refine r_iconst 1 rfl ?_
                          refine r_ireti ?_
                          have x3050 := HI.eqI hI3035 (p := 231) (b := 8) ((((hF3036.1 231 8 (by decide)).trans ((hF3010.1 231 8 (by decide)).trans ((hF2964.1 231 8 (by decide)).trans ((hF2842.1 231 8 (by decide)).trans ((hF2830.1 231 8 (by decide)).trans ((hF2818.1 231 8 (by decide)).trans ((hF2809.1 231 8 (by decide)).trans ((hF2317.1 231 8 (by decide)).trans ((hF2307.1 231 8 (by decide)).trans ((hF2295.1 231 8 (by decide)).trans ((hF2283.1 231 8 (by decide)).trans (hF2271.1 231 8 (by decide))))))))))))).trans hv1))
                          have x3051 := HI.eqI hI3035 (p := 231) (b := 9) ((((hF3036.1 231 9 (by decide)).trans (hF3010.1 231 9 (by decide))).trans hv2975))
                          have x3052 := HI.eqI hI3035 (p := 231) (b := 10) ((((hF3036.1 231 10 (by decide)).trans (hF3010.1 231 10 (by decide))).trans hv2977))
                          have x3053 := HI.eqI hI3035 (p := 231) (b := 11) ((((hF3036.1 231 11 (by decide)).trans (hF3010.1 231 11 (by decide))).trans hv2979))
                          obtain ⟨v3054, hv3054⟩ : ∃ v, gJ g2962 231 12 = v := ⟨_, rfl⟩
                          have x3055 := HI.eqJ hI3035 (b := 12) ((((hF3036.2.2 231 12 (by decide)).trans (hF3010.2.2 231 12 (by decide))).trans hv3054))
                          have x3056 := HI.eqI hI3035 (p := 231) (b := 14) ((((hF3036.1 231 14 (by decide)).trans (hF3010.1 231 14 (by decide))).trans hv2981))
                          have x3057 := HI.eqI hI3035 (p := 231) (b := 17) (((hF3036.1 231 17 (by decide)).trans hv3017))
                          have x3058 := HI.eqI hI3035 (p := 231) (b := 23) (hv3045)
                          have x3059 := HI.eqI hI0 (p := 231) (b := 9) (hv2)
                          have zv3060 : (1 : Int32).toInt = 1 := rfl
                          have w263061 := W26.cong c2988 hI3035 (((hF3036.1 231 9 (by decide)).trans (hF3010.1 231 9 (by decide)))) (((hF3036.1 231 10 (by decide)).trans (hF3010.1 231 10 (by decide)))) (((hF3036.1 231 11 (by decide)).trans (hF3010.1 231 11 (by decide)))) (((hF3036.2.2 231 12 (by decide)).trans (hF3010.2.2 231 12 (by decide))))
                          exact ⟨_, rfl, hI3035, hF3039, _, rfl, by decide, ⟨by omega, by omega, by omega, by omega, w263061, by omega, by omega, (fun hbad => ⟨by omega, (PT.mk (fun _ => pg3048) (fun h => False.elim (by omega)) (fun h h9 => False.elim (by omega)) (fun h => False.elim (by omega)))⟩), (fun hbad => by omega)⟩⟩
                    · have c2837_ : v2831.toInt ≠ 0 := en_k_eq_f c2837
                      refine At.enter rfl ?_
                      refine r_bipush 25 rfl ?_
                      refine r_goto ?_
                      refine At.enter rfl ?_
                      refine r_istore_n ([(2, .int 25), (3, .int v2318), (0, .ref 231), (1, .int a1)]) rfl ?_
                      refine r_aload_n rfl ?_
                      refine r_iload_n rfl ?_
                      refine r_bipush 26 rfl ?_
                      refine r_ict (by decide) ?_
                      refine At.enter rfl ?_
                      refine r_iconst 1 rfl ?_
                      refine r_goto ?_
                      refine At.enter rfl ?_
                      have x3062 := HI.eqI hI2829 (p := 231) (b := 8) ((((hF2830.1 231 8 (by decide)).trans ((hF2818.1 231 8 (by decide)).trans ((hF2809.1 231 8 (by decide)).trans ((hF2317.1 231 8 (by decide)).trans ((hF2307.1 231 8 (by decide)).trans ((hF2295.1 231 8 (by decide)).trans ((hF2283.1 231 8 (by decide)).trans (hF2271.1 231 8 (by decide))))))))).trans hv1))
                      have x3063 := HI.eqI hI2829 (p := 231) (b := 9) ((((hF2830.1 231 9 (by decide)).trans ((hF2818.1 231 9 (by decide)).trans ((hF2809.1 231 9 (by decide)).trans ((hF2317.1 231 9 (by decide)).trans ((hF2307.1 231 9 (by decide)).trans ((hF2295.1 231 9 (by decide)).trans ((hF2283.1 231 9 (by decide)).trans (hF2271.1 231 9 (by decide))))))))).trans hv2))
                      have x3064 := HI.eqI hI2829 (p := 231) (b := 10) ((((hF2830.1 231 10 (by decide)).trans ((hF2818.1 231 10 (by decide)).trans ((hF2809.1 231 10 (by decide)).trans ((hF2317.1 231 10 (by decide)).trans ((hF2307.1 231 10 (by decide)).trans ((hF2295.1 231 10 (by decide)).trans ((hF2283.1 231 10 (by decide)).trans (hF2271.1 231 10 (by decide))))))))).trans hv3))
                      have x3065 := HI.eqI hI2829 (p := 231) (b := 11) ((((hF2830.1 231 11 (by decide)).trans ((hF2818.1 231 11 (by decide)).trans ((hF2809.1 231 11 (by decide)).trans ((hF2317.1 231 11 (by decide)).trans ((hF2307.1 231 11 (by decide)).trans ((hF2295.1 231 11 (by decide)).trans ((hF2283.1 231 11 (by decide)).trans (hF2271.1 231 11 (by decide))))))))).trans hv4))
                      have w263066 := W26.cong hW hI2829 (((hF2830.1 231 9 (by decide)).trans ((hF2818.1 231 9 (by decide)).trans ((hF2809.1 231 9 (by decide)).trans ((hF2317.1 231 9 (by decide)).trans ((hF2307.1 231 9 (by decide)).trans ((hF2295.1 231 9 (by decide)).trans ((hF2283.1 231 9 (by decide)).trans (hF2271.1 231 9 (by decide)))))))))) (((hF2830.1 231 10 (by decide)).trans ((hF2818.1 231 10 (by decide)).trans ((hF2809.1 231 10 (by decide)).trans ((hF2317.1 231 10 (by decide)).trans ((hF2307.1 231 10 (by decide)).trans ((hF2295.1 231 10 (by decide)).trans ((hF2283.1 231 10 (by decide)).trans (hF2271.1 231 10 (by decide)))))))))) (((hF2830.1 231 11 (by decide)).trans ((hF2818.1 231 11 (by decide)).trans ((hF2809.1 231 11 (by decide)).trans ((hF2317.1 231 11 (by decide)).trans ((hF2307.1 231 11 (by decide)).trans ((hF2295.1 231 11 (by decide)).trans ((hF2283.1 231 11 (by decide)).trans (hF2271.1 231 11 (by decide)))))))))) (((hF2830.2.2 231 12 (by decide)).trans ((hF2818.2.2 231 12 (by decide)).trans ((hF2809.2.2 231 12 (by decide)).trans ((hF2317.2.2 231 12 (by decide)).trans ((hF2307.2.2 231 12 (by decide)).trans ((hF2295.2.2 231 12 (by decide)).trans ((hF2283.2.2 231 12 (by decide)).trans (hF2271.2.2 231 12 (by decide))))))))))
                      have zv3067 : (1 : Int32).toInt = 1 := rfl
                      refine r_callV 213 rfl [.ref 231, .int 1] [] (Nat.le_of_ble_eq_true rfl) rfl (T_X11_must_231 _ hI2829 1 (by decide) (by refine ⟨?_, ?_, ?_, ?_⟩ <;> omega) w263066) ?_
                      rintro _ _ ⟨g3068, rfl, hI3069, hF3070, rfl, hr3072⟩
                      refine At.stn ?_
                      have hF3073 := Fr.tr hF2833 hF3070 rfl rfl
                      have zv3074 : (1 : Int32).toInt = 1 := rfl
                      have x3075 := HI.eqI hI2829 (p := 231) (b := 8) ((((hF2830.1 231 8 (by decide)).trans ((hF2818.1 231 8 (by decide)).trans ((hF2809.1 231 8 (by decide)).trans ((hF2317.1 231 8 (by decide)).trans ((hF2307.1 231 8 (by decide)).trans ((hF2295.1 231 8 (by decide)).trans ((hF2283.1 231 8 (by decide)).trans (hF2271.1 231 8 (by decide))))))))).trans hv1))
                      have x3076 := HI.eqI hI2829 (p := 231) (b := 9) ((((hF2830.1 231 9 (by decide)).trans ((hF2818.1 231 9 (by decide)).trans ((hF2809.1 231 9 (by decide)).trans ((hF2317.1 231 9 (by decide)).trans ((hF2307.1 231 9 (by decide)).trans ((hF2295.1 231 9 (by decide)).trans ((hF2283.1 231 9 (by decide)).trans (hF2271.1 231 9 (by decide))))))))).trans hv2))
                      have x3077 := HI.eqI hI2829 (p := 231) (b := 10) ((((hF2830.1 231 10 (by decide)).trans ((hF2818.1 231 10 (by decide)).trans ((hF2809.1 231 10 (by decide)).trans ((hF2317.1 231 10 (by decide)).trans ((hF2307.1 231 10 (by decide)).trans ((hF2295.1 231 10 (by decide)).trans ((hF2283.1 231 10 (by decide)).trans (hF2271.1 231 10 (by decide))))))))).trans hv3))
                      have x3078 := HI.eqI hI2829 (p := 231) (b := 11) ((((hF2830.1 231 11 (by decide)).trans ((hF2818.1 231 11 (by decide)).trans ((hF2809.1 231 11 (by decide)).trans ((hF2317.1 231 11 (by decide)).trans ((hF2307.1 231 11 (by decide)).trans ((hF2295.1 231 11 (by decide)).trans ((hF2283.1 231 11 (by decide)).trans (hF2271.1 231 11 (by decide))))))))).trans hv4))
                      have x3079 := HI.eqI hI2829 (p := 231) (b := 14) ((((hF2830.1 231 14 (by decide)).trans ((hF2818.1 231 14 (by decide)).trans ((hF2809.1 231 14 (by decide)).trans ((hF2317.1 231 14 (by decide)).trans ((hF2307.1 231 14 (by decide)).trans ((hF2295.1 231 14 (by decide)).trans ((hF2283.1 231 14 (by decide)).trans (hF2271.1 231 14 (by decide))))))))).trans hv6))
                      have x3080 := HI.eqI hI3069 (p := 231) (b := 8) ((((hF3070.1 231 8 (by decide)).trans ((hF2830.1 231 8 (by decide)).trans ((hF2818.1 231 8 (by decide)).trans ((hF2809.1 231 8 (by decide)).trans ((hF2317.1 231 8 (by decide)).trans ((hF2307.1 231 8 (by decide)).trans ((hF2295.1 231 8 (by decide)).trans ((hF2283.1 231 8 (by decide)).trans (hF2271.1 231 8 (by decide)))))))))).trans hv1))
                      obtain ⟨v3081, hv3081⟩ : ∃ v, gI g3068 231 9 = v := ⟨_, rfl⟩
                      have rv3081 := RgF.at hI3069.2.1 (p := 231) (b := 9) rfl
                      rw [hv3081] at rv3081
                      dsimp only at rv3081
                      have tv3081 := congrArg Int32.toInt hv3081
                      have x3082 := HI.eqI hI3069 (p := 231) (b := 9) (hv3081)
                      obtain ⟨v3083, hv3083⟩ : ∃ v, gI g3068 231 10 = v := ⟨_, rfl⟩
                      have rv3083 := RgF.at hI3069.2.1 (p := 231) (b := 10) rfl
                      rw [hv3083] at rv3083
                      dsimp only at rv3083
                      have tv3083 := congrArg Int32.toInt hv3083
                      have x3084 := HI.eqI hI3069 (p := 231) (b := 10) (hv3083)
                      obtain ⟨v3085, hv3085⟩ : ∃ v, gI g3068 231 11 = v := ⟨_, rfl⟩
                      have tv3085 := congrArg Int32.toInt hv3085
                      have x3086 := HI.eqI hI3069 (p := 231) (b := 11) (hv3085)
                      obtain ⟨v3087, hv3087⟩ : ∃ v, gI g3068 231 14 = v := ⟨_, rfl⟩
                      have tv3087 := congrArg Int32.toInt hv3087
                      have x3088 := HI.eqI hI3069 (p := 231) (b := 14) (hv3087)
                      obtain ⟨c3089, c3090, c3091, c3092, c3093, c3094, c3095⟩ := hr3072
                      refine At.enter rfl ?_
                      refine r_aload_n rfl ?_
                      refine q_getI (Sh.int hI3069.1 kx_231 rfl) v3087 hv3087 ?_
                      refine r_ifs 220 rfl (fun c3096 => ?_) (fun c3096 => ?_)
                      · have c3096_ : v3087.toInt ≠ 0 := en_k_ne_t c3096
                        clear c3095
                        refine At.enter rfl ?_
                        refine r_iconst 1 rfl ?_
                        refine r_ireti ?_
                        have x3097 := HI.eqI hI3069 (p := 231) (b := 8) ((((hF3070.1 231 8 (by decide)).trans ((hF2830.1 231 8 (by decide)).trans ((hF2818.1 231 8 (by decide)).trans ((hF2809.1 231 8 (by decide)).trans ((hF2317.1 231 8 (by decide)).trans ((hF2307.1 231 8 (by decide)).trans ((hF2295.1 231 8 (by decide)).trans ((hF2283.1 231 8 (by decide)).trans (hF2271.1 231 8 (by decide)))))))))).trans hv1))
                        have x3098 := HI.eqI hI3069 (p := 231) (b := 9) (hv3081)
                        have x3099 := HI.eqI hI3069 (p := 231) (b := 10) (hv3083)
                        have x3100 := HI.eqI hI3069 (p := 231) (b := 11) (hv3085)
                        obtain ⟨v3101, hv3101⟩ : ∃ v, gJ g3068 231 12 = v := ⟨_, rfl⟩
                        have x3102 := HI.eqJ hI3069 (b := 12) (hv3101)
                        have x3103 := HI.eqI hI3069 (p := 231) (b := 14) (hv3087)
                        have x3104 := HI.eqI hI3069 (p := 231) (b := 17) ((((hF3070.1 231 17 (by decide)).trans ((hF2830.1 231 17 (by decide)).trans ((hF2818.1 231 17 (by decide)).trans ((hF2809.1 231 17 (by decide)).trans ((hF2317.1 231 17 (by decide)).trans ((hF2307.1 231 17 (by decide)).trans ((hF2295.1 231 17 (by decide)).trans ((hF2283.1 231 17 (by decide)).trans (hF2271.1 231 17 (by decide)))))))))).trans hv7))
                        have x3105 := HI.eqI hI3069 (p := 231) (b := 23) ((((hF3070.1 231 23 (by decide)).trans ((hF2830.1 231 23 (by decide)).trans ((hF2818.1 231 23 (by decide)).trans ((hF2809.1 231 23 (by decide)).trans ((hF2317.1 231 23 (by decide)).trans ((hF2307.1 231 23 (by decide)).trans ((hF2295.1 231 23 (by decide)).trans ((hF2283.1 231 23 (by decide)).trans (hF2271.1 231 23 (by decide)))))))))).trans hv8))
                        have x3106 := HI.eqI hI0 (p := 231) (b := 9) (hv2)
                        have zv3107 : (1 : Int32).toInt = 1 := rfl
                        exact ⟨_, rfl, hI3069, hF3073, _, rfl, by decide, ⟨by omega, by omega, by omega, by omega, c3094, by omega, by omega, (fun hbad => ⟨by omega, (PT.mk (fun h => False.elim (by omega)) (fun h => False.elim (by omega)) (fun h h9 => False.elim (by omega)) (fun h => False.elim (by omega)))⟩), (fun hbad => by omega)⟩⟩
                      · have c3096_ : v3087.toInt = 0 := en_k_ne_f c3096
                        obtain ⟨i3108, i3109, i3110⟩ := c3095 (by omega)
                        refine At.enter rfl ?_
                        refine r_aload_n rfl ?_
                        refine r_iconst 5 rfl ?_
                        have x3111 := HI.eqI hI3069 (p := 231) (b := 17) ((((hF3070.1 231 17 (by decide)).trans ((hF2830.1 231 17 (by decide)).trans ((hF2818.1 231 17 (by decide)).trans ((hF2809.1 231 17 (by decide)).trans ((hF2317.1 231 17 (by decide)).trans ((hF2307.1 231 17 (by decide)).trans ((hF2295.1 231 17 (by decide)).trans ((hF2283.1 231 17 (by decide)).trans (hF2271.1 231 17 (by decide)))))))))).trans hv7))
                        have x3112 := HI.eqI hI3069 (p := 231) (b := 23) ((((hF3070.1 231 23 (by decide)).trans ((hF2830.1 231 23 (by decide)).trans ((hF2818.1 231 23 (by decide)).trans ((hF2809.1 231 23 (by decide)).trans ((hF2317.1 231 23 (by decide)).trans ((hF2307.1 231 23 (by decide)).trans ((hF2295.1 231 23 (by decide)).trans ((hF2283.1 231 23 (by decide)).trans (hF2271.1 231 23 (by decide)))))))))).trans hv8))
                        have zv3113 : (5 : Int32).toInt = 5 := rfl
                        refine r_callV 225 rfl [.ref 231, .int 5] [] (Nat.le_of_ble_eq_true rfl) rfl (T_X11_settle_231 _ hI3069 5 (by decide) (by omega)) ?_
                        rintro _ _ ⟨g3114, rfl, hI3115, hF3116, rfl, hr3118⟩
                        refine At.stn ?_
                        have hF3119 := Fr.tr hF3073 hF3116 rfl rfl
                        have zv3120 : (5 : Int32).toInt = 5 := rfl
                        have x3121 := HI.eqI hI3069 (p := 231) (b := 17) ((((hF3070.1 231 17 (by decide)).trans ((hF2830.1 231 17 (by decide)).trans ((hF2818.1 231 17 (by decide)).trans ((hF2809.1 231 17 (by decide)).trans ((hF2317.1 231 17 (by decide)).trans ((hF2307.1 231 17 (by decide)).trans ((hF2295.1 231 17 (by decide)).trans ((hF2283.1 231 17 (by decide)).trans (hF2271.1 231 17 (by decide)))))))))).trans hv7))
                        have x3122 := HI.eqI hI3069 (p := 231) (b := 23) ((((hF3070.1 231 23 (by decide)).trans ((hF2830.1 231 23 (by decide)).trans ((hF2818.1 231 23 (by decide)).trans ((hF2809.1 231 23 (by decide)).trans ((hF2317.1 231 23 (by decide)).trans ((hF2307.1 231 23 (by decide)).trans ((hF2295.1 231 23 (by decide)).trans ((hF2283.1 231 23 (by decide)).trans (hF2271.1 231 23 (by decide)))))))))).trans hv8))
                        obtain ⟨v3123, hv3123⟩ : ∃ v, gI g3114 231 17 = v := ⟨_, rfl⟩
                        have rv3123 := RgF.at hI3115.2.1 (p := 231) (b := 17) rfl
                        rw [hv3123] at rv3123
                        dsimp only at rv3123
                        have tv3123 := congrArg Int32.toInt hv3123
                        have x3124 := HI.eqI hI3115 (p := 231) (b := 17) (hv3123)
                        obtain ⟨v3125, hv3125⟩ : ∃ v, gI g3114 231 23 = v := ⟨_, rfl⟩
                        have rv3125 := RgF.at hI3115.2.1 (p := 231) (b := 23) rfl
                        rw [hv3125] at rv3125
                        dsimp only at rv3125
                        have tv3125 := congrArg Int32.toInt hv3125
                        have x3126 := HI.eqI hI3115 (p := 231) (b := 23) (hv3125)
                        have y3127 : (gI _ 231 23).toInt ≤ (gI _ 231 23).toInt := hr3118.1
                        have y3128 : (gI _ 231 17).toInt + (gI _ 231 23).toInt ≤ (gI _ 231 17).toInt + (gI _ 231 23).toInt := hr3118.2.1
                        have inn3129 := INN.cong inn2321 hI3069 (((hF3070.2.1 240 (by decide)).trans ((hF2830.2.1 240 (by decide)).trans ((hF2818.2.1 240 (by decide)).trans (hF2809.2.1 240 (by decide)))))) (((hF3070.1 231 23 (by decide)).trans ((hF2830.1 231 23 (by decide)).trans ((hF2818.1 231 23 (by decide)).trans (hF2809.1 231 23 (by decide))))))
                        have pg3130 := PG.cong (hP.2.1 (by decide)) hI3069 (((hF3070.2.1 238 (by decide)).trans ((hF2830.2.1 238 (by decide)).trans ((hF2818.2.1 238 (by decide)).trans ((hF2809.2.1 238 (by decide)).trans ((hF2317.2.1 238 (by decide)).trans ((hF2307.2.1 238 (by decide)).trans ((hF2295.2.1 238 (by decide)).trans ((hF2283.2.1 238 (by decide)).trans (hF2271.2.1 238 (by decide))))))))))) (((hF3070.2.1 239 (by decide)).trans ((hF2830.2.1 239 (by decide)).trans ((hF2818.2.1 239 (by decide)).trans ((hF2809.2.1 239 (by decide)).trans ((hF2317.2.1 239 (by decide)).trans ((hF2307.2.1 239 (by decide)).trans ((hF2295.2.1 239 (by decide)).trans ((hF2283.2.1 239 (by decide)).trans (hF2271.2.1 239 (by decide))))))))))) (((hF3070.2.1 240 (by decide)).trans ((hF2830.2.1 240 (by decide)).trans ((hF2818.2.1 240 (by decide)).trans ((hF2809.2.1 240 (by decide)).trans ((hF2317.2.1 240 (by decide)).trans ((hF2307.2.1 240 (by decide)).trans ((hF2295.2.1 240 (by decide)).trans ((hF2283.2.1 240 (by decide)).trans (hF2271.2.1 240 (by decide))))))))))) (((hF3070.2.1 241 (by decide)).trans ((hF2830.2.1 241 (by decide)).trans ((hF2818.2.1 241 (by decide)).trans ((hF2809.2.1 241 (by decide)).trans ((hF2317.2.1 241 (by decide)).trans ((hF2307.2.1 241 (by decide)).trans ((hF2295.2.1 241 (by decide)).trans ((hF2283.2.1 241 (by decide)).trans (hF2271.2.1 241 (by decide))))))))))) (((hF3070.1 231 17 (by decide)).trans ((hF2830.1 231 17 (by decide)).trans ((hF2818.1 231 17 (by decide)).trans ((hF2809.1 231 17 (by decide)).trans ((hF2317.1 231 17 (by decide)).trans ((hF2307.1 231 17 (by decide)).trans ((hF2295.1 231 17 (by decide)).trans ((hF2283.1 231 17 (by decide)).trans (hF2271.1 231 17 (by decide))))))))))) (((hF3070.1 231 23 (by decide)).trans ((hF2830.1 231 23 (by decide)).trans ((hF2818.1 231 23 (by decide)).trans ((hF2809.1 231 23 (by decide)).trans ((hF2317.1 231 23 (by decide)).trans ((hF2307.1 231 23 (by decide)).trans ((hF2295.1 231 23 (by decide)).trans ((hF2283.1 231 23 (by decide)).trans (hF2271.1 231 23 (by decide)))))))))))
                        have nsq3131 := INN.nsq inn3129 pg3130 (by omega)
                        have pg3132 := PG.cong (hP.2.1 (by decide)) hI3069 (((hF3070.2.1 238 (by decide)).trans ((hF2830.2.1 238 (by decide)).trans ((hF2818.2.1 238 (by decide)).trans ((hF2809.2.1 238 (by decide)).trans ((hF2317.2.1 238 (by decide)).trans ((hF2307.2.1 238 (by decide)).trans ((hF2295.2.1 238 (by decide)).trans ((hF2283.2.1 238 (by decide)).trans (hF2271.2.1 238 (by decide))))))))))) (((hF3070.2.1 239 (by decide)).trans ((hF2830.2.1 239 (by decide)).trans ((hF2818.2.1 239 (by decide)).trans ((hF2809.2.1 239 (by decide)).trans ((hF2317.2.1 239 (by decide)).trans ((hF2307.2.1 239 (by decide)).trans ((hF2295.2.1 239 (by decide)).trans ((hF2283.2.1 239 (by decide)).trans (hF2271.2.1 239 (by decide))))))))))) (((hF3070.2.1 240 (by decide)).trans ((hF2830.2.1 240 (by decide)).trans ((hF2818.2.1 240 (by decide)).trans ((hF2809.2.1 240 (by decide)).trans ((hF2317.2.1 240 (by decide)).trans ((hF2307.2.1 240 (by decide)).trans ((hF2295.2.1 240 (by decide)).trans ((hF2283.2.1 240 (by decide)).trans (hF2271.2.1 240 (by decide))))))))))) (((hF3070.2.1 241 (by decide)).trans ((hF2830.2.1 241 (by decide)).trans ((hF2818.2.1 241 (by decide)).trans ((hF2809.2.1 241 (by decide)).trans ((hF2317.2.1 241 (by decide)).trans ((hF2307.2.1 241 (by decide)).trans ((hF2295.2.1 241 (by decide)).trans ((hF2283.2.1 241 (by decide)).trans (hF2271.2.1 241 (by decide))))))))))) (((hF3070.1 231 17 (by decide)).trans ((hF2830.1 231 17 (by decide)).trans ((hF2818.1 231 17 (by decide)).trans ((hF2809.1 231 17 (by decide)).trans ((hF2317.1 231 17 (by decide)).trans ((hF2307.1 231 17 (by decide)).trans ((hF2295.1 231 17 (by decide)).trans ((hF2283.1 231 17 (by decide)).trans (hF2271.1 231 17 (by decide))))))))))) (((hF3070.1 231 23 (by decide)).trans ((hF2830.1 231 23 (by decide)).trans ((hF2818.1 231 23 (by decide)).trans ((hF2809.1 231 23 (by decide)).trans ((hF2317.1 231 23 (by decide)).trans ((hF2307.1 231 23 (by decide)).trans ((hF2295.1 231 23 (by decide)).trans ((hF2283.1 231 23 (by decide)).trans (hF2271.1 231 23 (by decide)))))))))))
                        have inn3134 := INN.cong inn2321 hI3069 (((hF3070.2.1 240 (by decide)).trans ((hF2830.2.1 240 (by decide)).trans ((hF2818.2.1 240 (by decide)).trans (hF2809.2.1 240 (by decide)))))) (((hF3070.1 231 23 (by decide)).trans ((hF2830.1 231 23 (by decide)).trans ((hF2818.1 231 23 (by decide)).trans (hF2809.1 231 23 (by decide))))))
                        have pg3133 := hr3118.2.2.1 _ _ _ pg3132
                        have nsq3136 := NSQ.le nsq3131 hI3115 hr3118.2.2.2.2.1 hr3118.1
                        refine At.enter rfl ?_
                        refine r_aload_n rfl ?_
                        refine r_iload_n rfl ?_
                        refine r_iconst 0 rfl ?_
                        have x3137 := HI.eqI hI3115 (p := 231) (b := 23) (hv3125)
                        have zv3138 : (25 : Int32).toInt = 25 := rfl
                        have zv3139 : (0 : Int32).toInt = 0 := rfl
                        refine r_callV 231 rfl [.ref 231, .int 25, .int 0] [] (Nat.le_of_ble_eq_true rfl) rfl (T_X11_push_231 _ hI3115 25 (by decide) 0 (by decide) (by omega)) ?_
                        rintro _ _ ⟨g3140, rfl, hI3141, hF3142, rfl, hr3144⟩
                        refine At.stn ?_
                        have hF3145 := Fr.tr hF3119 hF3142 rfl rfl
                        have zv3146 : (25 : Int32).toInt = 25 := rfl
                        have zv3147 : (0 : Int32).toInt = 0 := rfl
                        have x3148 := HI.eqI hI3115 (p := 231) (b := 17) (hv3123)
                        have x3149 := HI.eqI hI3115 (p := 231) (b := 23) (hv3125)
                        have x3150 := HI.eqI hI3141 (p := 231) (b := 17) (((hF3142.1 231 17 (by decide)).trans hv3123))
                        obtain ⟨v3151, hv3151⟩ : ∃ v, gI g3140 231 23 = v := ⟨_, rfl⟩
                        have rv3151 := RgF.at hI3141.2.1 (p := 231) (b := 23) rfl
                        rw [hv3151] at rv3151
                        dsimp only at rv3151
                        have tv3151 := congrArg Int32.toInt hv3151
                        have x3152 := HI.eqI hI3141 (p := 231) (b := 23) (hv3151)
                        have y3153 : (gI _ 231 23).toInt = (gI _ 231 23).toInt + 1 := hr3144.1
                        have pg3154 := PG.push (e' := 0) pg3133 hr3144 (hF3142.2.1 238 (by decide)) (hF3142.2.1 239 (by decide)) (hF3142.1 231 17 (by decide)) ⟨by omega, by omega⟩ (Or.inr nsq3136) (by omega) (by omega)
                        have nsq3155 := NSQ.push nsq3136 hr3144 (by omega)
                        refine At.enter rfl ?_
                        refine r_iconst 1 rfl ?_
                        refine r_ireti ?_
                        have x3156 := HI.eqI hI3141 (p := 231) (b := 8) ((((hF3142.1 231 8 (by decide)).trans ((hF3116.1 231 8 (by decide)).trans ((hF3070.1 231 8 (by decide)).trans ((hF2830.1 231 8 (by decide)).trans ((hF2818.1 231 8 (by decide)).trans ((hF2809.1 231 8 (by decide)).trans ((hF2317.1 231 8 (by decide)).trans ((hF2307.1 231 8 (by decide)).trans ((hF2295.1 231 8 (by decide)).trans ((hF2283.1 231 8 (by decide)).trans (hF2271.1 231 8 (by decide)))))))))))).trans hv1))
                        have x3157 := HI.eqI hI3141 (p := 231) (b := 9) ((((hF3142.1 231 9 (by decide)).trans (hF3116.1 231 9 (by decide))).trans hv3081))
                        have x3158 := HI.eqI hI3141 (p := 231) (b := 10) ((((hF3142.1 231 10 (by decide)).trans (hF3116.1 231 10 (by decide))).trans hv3083))
                        have x3159 := HI.eqI hI3141 (p := 231) (b := 11) ((((hF3142.1 231 11 (by decide)).trans (hF3116.1 231 11 (by decide))).trans hv3085))
                        obtain ⟨v3160, hv3160⟩ : ∃ v, gJ g3068 231 12 = v := ⟨_, rfl⟩
                        have x3161 := HI.eqJ hI3141 (b := 12) ((((hF3142.2.2 231 12 (by decide)).trans (hF3116.2.2 231 12 (by decide))).trans hv3160))
                        have x3162 := HI.eqI hI3141 (p := 231) (b := 14) ((((hF3142.1 231 14 (by decide)).trans (hF3116.1 231 14 (by decide))).trans hv3087))
                        have x3163 := HI.eqI hI3141 (p := 231) (b := 17) (((hF3142.1 231 17 (by decide)).trans hv3123))
                        have x3164 := HI.eqI hI3141 (p := 231) (b := 23) (hv3151)
                        have x3165 := HI.eqI hI0 (p := 231) (b := 9) (hv2)
                        have zv3166 : (1 : Int32).toInt = 1 := rfl
                        have w263167 := W26.cong c3094 hI3141 (((hF3142.1 231 9 (by decide)).trans (hF3116.1 231 9 (by decide)))) (((hF3142.1 231 10 (by decide)).trans (hF3116.1 231 10 (by decide)))) (((hF3142.1 231 11 (by decide)).trans (hF3116.1 231 11 (by decide)))) (((hF3142.2.2 231 12 (by decide)).trans (hF3116.2.2 231 12 (by decide))))
                        exact ⟨_, rfl, hI3141, hF3145, _, rfl, by decide, ⟨by omega, by omega, by omega, by omega, w263167, by omega, by omega, (fun hbad => ⟨by omega, (PT.mk (fun _ => pg3154) (fun h => False.elim (by omega)) (fun h h9 => False.elim (by omega)) (fun h => False.elim (by omega)))⟩), (fun hbad => by omega)⟩⟩
                  · have c2825_ : v2819.toInt ≠ 0 := en_k_eq_f c2825
                    refine At.enter rfl ?_
                    refine r_bipush 24 rfl ?_
                    refine r_goto ?_
                    refine At.enter rfl ?_
                    refine r_istore_n ([(2, .int 24), (3, .int v2318), (0, .ref 231), (1, .int a1)]) rfl ?_
                    refine r_aload_n rfl ?_
                    refine r_iload_n rfl ?_
                    refine r_bipush 26 rfl ?_
                    refine r_ict (by decide) ?_
                    refine At.enter rfl ?_
                    refine r_iconst 1 rfl ?_
                    refine r_goto ?_
                    refine At.enter rfl ?_
                    have x3168 := HI.eqI hI2817 (p := 231) (b := 8) ((((hF2818.1 231 8 (by decide)).trans ((hF2809.1 231 8 (by decide)).trans ((hF2317.1 231 8 (by decide)).trans ((hF2307.1 231 8 (by decide)).trans ((hF2295.1 231 8 (by decide)).trans ((hF2283.1 231 8 (by decide)).trans (hF2271.1 231 8 (by decide)))))))).trans hv1))
                    have x3169 := HI.eqI hI2817 (p := 231) (b := 9) ((((hF2818.1 231 9 (by decide)).trans ((hF2809.1 231 9 (by decide)).trans ((hF2317.1 231 9 (by decide)).trans ((hF2307.1 231 9 (by decide)).trans ((hF2295.1 231 9 (by decide)).trans ((hF2283.1 231 9 (by decide)).trans (hF2271.1 231 9 (by decide)))))))).trans hv2))
                    have x3170 := HI.eqI hI2817 (p := 231) (b := 10) ((((hF2818.1 231 10 (by decide)).trans ((hF2809.1 231 10 (by decide)).trans ((hF2317.1 231 10 (by decide)).trans ((hF2307.1 231 10 (by decide)).trans ((hF2295.1 231 10 (by decide)).trans ((hF2283.1 231 10 (by decide)).trans (hF2271.1 231 10 (by decide)))))))).trans hv3))
                    have x3171 := HI.eqI hI2817 (p := 231) (b := 11) ((((hF2818.1 231 11 (by decide)).trans ((hF2809.1 231 11 (by decide)).trans ((hF2317.1 231 11 (by decide)).trans ((hF2307.1 231 11 (by decide)).trans ((hF2295.1 231 11 (by decide)).trans ((hF2283.1 231 11 (by decide)).trans (hF2271.1 231 11 (by decide)))))))).trans hv4))
                    have w263172 := W26.cong hW hI2817 (((hF2818.1 231 9 (by decide)).trans ((hF2809.1 231 9 (by decide)).trans ((hF2317.1 231 9 (by decide)).trans ((hF2307.1 231 9 (by decide)).trans ((hF2295.1 231 9 (by decide)).trans ((hF2283.1 231 9 (by decide)).trans (hF2271.1 231 9 (by decide))))))))) (((hF2818.1 231 10 (by decide)).trans ((hF2809.1 231 10 (by decide)).trans ((hF2317.1 231 10 (by decide)).trans ((hF2307.1 231 10 (by decide)).trans ((hF2295.1 231 10 (by decide)).trans ((hF2283.1 231 10 (by decide)).trans (hF2271.1 231 10 (by decide))))))))) (((hF2818.1 231 11 (by decide)).trans ((hF2809.1 231 11 (by decide)).trans ((hF2317.1 231 11 (by decide)).trans ((hF2307.1 231 11 (by decide)).trans ((hF2295.1 231 11 (by decide)).trans ((hF2283.1 231 11 (by decide)).trans (hF2271.1 231 11 (by decide))))))))) (((hF2818.2.2 231 12 (by decide)).trans ((hF2809.2.2 231 12 (by decide)).trans ((hF2317.2.2 231 12 (by decide)).trans ((hF2307.2.2 231 12 (by decide)).trans ((hF2295.2.2 231 12 (by decide)).trans ((hF2283.2.2 231 12 (by decide)).trans (hF2271.2.2 231 12 (by decide)))))))))
                    have zv3173 : (1 : Int32).toInt = 1 := rfl
                    refine r_callV 213 rfl [.ref 231, .int 1] [] (Nat.le_of_ble_eq_true rfl) rfl (T_X11_must_231 _ hI2817 1 (by decide) (by refine ⟨?_, ?_, ?_, ?_⟩ <;> omega) w263172) ?_
                    rintro _ _ ⟨g3174, rfl, hI3175, hF3176, rfl, hr3178⟩
                    refine At.stn ?_
                    have hF3179 := Fr.tr hF2821 hF3176 rfl rfl
                    have zv3180 : (1 : Int32).toInt = 1 := rfl
                    have x3181 := HI.eqI hI2817 (p := 231) (b := 8) ((((hF2818.1 231 8 (by decide)).trans ((hF2809.1 231 8 (by decide)).trans ((hF2317.1 231 8 (by decide)).trans ((hF2307.1 231 8 (by decide)).trans ((hF2295.1 231 8 (by decide)).trans ((hF2283.1 231 8 (by decide)).trans (hF2271.1 231 8 (by decide)))))))).trans hv1))
                    have x3182 := HI.eqI hI2817 (p := 231) (b := 9) ((((hF2818.1 231 9 (by decide)).trans ((hF2809.1 231 9 (by decide)).trans ((hF2317.1 231 9 (by decide)).trans ((hF2307.1 231 9 (by decide)).trans ((hF2295.1 231 9 (by decide)).trans ((hF2283.1 231 9 (by decide)).trans (hF2271.1 231 9 (by decide)))))))).trans hv2))
                    have x3183 := HI.eqI hI2817 (p := 231) (b := 10) ((((hF2818.1 231 10 (by decide)).trans ((hF2809.1 231 10 (by decide)).trans ((hF2317.1 231 10 (by decide)).trans ((hF2307.1 231 10 (by decide)).trans ((hF2295.1 231 10 (by decide)).trans ((hF2283.1 231 10 (by decide)).trans (hF2271.1 231 10 (by decide)))))))).trans hv3))
                    have x3184 := HI.eqI hI2817 (p := 231) (b := 11) ((((hF2818.1 231 11 (by decide)).trans ((hF2809.1 231 11 (by decide)).trans ((hF2317.1 231 11 (by decide)).trans ((hF2307.1 231 11 (by decide)).trans ((hF2295.1 231 11 (by decide)).trans ((hF2283.1 231 11 (by decide)).trans (hF2271.1 231 11 (by decide)))))))).trans hv4))
                    have x3185 := HI.eqI hI2817 (p := 231) (b := 14) ((((hF2818.1 231 14 (by decide)).trans ((hF2809.1 231 14 (by decide)).trans ((hF2317.1 231 14 (by decide)).trans ((hF2307.1 231 14 (by decide)).trans ((hF2295.1 231 14 (by decide)).trans ((hF2283.1 231 14 (by decide)).trans (hF2271.1 231 14 (by decide)))))))).trans hv6))
                    have x3186 := HI.eqI hI3175 (p := 231) (b := 8) ((((hF3176.1 231 8 (by decide)).trans ((hF2818.1 231 8 (by decide)).trans ((hF2809.1 231 8 (by decide)).trans ((hF2317.1 231 8 (by decide)).trans ((hF2307.1 231 8 (by decide)).trans ((hF2295.1 231 8 (by decide)).trans ((hF2283.1 231 8 (by decide)).trans (hF2271.1 231 8 (by decide))))))))).trans hv1))
                    obtain ⟨v3187, hv3187⟩ : ∃ v, gI g3174 231 9 = v := ⟨_, rfl⟩
                    have rv3187 := RgF.at hI3175.2.1 (p := 231) (b := 9) rfl
                    rw [hv3187] at rv3187
                    dsimp only at rv3187
                    have tv3187 := congrArg Int32.toInt hv3187
                    have x3188 := HI.eqI hI3175 (p := 231) (b := 9) (hv3187)
                    obtain ⟨v3189, hv3189⟩ : ∃ v, gI g3174 231 10 = v := ⟨_, rfl⟩
                    have rv3189 := RgF.at hI3175.2.1 (p := 231) (b := 10) rfl
                    rw [hv3189] at rv3189
                    dsimp only at rv3189
                    have tv3189 := congrArg Int32.toInt hv3189
                    have x3190 := HI.eqI hI3175 (p := 231) (b := 10) (hv3189)
                    obtain ⟨v3191, hv3191⟩ : ∃ v, gI g3174 231 11 = v := ⟨_, rfl⟩
                    have tv3191 := congrArg Int32.toInt hv3191
                    have x3192 := HI.eqI hI3175 (p := 231) (b := 11) (hv3191)
                    obtain ⟨v3193, hv3193⟩ : ∃ v, gI g3174 231 14 = v := ⟨_, rfl⟩
                    have tv3193 := congrArg Int32.toInt hv3193
                    have x3194 := HI.eqI hI3175 (p := 231) (b := 14) (hv3193)
                    obtain ⟨c3195, c3196, c3197, c3198, c3199, c3200, c3201⟩ := hr3178
                    refine At.enter rfl ?_
                    refine r_aload_n rfl ?_
                    refine q_getI (Sh.int hI3175.1 kx_231 rfl) v3193 hv3193 ?_
                    refine r_ifs 220 rfl (fun c3202 => ?_) (fun c3202 => ?_)
                    · have c3202_ : v3193.toInt ≠ 0 := en_k_ne_t c3202
                      clear c3201
                      refine At.enter rfl ?_
                      refine r_iconst 1 rfl ?_
                      refine r_ireti ?_
                      have x3203 := HI.eqI hI3175 (p := 231) (b := 8) ((((hF3176.1 231 8 (by decide)).trans ((hF2818.1 231 8 (by decide)).trans ((hF2809.1 231 8 (by decide)).trans ((hF2317.1 231 8 (by decide)).trans ((hF2307.1 231 8 (by decide)).trans ((hF2295.1 231 8 (by decide)).trans ((hF2283.1 231 8 (by decide)).trans (hF2271.1 231 8 (by decide))))))))).trans hv1))
                      have x3204 := HI.eqI hI3175 (p := 231) (b := 9) (hv3187)
                      have x3205 := HI.eqI hI3175 (p := 231) (b := 10) (hv3189)
                      have x3206 := HI.eqI hI3175 (p := 231) (b := 11) (hv3191)
                      obtain ⟨v3207, hv3207⟩ : ∃ v, gJ g3174 231 12 = v := ⟨_, rfl⟩
                      have x3208 := HI.eqJ hI3175 (b := 12) (hv3207)
                      have x3209 := HI.eqI hI3175 (p := 231) (b := 14) (hv3193)
                      have x3210 := HI.eqI hI3175 (p := 231) (b := 17) ((((hF3176.1 231 17 (by decide)).trans ((hF2818.1 231 17 (by decide)).trans ((hF2809.1 231 17 (by decide)).trans ((hF2317.1 231 17 (by decide)).trans ((hF2307.1 231 17 (by decide)).trans ((hF2295.1 231 17 (by decide)).trans ((hF2283.1 231 17 (by decide)).trans (hF2271.1 231 17 (by decide))))))))).trans hv7))
                      have x3211 := HI.eqI hI3175 (p := 231) (b := 23) ((((hF3176.1 231 23 (by decide)).trans ((hF2818.1 231 23 (by decide)).trans ((hF2809.1 231 23 (by decide)).trans ((hF2317.1 231 23 (by decide)).trans ((hF2307.1 231 23 (by decide)).trans ((hF2295.1 231 23 (by decide)).trans ((hF2283.1 231 23 (by decide)).trans (hF2271.1 231 23 (by decide))))))))).trans hv8))
                      have x3212 := HI.eqI hI0 (p := 231) (b := 9) (hv2)
                      have zv3213 : (1 : Int32).toInt = 1 := rfl
                      exact ⟨_, rfl, hI3175, hF3179, _, rfl, by decide, ⟨by omega, by omega, by omega, by omega, c3200, by omega, by omega, (fun hbad => ⟨by omega, (PT.mk (fun h => False.elim (by omega)) (fun h => False.elim (by omega)) (fun h h9 => False.elim (by omega)) (fun h => False.elim (by omega)))⟩), (fun hbad => by omega)⟩⟩
                    · have c3202_ : v3193.toInt = 0 := en_k_ne_f c3202
                      obtain ⟨i3214, i3215, i3216⟩ := c3201 (by omega)
                      refine At.enter rfl ?_
                      refine r_aload_n rfl ?_
                      refine r_iconst 5 rfl ?_
                      have x3217 := HI.eqI hI3175 (p := 231) (b := 17) ((((hF3176.1 231 17 (by decide)).trans ((hF2818.1 231 17 (by decide)).trans ((hF2809.1 231 17 (by decide)).trans ((hF2317.1 231 17 (by decide)).trans ((hF2307.1 231 17 (by decide)).trans ((hF2295.1 231 17 (by decide)).trans ((hF2283.1 231 17 (by decide)).trans (hF2271.1 231 17 (by decide))))))))).trans hv7))
                      have x3218 := HI.eqI hI3175 (p := 231) (b := 23) ((((hF3176.1 231 23 (by decide)).trans ((hF2818.1 231 23 (by decide)).trans ((hF2809.1 231 23 (by decide)).trans ((hF2317.1 231 23 (by decide)).trans ((hF2307.1 231 23 (by decide)).trans ((hF2295.1 231 23 (by decide)).trans ((hF2283.1 231 23 (by decide)).trans (hF2271.1 231 23 (by decide))))))))).trans hv8))
                      have zv3219 : (5 : Int32).toInt = 5 := rfl
                      refine r_callV 225 rfl [.ref 231, .int 5] [] (Nat.le_of_ble_eq_true rfl) rfl (T_X11_settle_231 _ hI3175 5 (by decide) (by omega)) ?_
                      rintro _ _ ⟨g3220, rfl, hI3221, hF3222, rfl, hr3224⟩
                      refine At.stn ?_
                      have hF3225 := Fr.tr hF3179 hF3222 rfl rfl
                      have zv3226 : (5 : Int32).toInt = 5 := rfl
                      have x3227 := HI.eqI hI3175 (p := 231) (b := 17) ((((hF3176.1 231 17 (by decide)).trans ((hF2818.1 231 17 (by decide)).trans ((hF2809.1 231 17 (by decide)).trans ((hF2317.1 231 17 (by decide)).trans ((hF2307.1 231 17 (by decide)).trans ((hF2295.1 231 17 (by decide)).trans ((hF2283.1 231 17 (by decide)).trans (hF2271.1 231 17 (by decide))))))))).trans hv7))
                      have x3228 := HI.eqI hI3175 (p := 231) (b := 23) ((((hF3176.1 231 23 (by decide)).trans ((hF2818.1 231 23 (by decide)).trans ((hF2809.1 231 23 (by decide)).trans ((hF2317.1 231 23 (by decide)).trans ((hF2307.1 231 23 (by decide)).trans ((hF2295.1 231 23 (by decide)).trans ((hF2283.1 231 23 (by decide)).trans (hF2271.1 231 23 (by decide))))))))).trans hv8))
                      obtain ⟨v3229, hv3229⟩ : ∃ v, gI g3220 231 17 = v := ⟨_, rfl⟩
                      have rv3229 := RgF.at hI3221.2.1 (p := 231) (b := 17) rfl
                      rw [hv3229] at rv3229
                      dsimp only at rv3229
                      have tv3229 := congrArg Int32.toInt hv3229
                      have x3230 := HI.eqI hI3221 (p := 231) (b := 17) (hv3229)
                      obtain ⟨v3231, hv3231⟩ : ∃ v, gI g3220 231 23 = v := ⟨_, rfl⟩
                      have rv3231 := RgF.at hI3221.2.1 (p := 231) (b := 23) rfl
                      rw [hv3231] at rv3231
                      dsimp only at rv3231
                      have tv3231 := congrArg Int32.toInt hv3231
                      have x3232 := HI.eqI hI3221 (p := 231) (b := 23) (hv3231)
                      have y3233 : (gI _ 231 23).toInt ≤ (gI _ 231 23).toInt := hr3224.1
                      have y3234 : (gI _ 231 17).toInt + (gI _ 231 23).toInt ≤ (gI _ 231 17).toInt + (gI _ 231 23).toInt := hr3224.2.1
                      have inn3235 := INN.cong inn2321 hI3175 (((hF3176.2.1 240 (by decide)).trans ((hF2818.2.1 240 (by decide)).trans (hF2809.2.1 240 (by decide))))) (((hF3176.1 231 23 (by decide)).trans ((hF2818.1 231 23 (by decide)).trans (hF2809.1 231 23 (by decide)))))
                      have pg3236 := PG.cong (hP.2.1 (by decide)) hI3175 (((hF3176.2.1 238 (by decide)).trans ((hF2818.2.1 238 (by decide)).trans ((hF2809.2.1 238 (by decide)).trans ((hF2317.2.1 238 (by decide)).trans ((hF2307.2.1 238 (by decide)).trans ((hF2295.2.1 238 (by decide)).trans ((hF2283.2.1 238 (by decide)).trans (hF2271.2.1 238 (by decide)))))))))) (((hF3176.2.1 239 (by decide)).trans ((hF2818.2.1 239 (by decide)).trans ((hF2809.2.1 239 (by decide)).trans ((hF2317.2.1 239 (by decide)).trans ((hF2307.2.1 239 (by decide)).trans ((hF2295.2.1 239 (by decide)).trans ((hF2283.2.1 239 (by decide)).trans (hF2271.2.1 239 (by decide)))))))))) (((hF3176.2.1 240 (by decide)).trans ((hF2818.2.1 240 (by decide)).trans ((hF2809.2.1 240 (by decide)).trans ((hF2317.2.1 240 (by decide)).trans ((hF2307.2.1 240 (by decide)).trans ((hF2295.2.1 240 (by decide)).trans ((hF2283.2.1 240 (by decide)).trans (hF2271.2.1 240 (by decide)))))))))) (((hF3176.2.1 241 (by decide)).trans ((hF2818.2.1 241 (by decide)).trans ((hF2809.2.1 241 (by decide)).trans ((hF2317.2.1 241 (by decide)).trans ((hF2307.2.1 241 (by decide)).trans ((hF2295.2.1 241 (by decide)).trans ((hF2283.2.1 241 (by decide)).trans (hF2271.2.1 241 (by decide)))))))))) (((hF3176.1 231 17 (by decide)).trans ((hF2818.1 231 17 (by decide)).trans ((hF2809.1 231 17 (by decide)).trans ((hF2317.1 231 17 (by decide)).trans ((hF2307.1 231 17 (by decide)).trans ((hF2295.1 231 17 (by decide)).trans ((hF2283.1 231 17 (by decide)).trans (hF2271.1 231 17 (by decide)))))))))) (((hF3176.1 231 23 (by decide)).trans ((hF2818.1 231 23 (by decide)).trans ((hF2809.1 231 23 (by decide)).trans ((hF2317.1 231 23 (by decide)).trans ((hF2307.1 231 23 (by decide)).trans ((hF2295.1 231 23 (by decide)).trans ((hF2283.1 231 23 (by decide)).trans (hF2271.1 231 23 (by decide))))))))))
                      have nsq3237 := INN.nsq inn3235 pg3236 (by omega)
                      have pg3238 := PG.cong (hP.2.1 (by decide)) hI3175 (((hF3176.2.1 238 (by decide)).trans ((hF2818.2.1 238 (by decide)).trans ((hF2809.2.1 238 (by decide)).trans ((hF2317.2.1 238 (by decide)).trans ((hF2307.2.1 238 (by decide)).trans ((hF2295.2.1 238 (by decide)).trans ((hF2283.2.1 238 (by decide)).trans (hF2271.2.1 238 (by decide)))))))))) (((hF3176.2.1 239 (by decide)).trans ((hF2818.2.1 239 (by decide)).trans ((hF2809.2.1 239 (by decide)).trans ((hF2317.2.1 239 (by decide)).trans ((hF2307.2.1 239 (by decide)).trans ((hF2295.2.1 239 (by decide)).trans ((hF2283.2.1 239 (by decide)).trans (hF2271.2.1 239 (by decide)))))))))) (((hF3176.2.1 240 (by decide)).trans ((hF2818.2.1 240 (by decide)).trans ((hF2809.2.1 240 (by decide)).trans ((hF2317.2.1 240 (by decide)).trans ((hF2307.2.1 240 (by decide)).trans ((hF2295.2.1 240 (by decide)).trans ((hF2283.2.1 240 (by decide)).trans (hF2271.2.1 240 (by decide)))))))))) (((hF3176.2.1 241 (by decide)).trans ((hF2818.2.1 241 (by decide)).trans ((hF2809.2.1 241 (by decide)).trans ((hF2317.2.1 241 (by decide)).trans ((hF2307.2.1 241 (by decide)).trans ((hF2295.2.1 241 (by decide)).trans ((hF2283.2.1 241 (by decide)).trans (hF2271.2.1 241 (by decide)))))))))) (((hF3176.1 231 17 (by decide)).trans ((hF2818.1 231 17 (by decide)).trans ((hF2809.1 231 17 (by decide)).trans ((hF2317.1 231 17 (by decide)).trans ((hF2307.1 231 17 (by decide)).trans ((hF2295.1 231 17 (by decide)).trans ((hF2283.1 231 17 (by decide)).trans (hF2271.1 231 17 (by decide)))))))))) (((hF3176.1 231 23 (by decide)).trans ((hF2818.1 231 23 (by decide)).trans ((hF2809.1 231 23 (by decide)).trans ((hF2317.1 231 23 (by decide)).trans ((hF2307.1 231 23 (by decide)).trans ((hF2295.1 231 23 (by decide)).trans ((hF2283.1 231 23 (by decide)).trans (hF2271.1 231 23 (by decide))))))))))
                      have inn3240 := INN.cong inn2321 hI3175 (((hF3176.2.1 240 (by decide)).trans ((hF2818.2.1 240 (by decide)).trans (hF2809.2.1 240 (by decide))))) (((hF3176.1 231 23 (by decide)).trans ((hF2818.1 231 23 (by decide)).trans (hF2809.1 231 23 (by decide)))))
                      have pg3239 := hr3224.2.2.1 _ _ _ pg3238
                      have nsq3242 := NSQ.le nsq3237 hI3221 hr3224.2.2.2.2.1 hr3224.1
                      refine At.enter rfl ?_
                      refine r_aload_n rfl ?_
                      refine r_iload_n rfl ?_
                      refine r_iconst 0 rfl ?_
                      have x3243 := HI.eqI hI3221 (p := 231) (b := 23) (hv3231)
                      have zv3244 : (24 : Int32).toInt = 24 := rfl
                      have zv3245 : (0 : Int32).toInt = 0 := rfl
                      refine r_callV 231 rfl [.ref 231, .int 24, .int 0] [] (Nat.le_of_ble_eq_true rfl) rfl (T_X11_push_231 _ hI3221 24 (by decide) 0 (by decide) (by omega)) ?_
                      rintro _ _ ⟨g3246, rfl, hI3247, hF3248, rfl, hr3250⟩
                      refine At.stn ?_
                      have hF3251 := Fr.tr hF3225 hF3248 rfl rfl
                      have zv3252 : (24 : Int32).toInt = 24 := rfl
                      have zv3253 : (0 : Int32).toInt = 0 := rfl
                      have x3254 := HI.eqI hI3221 (p := 231) (b := 17) (hv3229)
                      have x3255 := HI.eqI hI3221 (p := 231) (b := 23) (hv3231)
                      have x3256 := HI.eqI hI3247 (p := 231) (b := 17) (((hF3248.1 231 17 (by decide)).trans hv3229))
                      obtain ⟨v3257, hv3257⟩ : ∃ v, gI g3246 231 23 = v := ⟨_, rfl⟩
                      have rv3257 := RgF.at hI3247.2.1 (p := 231) (b := 23) rfl
                      rw [hv3257] at rv3257
                      dsimp only at rv3257
                      have tv3257 := congrArg Int32.toInt hv3257
                      have x3258 := HI.eqI hI3247 (p := 231) (b := 23) (hv3257)
                      have y3259 : (gI _ 231 23).toInt = (gI _ 231 23).toInt + 1 := hr3250.1
                      have pg3260 := PG.push (e' := 0) pg3239 hr3250 (hF3248.2.1 238 (by decide)) (hF3248.2.1 239 (by decide)) (hF3248.1 231 17 (by decide)) ⟨by omega, by omega⟩ (Or.inr nsq3242) (by omega) (by omega)
                      have nsq3261 := NSQ.push nsq3242 hr3250 (by omega)
                      refine At.enter rfl ?_
                      refine r_iconst 1 rfl ?_
                      refine r_ireti ?_
                      have x3262 := HI.eqI hI3247 (p := 231) (b := 8) ((((hF3248.1 231 8 (by decide)).trans ((hF3222.1 231 8 (by decide)).trans ((hF3176.1 231 8 (by decide)).trans ((hF2818.1 231 8 (by decide)).trans ((hF2809.1 231 8 (by decide)).trans ((hF2317.1 231 8 (by decide)).trans ((hF2307.1 231 8 (by decide)).trans ((hF2295.1 231 8 (by decide)).trans ((hF2283.1 231 8 (by decide)).trans (hF2271.1 231 8 (by decide))))))))))).trans hv1))
                      have x3263 := HI.eqI hI3247 (p := 231) (b := 9) ((((hF3248.1 231 9 (by decide)).trans (hF3222.1 231 9 (by decide))).trans hv3187))
                      have x3264 := HI.eqI hI3247 (p := 231) (b := 10) ((((hF3248.1 231 10 (by decide)).trans (hF3222.1 231 10 (by decide))).trans hv3189))
                      have x3265 := HI.eqI hI3247 (p := 231) (b := 11) ((((hF3248.1 231 11 (by decide)).trans (hF3222.1 231 11 (by decide))).trans hv3191))
                      obtain ⟨v3266, hv3266⟩ : ∃ v, gJ g3174 231 12 = v := ⟨_, rfl⟩
                      have x3267 := HI.eqJ hI3247 (b := 12) ((((hF3248.2.2 231 12 (by decide)).trans (hF3222.2.2 231 12 (by decide))).trans hv3266))
                      have x3268 := HI.eqI hI3247 (p := 231) (b := 14) ((((hF3248.1 231 14 (by decide)).trans (hF3222.1 231 14 (by decide))).trans hv3193))
                      have x3269 := HI.eqI hI3247 (p := 231) (b := 17) (((hF3248.1 231 17 (by decide)).trans hv3229))
                      have x3270 := HI.eqI hI3247 (p := 231) (b := 23) (hv3257)
                      have x3271 := HI.eqI hI0 (p := 231) (b := 9) (hv2)
                      have zv3272 : (1 : Int32).toInt = 1 := rfl
                      have w263273 := W26.cong c3200 hI3247 (((hF3248.1 231 9 (by decide)).trans (hF3222.1 231 9 (by decide)))) (((hF3248.1 231 10 (by decide)).trans (hF3222.1 231 10 (by decide)))) (((hF3248.1 231 11 (by decide)).trans (hF3222.1 231 11 (by decide)))) (((hF3248.2.2 231 12 (by decide)).trans (hF3222.2.2 231 12 (by decide))))
                      exact ⟨_, rfl, hI3247, hF3251, _, rfl, by decide, ⟨by omega, by omega, by omega, by omega, w263273, by omega, by omega, (fun hbad => ⟨by omega, (PT.mk (fun _ => pg3260) (fun h => False.elim (by omega)) (fun h h9 => False.elim (by omega)) (fun h => False.elim (by omega)))⟩), (fun hbad => by omega)⟩⟩
                · have c2813_ : v2810.toInt ≠ 0 := en_k_eq_f c2813
                  refine At.enter rfl ?_
                  refine r_iconst 2 rfl ?_
                  refine r_ireti ?_
                  have x3274 := HI.eqI hI2808 (p := 231) (b := 8) ((((hF2809.1 231 8 (by decide)).trans ((hF2317.1 231 8 (by decide)).trans ((hF2307.1 231 8 (by decide)).trans ((hF2295.1 231 8 (by decide)).trans ((hF2283.1 231 8 (by decide)).trans (hF2271.1 231 8 (by decide))))))).trans hv1))
                  have x3275 := HI.eqI hI2808 (p := 231) (b := 9) ((((hF2809.1 231 9 (by decide)).trans ((hF2317.1 231 9 (by decide)).trans ((hF2307.1 231 9 (by decide)).trans ((hF2295.1 231 9 (by decide)).trans ((hF2283.1 231 9 (by decide)).trans (hF2271.1 231 9 (by decide))))))).trans hv2))
                  have x3276 := HI.eqI hI2808 (p := 231) (b := 10) ((((hF2809.1 231 10 (by decide)).trans ((hF2317.1 231 10 (by decide)).trans ((hF2307.1 231 10 (by decide)).trans ((hF2295.1 231 10 (by decide)).trans ((hF2283.1 231 10 (by decide)).trans (hF2271.1 231 10 (by decide))))))).trans hv3))
                  have x3277 := HI.eqI hI2808 (p := 231) (b := 11) ((((hF2809.1 231 11 (by decide)).trans ((hF2317.1 231 11 (by decide)).trans ((hF2307.1 231 11 (by decide)).trans ((hF2295.1 231 11 (by decide)).trans ((hF2283.1 231 11 (by decide)).trans (hF2271.1 231 11 (by decide))))))).trans hv4))
                  have x3278 := HI.eqJ hI2808 (b := 12) ((((hF2809.2.2 231 12 (by decide)).trans ((hF2317.2.2 231 12 (by decide)).trans ((hF2307.2.2 231 12 (by decide)).trans ((hF2295.2.2 231 12 (by decide)).trans ((hF2283.2.2 231 12 (by decide)).trans (hF2271.2.2 231 12 (by decide))))))).trans hv5))
                  have x3279 := HI.eqI hI2808 (p := 231) (b := 14) ((((hF2809.1 231 14 (by decide)).trans ((hF2317.1 231 14 (by decide)).trans ((hF2307.1 231 14 (by decide)).trans ((hF2295.1 231 14 (by decide)).trans ((hF2283.1 231 14 (by decide)).trans (hF2271.1 231 14 (by decide))))))).trans hv6))
                  have x3280 := HI.eqI hI2808 (p := 231) (b := 17) ((((hF2809.1 231 17 (by decide)).trans ((hF2317.1 231 17 (by decide)).trans ((hF2307.1 231 17 (by decide)).trans ((hF2295.1 231 17 (by decide)).trans ((hF2283.1 231 17 (by decide)).trans (hF2271.1 231 17 (by decide))))))).trans hv7))
                  have x3281 := HI.eqI hI2808 (p := 231) (b := 23) ((((hF2809.1 231 23 (by decide)).trans ((hF2317.1 231 23 (by decide)).trans ((hF2307.1 231 23 (by decide)).trans ((hF2295.1 231 23 (by decide)).trans ((hF2283.1 231 23 (by decide)).trans (hF2271.1 231 23 (by decide))))))).trans hv8))
                  have x3282 := HI.eqI hI0 (p := 231) (b := 9) (hv2)
                  have zv3283 : (2 : Int32).toInt = 2 := rfl
                  have pg3284 := PG.cong (hP.2.1 (by decide)) hI2808 (((hF2809.2.1 238 (by decide)).trans ((hF2317.2.1 238 (by decide)).trans ((hF2307.2.1 238 (by decide)).trans ((hF2295.2.1 238 (by decide)).trans ((hF2283.2.1 238 (by decide)).trans (hF2271.2.1 238 (by decide)))))))) (((hF2809.2.1 239 (by decide)).trans ((hF2317.2.1 239 (by decide)).trans ((hF2307.2.1 239 (by decide)).trans ((hF2295.2.1 239 (by decide)).trans ((hF2283.2.1 239 (by decide)).trans (hF2271.2.1 239 (by decide)))))))) (((hF2809.2.1 240 (by decide)).trans ((hF2317.2.1 240 (by decide)).trans ((hF2307.2.1 240 (by decide)).trans ((hF2295.2.1 240 (by decide)).trans ((hF2283.2.1 240 (by decide)).trans (hF2271.2.1 240 (by decide)))))))) (((hF2809.2.1 241 (by decide)).trans ((hF2317.2.1 241 (by decide)).trans ((hF2307.2.1 241 (by decide)).trans ((hF2295.2.1 241 (by decide)).trans ((hF2283.2.1 241 (by decide)).trans (hF2271.2.1 241 (by decide)))))))) (((hF2809.1 231 17 (by decide)).trans ((hF2317.1 231 17 (by decide)).trans ((hF2307.1 231 17 (by decide)).trans ((hF2295.1 231 17 (by decide)).trans ((hF2283.1 231 17 (by decide)).trans (hF2271.1 231 17 (by decide)))))))) (((hF2809.1 231 23 (by decide)).trans ((hF2317.1 231 23 (by decide)).trans ((hF2307.1 231 23 (by decide)).trans ((hF2295.1 231 23 (by decide)).trans ((hF2283.1 231 23 (by decide)).trans (hF2271.1 231 23 (by decide))))))))
                  have inn3285 := INN.cong inn2321 hI2808 ((hF2809.2.1 240 (by decide))) ((hF2809.1 231 23 (by decide)))
                  have pg3286 := PG.cong (hP.2.1 (by decide)) hI2808 (((hF2809.2.1 238 (by decide)).trans ((hF2317.2.1 238 (by decide)).trans ((hF2307.2.1 238 (by decide)).trans ((hF2295.2.1 238 (by decide)).trans ((hF2283.2.1 238 (by decide)).trans (hF2271.2.1 238 (by decide)))))))) (((hF2809.2.1 239 (by decide)).trans ((hF2317.2.1 239 (by decide)).trans ((hF2307.2.1 239 (by decide)).trans ((hF2295.2.1 239 (by decide)).trans ((hF2283.2.1 239 (by decide)).trans (hF2271.2.1 239 (by decide)))))))) (((hF2809.2.1 240 (by decide)).trans ((hF2317.2.1 240 (by decide)).trans ((hF2307.2.1 240 (by decide)).trans ((hF2295.2.1 240 (by decide)).trans ((hF2283.2.1 240 (by decide)).trans (hF2271.2.1 240 (by decide)))))))) (((hF2809.2.1 241 (by decide)).trans ((hF2317.2.1 241 (by decide)).trans ((hF2307.2.1 241 (by decide)).trans ((hF2295.2.1 241 (by decide)).trans ((hF2283.2.1 241 (by decide)).trans (hF2271.2.1 241 (by decide)))))))) (((hF2809.1 231 17 (by decide)).trans ((hF2317.1 231 17 (by decide)).trans ((hF2307.1 231 17 (by decide)).trans ((hF2295.1 231 17 (by decide)).trans ((hF2283.1 231 17 (by decide)).trans (hF2271.1 231 17 (by decide)))))))) (((hF2809.1 231 23 (by decide)).trans ((hF2317.1 231 23 (by decide)).trans ((hF2307.1 231 23 (by decide)).trans ((hF2295.1 231 23 (by decide)).trans ((hF2283.1 231 23 (by decide)).trans (hF2271.1 231 23 (by decide))))))))
                  have nsq3287 := INN.nsq inn3285 pg3286 (by omega)
                  have w263288 := W26.cong hW hI2808 (((hF2809.1 231 9 (by decide)).trans ((hF2317.1 231 9 (by decide)).trans ((hF2307.1 231 9 (by decide)).trans ((hF2295.1 231 9 (by decide)).trans ((hF2283.1 231 9 (by decide)).trans (hF2271.1 231 9 (by decide)))))))) (((hF2809.1 231 10 (by decide)).trans ((hF2317.1 231 10 (by decide)).trans ((hF2307.1 231 10 (by decide)).trans ((hF2295.1 231 10 (by decide)).trans ((hF2283.1 231 10 (by decide)).trans (hF2271.1 231 10 (by decide)))))))) (((hF2809.1 231 11 (by decide)).trans ((hF2317.1 231 11 (by decide)).trans ((hF2307.1 231 11 (by decide)).trans ((hF2295.1 231 11 (by decide)).trans ((hF2283.1 231 11 (by decide)).trans (hF2271.1 231 11 (by decide)))))))) (((hF2809.2.2 231 12 (by decide)).trans ((hF2317.2.2 231 12 (by decide)).trans ((hF2307.2.2 231 12 (by decide)).trans ((hF2295.2.2 231 12 (by decide)).trans ((hF2283.2.2 231 12 (by decide)).trans (hF2271.2.2 231 12 (by decide))))))))
                  exact ⟨_, rfl, hI2808, hF2812, _, rfl, by decide, ⟨by omega, by omega, by omega, by omega, w263288, by omega, by omega, (fun hbad => ⟨by omega, (PT.mk (fun h => False.elim (by omega)) (fun _ => pg3284) (fun _ _ => nsq3287) (fun h => False.elim (by omega)))⟩), (fun hbad => by omega)⟩⟩
              · have c2806_ : a1.toInt = 0 := en_k_ne_f c2806
                refine At.enter rfl ?_
                refine r_iconst 4 rfl ?_
                refine r_ireti ?_
                have x3289 := HI.eqI hI2316 (p := 231) (b := 8) ((((hF2317.1 231 8 (by decide)).trans ((hF2307.1 231 8 (by decide)).trans ((hF2295.1 231 8 (by decide)).trans ((hF2283.1 231 8 (by decide)).trans (hF2271.1 231 8 (by decide)))))).trans hv1))
                have x3290 := HI.eqI hI2316 (p := 231) (b := 9) ((((hF2317.1 231 9 (by decide)).trans ((hF2307.1 231 9 (by decide)).trans ((hF2295.1 231 9 (by decide)).trans ((hF2283.1 231 9 (by decide)).trans (hF2271.1 231 9 (by decide)))))).trans hv2))
                have x3291 := HI.eqI hI2316 (p := 231) (b := 10) ((((hF2317.1 231 10 (by decide)).trans ((hF2307.1 231 10 (by decide)).trans ((hF2295.1 231 10 (by decide)).trans ((hF2283.1 231 10 (by decide)).trans (hF2271.1 231 10 (by decide)))))).trans hv3))
                have x3292 := HI.eqI hI2316 (p := 231) (b := 11) ((((hF2317.1 231 11 (by decide)).trans ((hF2307.1 231 11 (by decide)).trans ((hF2295.1 231 11 (by decide)).trans ((hF2283.1 231 11 (by decide)).trans (hF2271.1 231 11 (by decide)))))).trans hv4))
                have x3293 := HI.eqJ hI2316 (b := 12) ((((hF2317.2.2 231 12 (by decide)).trans ((hF2307.2.2 231 12 (by decide)).trans ((hF2295.2.2 231 12 (by decide)).trans ((hF2283.2.2 231 12 (by decide)).trans (hF2271.2.2 231 12 (by decide)))))).trans hv5))
                have x3294 := HI.eqI hI2316 (p := 231) (b := 14) ((((hF2317.1 231 14 (by decide)).trans ((hF2307.1 231 14 (by decide)).trans ((hF2295.1 231 14 (by decide)).trans ((hF2283.1 231 14 (by decide)).trans (hF2271.1 231 14 (by decide)))))).trans hv6))
                have x3295 := HI.eqI hI2316 (p := 231) (b := 17) ((((hF2317.1 231 17 (by decide)).trans ((hF2307.1 231 17 (by decide)).trans ((hF2295.1 231 17 (by decide)).trans ((hF2283.1 231 17 (by decide)).trans (hF2271.1 231 17 (by decide)))))).trans hv7))
                have x3296 := HI.eqI hI2316 (p := 231) (b := 23) ((((hF2317.1 231 23 (by decide)).trans ((hF2307.1 231 23 (by decide)).trans ((hF2295.1 231 23 (by decide)).trans ((hF2283.1 231 23 (by decide)).trans (hF2271.1 231 23 (by decide)))))).trans hv8))
                have x3297 := HI.eqI hI0 (p := 231) (b := 9) (hv2)
                have zv3298 : (4 : Int32).toInt = 4 := rfl
                have pg3299 := PG.cong (hP.2.1 (by decide)) hI2316 (((hF2317.2.1 238 (by decide)).trans ((hF2307.2.1 238 (by decide)).trans ((hF2295.2.1 238 (by decide)).trans ((hF2283.2.1 238 (by decide)).trans (hF2271.2.1 238 (by decide))))))) (((hF2317.2.1 239 (by decide)).trans ((hF2307.2.1 239 (by decide)).trans ((hF2295.2.1 239 (by decide)).trans ((hF2283.2.1 239 (by decide)).trans (hF2271.2.1 239 (by decide))))))) (((hF2317.2.1 240 (by decide)).trans ((hF2307.2.1 240 (by decide)).trans ((hF2295.2.1 240 (by decide)).trans ((hF2283.2.1 240 (by decide)).trans (hF2271.2.1 240 (by decide))))))) (((hF2317.2.1 241 (by decide)).trans ((hF2307.2.1 241 (by decide)).trans ((hF2295.2.1 241 (by decide)).trans ((hF2283.2.1 241 (by decide)).trans (hF2271.2.1 241 (by decide))))))) (((hF2317.1 231 17 (by decide)).trans ((hF2307.1 231 17 (by decide)).trans ((hF2295.1 231 17 (by decide)).trans ((hF2283.1 231 17 (by decide)).trans (hF2271.1 231 17 (by decide))))))) (((hF2317.1 231 23 (by decide)).trans ((hF2307.1 231 23 (by decide)).trans ((hF2295.1 231 23 (by decide)).trans ((hF2283.1 231 23 (by decide)).trans (hF2271.1 231 23 (by decide)))))))
                have pg3300 := PG.cong (hP.2.1 (by decide)) hI2316 (((hF2317.2.1 238 (by decide)).trans ((hF2307.2.1 238 (by decide)).trans ((hF2295.2.1 238 (by decide)).trans ((hF2283.2.1 238 (by decide)).trans (hF2271.2.1 238 (by decide))))))) (((hF2317.2.1 239 (by decide)).trans ((hF2307.2.1 239 (by decide)).trans ((hF2295.2.1 239 (by decide)).trans ((hF2283.2.1 239 (by decide)).trans (hF2271.2.1 239 (by decide))))))) (((hF2317.2.1 240 (by decide)).trans ((hF2307.2.1 240 (by decide)).trans ((hF2295.2.1 240 (by decide)).trans ((hF2283.2.1 240 (by decide)).trans (hF2271.2.1 240 (by decide))))))) (((hF2317.2.1 241 (by decide)).trans ((hF2307.2.1 241 (by decide)).trans ((hF2295.2.1 241 (by decide)).trans ((hF2283.2.1 241 (by decide)).trans (hF2271.2.1 241 (by decide))))))) (((hF2317.1 231 17 (by decide)).trans ((hF2307.1 231 17 (by decide)).trans ((hF2295.1 231 17 (by decide)).trans ((hF2283.1 231 17 (by decide)).trans (hF2271.1 231 17 (by decide))))))) (((hF2317.1 231 23 (by decide)).trans ((hF2307.1 231 23 (by decide)).trans ((hF2295.1 231 23 (by decide)).trans ((hF2283.1 231 23 (by decide)).trans (hF2271.1 231 23 (by decide)))))))
                have nsq3301 := INN.nsq inn2321 pg3300 (by omega)
                have w263302 := W26.cong hW hI2316 (((hF2317.1 231 9 (by decide)).trans ((hF2307.1 231 9 (by decide)).trans ((hF2295.1 231 9 (by decide)).trans ((hF2283.1 231 9 (by decide)).trans (hF2271.1 231 9 (by decide))))))) (((hF2317.1 231 10 (by decide)).trans ((hF2307.1 231 10 (by decide)).trans ((hF2295.1 231 10 (by decide)).trans ((hF2283.1 231 10 (by decide)).trans (hF2271.1 231 10 (by decide))))))) (((hF2317.1 231 11 (by decide)).trans ((hF2307.1 231 11 (by decide)).trans ((hF2295.1 231 11 (by decide)).trans ((hF2283.1 231 11 (by decide)).trans (hF2271.1 231 11 (by decide))))))) (((hF2317.2.2 231 12 (by decide)).trans ((hF2307.2.2 231 12 (by decide)).trans ((hF2295.2.2 231 12 (by decide)).trans ((hF2283.2.2 231 12 (by decide)).trans (hF2271.2.2 231 12 (by decide)))))))
                exact ⟨_, rfl, hI2316, hF2320, _, rfl, by decide, ⟨by omega, by omega, by omega, by omega, w263302, by omega, by omega, (fun hbad => ⟨by omega, (PT.mk (fun h => False.elim (by omega)) (fun _ => pg3299) (fun _ _ => nsq3301) (fun _ => INN.nbr (INN.eq inn2321 (by omega))))⟩), (fun hbad => by omega)⟩⟩
          · have c2322_ : v2318.toInt = 31 := en_i_ne_f c2322
            refine At.enter rfl ?_
            refine r_aload_n rfl ?_
            refine r_aload_n rfl ?_
            refine r_bipush 93 rfl ?_
            have x3303 := HI.eqI hI2316 (p := 231) (b := 11) ((((hF2317.1 231 11 (by decide)).trans ((hF2307.1 231 11 (by decide)).trans ((hF2295.1 231 11 (by decide)).trans ((hF2283.1 231 11 (by decide)).trans (hF2271.1 231 11 (by decide)))))).trans hv4))
            have zv3304 : (93 : Int32).toInt = 93 := rfl
            refine r_callV 101 rfl [.ref 231, .int 93] [.ref 231] (Nat.le_of_ble_eq_true rfl) rfl (T_X11_isSign_231 _ hI2316 93 (by omega)) ?_
            rintro _ _ ⟨g3305, rfl, hI3306, hF3307, v3308, rfl, hr3309⟩
            refine At.sti ?_
            have hF3310 := Fr.tr hF2320 hF3307 rfl rfl
            have zv3311 : (93 : Int32).toInt = 93 := rfl
            have x3312 := HI.eqI hI2316 (p := 231) (b := 11) ((((hF2317.1 231 11 (by decide)).trans ((hF2307.1 231 11 (by decide)).trans ((hF2295.1 231 11 (by decide)).trans ((hF2283.1 231 11 (by decide)).trans (hF2271.1 231 11 (by decide)))))).trans hv4))
            have x3313 := HI.eqI hI3306 (p := 231) (b := 11) ((((hF3307.1 231 11 (by decide)).trans ((hF2317.1 231 11 (by decide)).trans ((hF2307.1 231 11 (by decide)).trans ((hF2295.1 231 11 (by decide)).trans ((hF2283.1 231 11 (by decide)).trans (hF2271.1 231 11 (by decide))))))).trans hv4))
            refine At.enter rfl ?_
            have x3314 := HI.eqI hI3306 (p := 231) (b := 8) ((((hF3307.1 231 8 (by decide)).trans ((hF2317.1 231 8 (by decide)).trans ((hF2307.1 231 8 (by decide)).trans ((hF2295.1 231 8 (by decide)).trans ((hF2283.1 231 8 (by decide)).trans (hF2271.1 231 8 (by decide))))))).trans hv1))
            have x3315 := HI.eqI hI3306 (p := 231) (b := 9) ((((hF3307.1 231 9 (by decide)).trans ((hF2317.1 231 9 (by decide)).trans ((hF2307.1 231 9 (by decide)).trans ((hF2295.1 231 9 (by decide)).trans ((hF2283.1 231 9 (by decide)).trans (hF2271.1 231 9 (by decide))))))).trans hv2))
            have x3316 := HI.eqI hI3306 (p := 231) (b := 10) ((((hF3307.1 231 10 (by decide)).trans ((hF2317.1 231 10 (by decide)).trans ((hF2307.1 231 10 (by decide)).trans ((hF2295.1 231 10 (by decide)).trans ((hF2283.1 231 10 (by decide)).trans (hF2271.1 231 10 (by decide))))))).trans hv3))
            have x3317 := HI.eqI hI3306 (p := 231) (b := 11) ((((hF3307.1 231 11 (by decide)).trans ((hF2317.1 231 11 (by decide)).trans ((hF2307.1 231 11 (by decide)).trans ((hF2295.1 231 11 (by decide)).trans ((hF2283.1 231 11 (by decide)).trans (hF2271.1 231 11 (by decide))))))).trans hv4))
            have w263318 := W26.cong hW hI3306 (((hF3307.1 231 9 (by decide)).trans ((hF2317.1 231 9 (by decide)).trans ((hF2307.1 231 9 (by decide)).trans ((hF2295.1 231 9 (by decide)).trans ((hF2283.1 231 9 (by decide)).trans (hF2271.1 231 9 (by decide)))))))) (((hF3307.1 231 10 (by decide)).trans ((hF2317.1 231 10 (by decide)).trans ((hF2307.1 231 10 (by decide)).trans ((hF2295.1 231 10 (by decide)).trans ((hF2283.1 231 10 (by decide)).trans (hF2271.1 231 10 (by decide)))))))) (((hF3307.1 231 11 (by decide)).trans ((hF2317.1 231 11 (by decide)).trans ((hF2307.1 231 11 (by decide)).trans ((hF2295.1 231 11 (by decide)).trans ((hF2283.1 231 11 (by decide)).trans (hF2271.1 231 11 (by decide)))))))) (((hF3307.2.2 231 12 (by decide)).trans ((hF2317.2.2 231 12 (by decide)).trans ((hF2307.2.2 231 12 (by decide)).trans ((hF2295.2.2 231 12 (by decide)).trans ((hF2283.2.2 231 12 (by decide)).trans (hF2271.2.2 231 12 (by decide))))))))
            refine r_callV 104 rfl [.ref 231, .int v3308] [] (Nat.le_of_ble_eq_true rfl) rfl (T_X11_must_231 _ hI3306 v3308 (by omega) (by refine ⟨?_, ?_, ?_, ?_⟩ <;> omega) w263318) ?_
            rintro _ _ ⟨g3319, rfl, hI3320, hF3321, rfl, hr3323⟩
            refine At.stn ?_
            have hF3324 := Fr.tr hF3310 hF3321 rfl rfl
            have x3325 := HI.eqI hI3306 (p := 231) (b := 8) ((((hF3307.1 231 8 (by decide)).trans ((hF2317.1 231 8 (by decide)).trans ((hF2307.1 231 8 (by decide)).trans ((hF2295.1 231 8 (by decide)).trans ((hF2283.1 231 8 (by decide)).trans (hF2271.1 231 8 (by decide))))))).trans hv1))
            have x3326 := HI.eqI hI3306 (p := 231) (b := 9) ((((hF3307.1 231 9 (by decide)).trans ((hF2317.1 231 9 (by decide)).trans ((hF2307.1 231 9 (by decide)).trans ((hF2295.1 231 9 (by decide)).trans ((hF2283.1 231 9 (by decide)).trans (hF2271.1 231 9 (by decide))))))).trans hv2))
            have x3327 := HI.eqI hI3306 (p := 231) (b := 10) ((((hF3307.1 231 10 (by decide)).trans ((hF2317.1 231 10 (by decide)).trans ((hF2307.1 231 10 (by decide)).trans ((hF2295.1 231 10 (by decide)).trans ((hF2283.1 231 10 (by decide)).trans (hF2271.1 231 10 (by decide))))))).trans hv3))
            have x3328 := HI.eqI hI3306 (p := 231) (b := 11) ((((hF3307.1 231 11 (by decide)).trans ((hF2317.1 231 11 (by decide)).trans ((hF2307.1 231 11 (by decide)).trans ((hF2295.1 231 11 (by decide)).trans ((hF2283.1 231 11 (by decide)).trans (hF2271.1 231 11 (by decide))))))).trans hv4))
            have x3329 := HI.eqI hI3306 (p := 231) (b := 14) ((((hF3307.1 231 14 (by decide)).trans ((hF2317.1 231 14 (by decide)).trans ((hF2307.1 231 14 (by decide)).trans ((hF2295.1 231 14 (by decide)).trans ((hF2283.1 231 14 (by decide)).trans (hF2271.1 231 14 (by decide))))))).trans hv6))
            have x3330 := HI.eqI hI3320 (p := 231) (b := 8) ((((hF3321.1 231 8 (by decide)).trans ((hF3307.1 231 8 (by decide)).trans ((hF2317.1 231 8 (by decide)).trans ((hF2307.1 231 8 (by decide)).trans ((hF2295.1 231 8 (by decide)).trans ((hF2283.1 231 8 (by decide)).trans (hF2271.1 231 8 (by decide)))))))).trans hv1))
            obtain ⟨v3331, hv3331⟩ : ∃ v, gI g3319 231 9 = v := ⟨_, rfl⟩
            have rv3331 := RgF.at hI3320.2.1 (p := 231) (b := 9) rfl
            rw [hv3331] at rv3331
            dsimp only at rv3331
            have tv3331 := congrArg Int32.toInt hv3331
            have x3332 := HI.eqI hI3320 (p := 231) (b := 9) (hv3331)
            obtain ⟨v3333, hv3333⟩ : ∃ v, gI g3319 231 10 = v := ⟨_, rfl⟩
            have rv3333 := RgF.at hI3320.2.1 (p := 231) (b := 10) rfl
            rw [hv3333] at rv3333
            dsimp only at rv3333
            have tv3333 := congrArg Int32.toInt hv3333
            have x3334 := HI.eqI hI3320 (p := 231) (b := 10) (hv3333)
            obtain ⟨v3335, hv3335⟩ : ∃ v, gI g3319 231 11 = v := ⟨_, rfl⟩
            have tv3335 := congrArg Int32.toInt hv3335
            have x3336 := HI.eqI hI3320 (p := 231) (b := 11) (hv3335)
            obtain ⟨v3337, hv3337⟩ : ∃ v, gI g3319 231 14 = v := ⟨_, rfl⟩
            have tv3337 := congrArg Int32.toInt hv3337
            have x3338 := HI.eqI hI3320 (p := 231) (b := 14) (hv3337)
            obtain ⟨c3339, c3340, c3341, c3342, c3343, c3344, c3345⟩ := hr3323
            refine At.enter rfl ?_
            refine r_aload_n rfl ?_
            refine q_getI (Sh.int hI3320.1 kx_231 rfl) v3337 hv3337 ?_
            refine r_ifs 111 rfl (fun c3346 => ?_) (fun c3346 => ?_)
            · have c3346_ : v3337.toInt ≠ 0 := en_k_ne_t c3346
              clear c3345
              refine At.enter rfl ?_
              refine r_iconst 3 rfl ?_
              refine r_ireti ?_
              have x3347 := HI.eqI hI3320 (p := 231) (b := 8) ((((hF3321.1 231 8 (by decide)).trans ((hF3307.1 231 8 (by decide)).trans ((hF2317.1 231 8 (by decide)).trans ((hF2307.1 231 8 (by decide)).trans ((hF2295.1 231 8 (by decide)).trans ((hF2283.1 231 8 (by decide)).trans (hF2271.1 231 8 (by decide)))))))).trans hv1))
              have x3348 := HI.eqI hI3320 (p := 231) (b := 9) (hv3331)
              have x3349 := HI.eqI hI3320 (p := 231) (b := 10) (hv3333)
              have x3350 := HI.eqI hI3320 (p := 231) (b := 11) (hv3335)
              obtain ⟨v3351, hv3351⟩ : ∃ v, gJ g3319 231 12 = v := ⟨_, rfl⟩
              have x3352 := HI.eqJ hI3320 (b := 12) (hv3351)
              have x3353 := HI.eqI hI3320 (p := 231) (b := 14) (hv3337)
              have x3354 := HI.eqI hI3320 (p := 231) (b := 17) ((((hF3321.1 231 17 (by decide)).trans ((hF3307.1 231 17 (by decide)).trans ((hF2317.1 231 17 (by decide)).trans ((hF2307.1 231 17 (by decide)).trans ((hF2295.1 231 17 (by decide)).trans ((hF2283.1 231 17 (by decide)).trans (hF2271.1 231 17 (by decide)))))))).trans hv7))
              have x3355 := HI.eqI hI3320 (p := 231) (b := 23) ((((hF3321.1 231 23 (by decide)).trans ((hF3307.1 231 23 (by decide)).trans ((hF2317.1 231 23 (by decide)).trans ((hF2307.1 231 23 (by decide)).trans ((hF2295.1 231 23 (by decide)).trans ((hF2283.1 231 23 (by decide)).trans (hF2271.1 231 23 (by decide)))))))).trans hv8))
              have x3356 := HI.eqI hI0 (p := 231) (b := 9) (hv2)
              have zv3357 : (3 : Int32).toInt = 3 := rfl
              have pg3358 := PG.cong (hP.2.1 (by decide)) hI3320 (((hF3321.2.1 238 (by decide)).trans ((hF3307.2.1 238 (by decide)).trans ((hF2317.2.1 238 (by decide)).trans ((hF2307.2.1 238 (by decide)).trans ((hF2295.2.1 238 (by decide)).trans ((hF2283.2.1 238 (by decide)).trans (hF2271.2.1 238 (by decide))))))))) (((hF3321.2.1 239 (by decide)).trans ((hF3307.2.1 239 (by decide)).trans ((hF2317.2.1 239 (by decide)).trans ((hF2307.2.1 239 (by decide)).trans ((hF2295.2.1 239 (by decide)).trans ((hF2283.2.1 239 (by decide)).trans (hF2271.2.1 239 (by decide))))))))) (((hF3321.2.1 240 (by decide)).trans ((hF3307.2.1 240 (by decide)).trans ((hF2317.2.1 240 (by decide)).trans ((hF2307.2.1 240 (by decide)).trans ((hF2295.2.1 240 (by decide)).trans ((hF2283.2.1 240 (by decide)).trans (hF2271.2.1 240 (by decide))))))))) (((hF3321.2.1 241 (by decide)).trans ((hF3307.2.1 241 (by decide)).trans ((hF2317.2.1 241 (by decide)).trans ((hF2307.2.1 241 (by decide)).trans ((hF2295.2.1 241 (by decide)).trans ((hF2283.2.1 241 (by decide)).trans (hF2271.2.1 241 (by decide))))))))) (((hF3321.1 231 17 (by decide)).trans ((hF3307.1 231 17 (by decide)).trans ((hF2317.1 231 17 (by decide)).trans ((hF2307.1 231 17 (by decide)).trans ((hF2295.1 231 17 (by decide)).trans ((hF2283.1 231 17 (by decide)).trans (hF2271.1 231 17 (by decide))))))))) (((hF3321.1 231 23 (by decide)).trans ((hF3307.1 231 23 (by decide)).trans ((hF2317.1 231 23 (by decide)).trans ((hF2307.1 231 23 (by decide)).trans ((hF2295.1 231 23 (by decide)).trans ((hF2283.1 231 23 (by decide)).trans (hF2271.1 231 23 (by decide)))))))))
              exact ⟨_, rfl, hI3320, hF3324, _, rfl, by decide, ⟨by omega, by omega, by omega, by omega, c3344, by omega, by omega, (fun hbad => ⟨by omega, (PT.mk (fun h => False.elim (by omega)) (fun _ => pg3358) (fun h h9 => False.elim (by omega)) (fun h => False.elim (by omega)))⟩), (fun hbad => by omega)⟩⟩
            · have c3346_ : v3337.toInt = 0 := en_k_ne_f c3346
              obtain ⟨i3359, i3360, i3361⟩ := c3345 (by omega)
              refine At.enter rfl ?_
              refine r_aload_n rfl ?_
              refine r_iconst 5 rfl ?_
              have x3362 := HI.eqI hI3320 (p := 231) (b := 17) ((((hF3321.1 231 17 (by decide)).trans ((hF3307.1 231 17 (by decide)).trans ((hF2317.1 231 17 (by decide)).trans ((hF2307.1 231 17 (by decide)).trans ((hF2295.1 231 17 (by decide)).trans ((hF2283.1 231 17 (by decide)).trans (hF2271.1 231 17 (by decide)))))))).trans hv7))
              have x3363 := HI.eqI hI3320 (p := 231) (b := 23) ((((hF3321.1 231 23 (by decide)).trans ((hF3307.1 231 23 (by decide)).trans ((hF2317.1 231 23 (by decide)).trans ((hF2307.1 231 23 (by decide)).trans ((hF2295.1 231 23 (by decide)).trans ((hF2283.1 231 23 (by decide)).trans (hF2271.1 231 23 (by decide)))))))).trans hv8))
              have zv3364 : (5 : Int32).toInt = 5 := rfl
              refine r_callV 116 rfl [.ref 231, .int 5] [] (Nat.le_of_ble_eq_true rfl) rfl (T_X11_settle_231 _ hI3320 5 (by decide) (by omega)) ?_
              rintro _ _ ⟨g3365, rfl, hI3366, hF3367, rfl, hr3369⟩
              refine At.stn ?_
              have hF3370 := Fr.tr hF3324 hF3367 rfl rfl
              have zv3371 : (5 : Int32).toInt = 5 := rfl
              have x3372 := HI.eqI hI3320 (p := 231) (b := 17) ((((hF3321.1 231 17 (by decide)).trans ((hF3307.1 231 17 (by decide)).trans ((hF2317.1 231 17 (by decide)).trans ((hF2307.1 231 17 (by decide)).trans ((hF2295.1 231 17 (by decide)).trans ((hF2283.1 231 17 (by decide)).trans (hF2271.1 231 17 (by decide)))))))).trans hv7))
              have x3373 := HI.eqI hI3320 (p := 231) (b := 23) ((((hF3321.1 231 23 (by decide)).trans ((hF3307.1 231 23 (by decide)).trans ((hF2317.1 231 23 (by decide)).trans ((hF2307.1 231 23 (by decide)).trans ((hF2295.1 231 23 (by decide)).trans ((hF2283.1 231 23 (by decide)).trans (hF2271.1 231 23 (by decide)))))))).trans hv8))
              obtain ⟨v3374, hv3374⟩ : ∃ v, gI g3365 231 17 = v := ⟨_, rfl⟩
              have rv3374 := RgF.at hI3366.2.1 (p := 231) (b := 17) rfl
              rw [hv3374] at rv3374
              dsimp only at rv3374
              have tv3374 := congrArg Int32.toInt hv3374
              have x3375 := HI.eqI hI3366 (p := 231) (b := 17) (hv3374)
              obtain ⟨v3376, hv3376⟩ : ∃ v, gI g3365 231 23 = v := ⟨_, rfl⟩
              have rv3376 := RgF.at hI3366.2.1 (p := 231) (b := 23) rfl
              rw [hv3376] at rv3376
              dsimp only at rv3376
              have tv3376 := congrArg Int32.toInt hv3376
              have x3377 := HI.eqI hI3366 (p := 231) (b := 23) (hv3376)
              have y3378 : (gI _ 231 23).toInt ≤ (gI _ 231 23).toInt := hr3369.1
              have y3379 : (gI _ 231 17).toInt + (gI _ 231 23).toInt ≤ (gI _ 231 17).toInt + (gI _ 231 23).toInt := hr3369.2.1
              have pg3380 := PG.cong (hP.2.1 (by decide)) hI3320 (((hF3321.2.1 238 (by decide)).trans ((hF3307.2.1 238 (by decide)).trans ((hF2317.2.1 238 (by decide)).trans ((hF2307.2.1 238 (by decide)).trans ((hF2295.2.1 238 (by decide)).trans ((hF2283.2.1 238 (by decide)).trans (hF2271.2.1 238 (by decide))))))))) (((hF3321.2.1 239 (by decide)).trans ((hF3307.2.1 239 (by decide)).trans ((hF2317.2.1 239 (by decide)).trans ((hF2307.2.1 239 (by decide)).trans ((hF2295.2.1 239 (by decide)).trans ((hF2283.2.1 239 (by decide)).trans (hF2271.2.1 239 (by decide))))))))) (((hF3321.2.1 240 (by decide)).trans ((hF3307.2.1 240 (by decide)).trans ((hF2317.2.1 240 (by decide)).trans ((hF2307.2.1 240 (by decide)).trans ((hF2295.2.1 240 (by decide)).trans ((hF2283.2.1 240 (by decide)).trans (hF2271.2.1 240 (by decide))))))))) (((hF3321.2.1 241 (by decide)).trans ((hF3307.2.1 241 (by decide)).trans ((hF2317.2.1 241 (by decide)).trans ((hF2307.2.1 241 (by decide)).trans ((hF2295.2.1 241 (by decide)).trans ((hF2283.2.1 241 (by decide)).trans (hF2271.2.1 241 (by decide))))))))) (((hF3321.1 231 17 (by decide)).trans ((hF3307.1 231 17 (by decide)).trans ((hF2317.1 231 17 (by decide)).trans ((hF2307.1 231 17 (by decide)).trans ((hF2295.1 231 17 (by decide)).trans ((hF2283.1 231 17 (by decide)).trans (hF2271.1 231 17 (by decide))))))))) (((hF3321.1 231 23 (by decide)).trans ((hF3307.1 231 23 (by decide)).trans ((hF2317.1 231 23 (by decide)).trans ((hF2307.1 231 23 (by decide)).trans ((hF2295.1 231 23 (by decide)).trans ((hF2283.1 231 23 (by decide)).trans (hF2271.1 231 23 (by decide)))))))))
              have inn3382 := INN.cong inn2321 hI3320 (((hF3321.2.1 240 (by decide)).trans (hF3307.2.1 240 (by decide)))) (((hF3321.1 231 23 (by decide)).trans (hF3307.1 231 23 (by decide))))
              have top3383 := SETP.close5 hr3369 (by omega) inn3382 (by omega) pg3380
              have y3384 : 1 ≤ (gI _ 231 23).toInt := top3383.1
              have pg3381 := hr3369.2.2.1 _ _ _ pg3380
              refine At.enter rfl ?_
              refine r_aload_n rfl ?_
              refine r_dup rfl ?_
              refine q_getI (Sh.int hI3366.1 kx_231 rfl) v3376 hv3376 ?_
              refine r_iconst 1 rfl ?_
              refine q_isub (v3376.toInt - 1) rfl (by omega) (fun v3385 hv3385 => ?_)
              refine q_putI (Sh.int hI3366.1 kx_231 rfl) rfl ?_
              have hI3386 := HI.wI1 hI3366 kx_231 rfl (p := 231) (b := 23) (v := v3385) rfl (by dsimp only; omega)
              have hF3387 := Fr.wI (p := 231) (b := 23) (v := v3385) hF3370 rfl
              refine r_aload_n rfl ?_
              refine r_dup rfl ?_
              obtain ⟨v3388, hv3388⟩ : ∃ v, gI g0 231 24 = v := ⟨_, rfl⟩
              refine q_getI (Sh.int hI3386.1 kx_231 rfl) v3388 (((gI_sI_ne (by decide)).trans ((hF3367.1 231 24 (by decide)).trans ((hF3321.1 231 24 (by decide)).trans ((hF3307.1 231 24 (by decide)).trans ((hF2317.1 231 24 (by decide)).trans ((hF2307.1 231 24 (by decide)).trans ((hF2295.1 231 24 (by decide)).trans ((hF2283.1 231 24 (by decide)).trans (hF2271.1 231 24 (by decide)))))))))).trans hv3388) ?_
              refine r_iconst 1 rfl ?_
              refine q_isubO (fun v3389 _ => ?_)
              refine q_putI (Sh.int hI3386.1 kx_231 rfl) rfl ?_
              have hI3390 := HI.wI0 hI3386 kx_231 rfl (p := 231) (b := 24) (v := v3389) rfl
              have hF3391 := Fr.wI (p := 231) (b := 24) (v := v3389) hF3387 rfl
              refine Ar.fall 136 rfl ?_
              refine At.enter rfl ?_
              refine r_iconst 3 rfl ?_
              refine r_ireti ?_
              have x3392 := HI.eqI hI3390 (p := 231) (b := 8) ((((gI_sI_ne (by decide)).trans ((gI_sI_ne (by decide)).trans ((hF3367.1 231 8 (by decide)).trans ((hF3321.1 231 8 (by decide)).trans ((hF3307.1 231 8 (by decide)).trans ((hF2317.1 231 8 (by decide)).trans ((hF2307.1 231 8 (by decide)).trans ((hF2295.1 231 8 (by decide)).trans ((hF2283.1 231 8 (by decide)).trans (hF2271.1 231 8 (by decide))))))))))).trans hv1))
              have x3393 := HI.eqI hI3390 (p := 231) (b := 9) ((((gI_sI_ne (by decide)).trans ((gI_sI_ne (by decide)).trans (hF3367.1 231 9 (by decide)))).trans hv3331))
              have x3394 := HI.eqI hI3390 (p := 231) (b := 10) ((((gI_sI_ne (by decide)).trans ((gI_sI_ne (by decide)).trans (hF3367.1 231 10 (by decide)))).trans hv3333))
              have x3395 := HI.eqI hI3390 (p := 231) (b := 11) ((((gI_sI_ne (by decide)).trans ((gI_sI_ne (by decide)).trans (hF3367.1 231 11 (by decide)))).trans hv3335))
              obtain ⟨v3396, hv3396⟩ : ∃ v, gJ g3319 231 12 = v := ⟨_, rfl⟩
              have x3397 := HI.eqJ hI3390 (b := 12) ((((gJ_sI_ne (by decide)).trans ((gJ_sI_ne (by decide)).trans (hF3367.2.2 231 12 (by decide)))).trans hv3396))
              have x3398 := HI.eqI hI3390 (p := 231) (b := 14) ((((gI_sI_ne (by decide)).trans ((gI_sI_ne (by decide)).trans (hF3367.1 231 14 (by decide)))).trans hv3337))
              have x3399 := HI.eqI hI3390 (p := 231) (b := 17) ((((gI_sI_ne (by decide)).trans (gI_sI_ne (by decide))).trans hv3374))
              have x3400 := HI.eqI hI3390 (p := 231) (b := 23) (((gI_sI_ne (by decide)).trans (gI_sI_eq hI3366.1 kx_231 rfl _)))
              have x3401 := HI.eqI hI0 (p := 231) (b := 9) (hv2)
              have zv3402 : (3 : Int32).toInt = 3 := rfl
              have x3404 := HI.eqI hI3390 (p := 231) (b := 23) (((gI_sI_ne (by decide)).trans (gI_sI_eq hI3366.1 kx_231 rfl _)))
              have pg3403 := PG.popB pg3381 hI3390 (((gA_sI).trans (gA_sI))) (((gA_sI).trans (gA_sI))) (((gA_sI).trans (gA_sI))) (((gA_sI).trans (gA_sI))) (((gI_sI_ne (by decide)).trans (gI_sI_ne (by decide)))) (by show (gI _ 231 23).toInt = (gI _ 231 23).toInt - 1; omega) top3383.1 top3383.2
              have w263405 := W26.cong c3344 hI3390 (((gI_sI_ne (by decide)).trans ((gI_sI_ne (by decide)).trans (hF3367.1 231 9 (by decide))))) (((gI_sI_ne (by decide)).trans ((gI_sI_ne (by decide)).trans (hF3367.1 231 10 (by decide))))) (((gI_sI_ne (by decide)).trans ((gI_sI_ne (by decide)).trans (hF3367.1 231 11 (by decide))))) (((gJ_sI_ne (by decide)).trans ((gJ_sI_ne (by decide)).trans (hF3367.2.2 231 12 (by decide)))))
              exact ⟨_, rfl, hI3390, hF3391, _, rfl, by decide, ⟨by omega, by omega, by omega, by omega, w263405, by omega, by omega, (fun hbad => ⟨by omega, (PT.mk (fun h => False.elim (by omega)) (fun _ => pg3403) (fun h h9 => False.elim (by omega)) (fun h => False.elim (by omega)))⟩), (fun hbad => by omega)⟩⟩
        · have c2314_ : v2308.toInt ≠ 0 := en_k_eq_f c2314
          refine At.enter rfl ?_
          refine r_bipush 23 rfl ?_
          refine r_goto ?_
          refine At.enter rfl ?_
          refine r_istore_n ([(2, .int 23), (0, .ref 231), (1, .int a1)]) rfl ?_
          refine r_iload_n rfl ?_
          refine r_iconst (-1) rfl ?_
          refine r_icf 63 rfl (by decide) ?_
          refine At.enter rfl ?_
          refine r_aload_n rfl ?_
          refine r_iload_n rfl ?_
          refine q_inlS 68 rfl [.int 23] [.ref 231] (Nat.le_of_ble_eq_true rfl) rfl ?_
          refine Ev.mk rfl rfl ⟨Nat.le_of_ble_eq_true rfl, Or.inl rfl⟩ ?_
          show At _ none _ _ (0, [(0, .int 23)], [], (_, _)) _
          refine At.enter rfl ?_
          refine r_iload_n rfl ?_
          refine r_bipush 30 rfl ?_
          refine r_ict (by decide) ?_
          refine At.enter rfl ?_
          refine r_iload_n rfl ?_
          refine r_bipush 29 rfl ?_
          refine r_ict (by decide) ?_
          refine At.enter rfl ?_
          refine r_iload_n rfl ?_
          refine r_bipush 28 rfl ?_
          refine r_ict (by decide) ?_
          refine At.enter rfl ?_
          refine r_iload_n rfl ?_
          refine r_bipush 27 rfl ?_
          refine r_ict (by decide) ?_
          refine At.enter rfl ?_
          refine r_iload_n rfl ?_
          refine r_bipush 24 rfl ?_
          refine r_ict (by decide) ?_
          refine At.enter rfl ?_
          refine r_iload_n rfl ?_
          refine r_bipush 22 rfl ?_
          refine r_icf 56 rfl (by decide) ?_
          refine At.enter rfl ?_
          refine r_bipush 6 rfl ?_
          refine r_goto ?_
          refine At.enter rfl ?_
          refine q_ireti ?_
          refine At.enter rfl ?_
          have x3406 := HI.eqI hI2306 (p := 231) (b := 17) ((((hF2307.1 231 17 (by decide)).trans ((hF2295.1 231 17 (by decide)).trans ((hF2283.1 231 17 (by decide)).trans (hF2271.1 231 17 (by decide))))).trans hv7))
          have x3407 := HI.eqI hI2306 (p := 231) (b := 23) ((((hF2307.1 231 23 (by decide)).trans ((hF2295.1 231 23 (by decide)).trans ((hF2283.1 231 23 (by decide)).trans (hF2271.1 231 23 (by decide))))).trans hv8))
          have zv3408 : (6 : Int32).toInt = 6 := rfl
          refine r_callV 71 rfl [.ref 231, .int 6] [] (Nat.le_of_ble_eq_true rfl) rfl (T_X11_settle_231 _ hI2306 6 (by decide) (by omega)) ?_
          rintro _ _ ⟨g3409, rfl, hI3410, hF3411, rfl, hr3413⟩
          refine At.stn ?_
          have hF3414 := Fr.tr hF2310 hF3411 rfl rfl
          have zv3415 : (6 : Int32).toInt = 6 := rfl
          have x3416 := HI.eqI hI2306 (p := 231) (b := 17) ((((hF2307.1 231 17 (by decide)).trans ((hF2295.1 231 17 (by decide)).trans ((hF2283.1 231 17 (by decide)).trans (hF2271.1 231 17 (by decide))))).trans hv7))
          have x3417 := HI.eqI hI2306 (p := 231) (b := 23) ((((hF2307.1 231 23 (by decide)).trans ((hF2295.1 231 23 (by decide)).trans ((hF2283.1 231 23 (by decide)).trans (hF2271.1 231 23 (by decide))))).trans hv8))
          obtain ⟨v3418, hv3418⟩ : ∃ v, gI g3409 231 17 = v := ⟨_, rfl⟩
          have rv3418 := RgF.at hI3410.2.1 (p := 231) (b := 17) rfl
          rw [hv3418] at rv3418
          dsimp only at rv3418
          have tv3418 := congrArg Int32.toInt hv3418
          have x3419 := HI.eqI hI3410 (p := 231) (b := 17) (hv3418)
          obtain ⟨v3420, hv3420⟩ : ∃ v, gI g3409 231 23 = v := ⟨_, rfl⟩
          have rv3420 := RgF.at hI3410.2.1 (p := 231) (b := 23) rfl
          rw [hv3420] at rv3420
          dsimp only at rv3420
          have tv3420 := congrArg Int32.toInt hv3420
          have x3421 := HI.eqI hI3410 (p := 231) (b := 23) (hv3420)
          have y3422 : (gI _ 231 23).toInt ≤ (gI _ 231 23).toInt := hr3413.1
          have y3423 : (gI _ 231 17).toInt + (gI _ 231 23).toInt ≤ (gI _ 231 17).toInt + (gI _ 231 23).toInt := hr3413.2.1
          have pg3424 := PG.cong (hP.2.1 (by decide)) hI2306 (((hF2307.2.1 238 (by decide)).trans ((hF2295.2.1 238 (by decide)).trans ((hF2283.2.1 238 (by decide)).trans (hF2271.2.1 238 (by decide)))))) (((hF2307.2.1 239 (by decide)).trans ((hF2295.2.1 239 (by decide)).trans ((hF2283.2.1 239 (by decide)).trans (hF2271.2.1 239 (by decide)))))) (((hF2307.2.1 240 (by decide)).trans ((hF2295.2.1 240 (by decide)).trans ((hF2283.2.1 240 (by decide)).trans (hF2271.2.1 240 (by decide)))))) (((hF2307.2.1 241 (by decide)).trans ((hF2295.2.1 241 (by decide)).trans ((hF2283.2.1 241 (by decide)).trans (hF2271.2.1 241 (by decide)))))) (((hF2307.1 231 17 (by decide)).trans ((hF2295.1 231 17 (by decide)).trans ((hF2283.1 231 17 (by decide)).trans (hF2271.1 231 17 (by decide)))))) (((hF2307.1 231 23 (by decide)).trans ((hF2295.1 231 23 (by decide)).trans ((hF2283.1 231 23 (by decide)).trans (hF2271.1 231 23 (by decide))))))
          have pg3425 := hr3413.2.2.1 _ _ _ pg3424
          refine At.enter rfl ?_
          refine r_aload_n rfl ?_
          refine r_iload_n rfl ?_
          refine r_iconst 0 rfl ?_
          have x3426 := HI.eqI hI3410 (p := 231) (b := 23) (hv3420)
          have zv3427 : (23 : Int32).toInt = 23 := rfl
          have zv3428 : (0 : Int32).toInt = 0 := rfl
          refine r_callV 77 rfl [.ref 231, .int 23, .int 0] [] (Nat.le_of_ble_eq_true rfl) rfl (T_X11_push_231 _ hI3410 23 (by decide) 0 (by decide) (by omega)) ?_
          rintro _ _ ⟨g3429, rfl, hI3430, hF3431, rfl, hr3433⟩
          refine At.stn ?_
          have hF3434 := Fr.tr hF3414 hF3431 rfl rfl
          have zv3435 : (23 : Int32).toInt = 23 := rfl
          have zv3436 : (0 : Int32).toInt = 0 := rfl
          have x3437 := HI.eqI hI3410 (p := 231) (b := 17) (hv3418)
          have x3438 := HI.eqI hI3410 (p := 231) (b := 23) (hv3420)
          have x3439 := HI.eqI hI3430 (p := 231) (b := 17) (((hF3431.1 231 17 (by decide)).trans hv3418))
          obtain ⟨v3440, hv3440⟩ : ∃ v, gI g3429 231 23 = v := ⟨_, rfl⟩
          have rv3440 := RgF.at hI3430.2.1 (p := 231) (b := 23) rfl
          rw [hv3440] at rv3440
          dsimp only at rv3440
          have tv3440 := congrArg Int32.toInt hv3440
          have x3441 := HI.eqI hI3430 (p := 231) (b := 23) (hv3440)
          have y3442 : (gI _ 231 23).toInt = (gI _ 231 23).toInt + 1 := hr3433.1
          have pg3443 := PG.push (e' := 0) pg3425 hr3433 (hF3431.2.1 238 (by decide)) (hF3431.2.1 239 (by decide)) (hF3431.1 231 17 (by decide)) ⟨by omega, by omega⟩ (Or.inl (by omega)) (by omega) (by omega)
          refine At.enter rfl ?_
          refine r_aload_n rfl ?_
          have x3444 := HI.eqI hI3430 (p := 231) (b := 8) ((((hF3431.1 231 8 (by decide)).trans ((hF3411.1 231 8 (by decide)).trans ((hF2307.1 231 8 (by decide)).trans ((hF2295.1 231 8 (by decide)).trans ((hF2283.1 231 8 (by decide)).trans (hF2271.1 231 8 (by decide))))))).trans hv1))
          have x3445 := HI.eqI hI3430 (p := 231) (b := 10) ((((hF3431.1 231 10 (by decide)).trans ((hF3411.1 231 10 (by decide)).trans ((hF2307.1 231 10 (by decide)).trans ((hF2295.1 231 10 (by decide)).trans ((hF2283.1 231 10 (by decide)).trans (hF2271.1 231 10 (by decide))))))).trans hv3))
          refine r_callV 81 rfl [.ref 231] [] (Nat.le_of_ble_eq_true rfl) rfl (T_X11_next_231 _ hI3430 (by omega)) ?_
          rintro _ _ ⟨g3446, rfl, hI3447, hF3448, rfl, hr3450⟩
          refine At.stn ?_
          have hF3451 := Fr.tr hF3434 hF3448 rfl rfl
          have x3452 := HI.eqI hI3430 (p := 231) (b := 8) ((((hF3431.1 231 8 (by decide)).trans ((hF3411.1 231 8 (by decide)).trans ((hF2307.1 231 8 (by decide)).trans ((hF2295.1 231 8 (by decide)).trans ((hF2283.1 231 8 (by decide)).trans (hF2271.1 231 8 (by decide))))))).trans hv1))
          have x3453 := HI.eqI hI3430 (p := 231) (b := 10) ((((hF3431.1 231 10 (by decide)).trans ((hF3411.1 231 10 (by decide)).trans ((hF2307.1 231 10 (by decide)).trans ((hF2295.1 231 10 (by decide)).trans ((hF2283.1 231 10 (by decide)).trans (hF2271.1 231 10 (by decide))))))).trans hv3))
          have x3454 := HI.eqI hI3447 (p := 231) (b := 8) ((((hF3448.1 231 8 (by decide)).trans ((hF3431.1 231 8 (by decide)).trans ((hF3411.1 231 8 (by decide)).trans ((hF2307.1 231 8 (by decide)).trans ((hF2295.1 231 8 (by decide)).trans ((hF2283.1 231 8 (by decide)).trans (hF2271.1 231 8 (by decide)))))))).trans hv1))
          obtain ⟨v3455, hv3455⟩ : ∃ v, gI g3446 231 9 = v := ⟨_, rfl⟩
          have rv3455 := RgF.at hI3447.2.1 (p := 231) (b := 9) rfl
          rw [hv3455] at rv3455
          dsimp only at rv3455
          have tv3455 := congrArg Int32.toInt hv3455
          have x3456 := HI.eqI hI3447 (p := 231) (b := 9) (hv3455)
          obtain ⟨v3457, hv3457⟩ : ∃ v, gI g3446 231 10 = v := ⟨_, rfl⟩
          have rv3457 := RgF.at hI3447.2.1 (p := 231) (b := 10) rfl
          rw [hv3457] at rv3457
          dsimp only at rv3457
          have tv3457 := congrArg Int32.toInt hv3457
          have x3458 := HI.eqI hI3447 (p := 231) (b := 10) (hv3457)
          obtain ⟨v3459, hv3459⟩ : ∃ v, gI g3446 231 11 = v := ⟨_, rfl⟩
          have tv3459 := congrArg Int32.toInt hv3459
          have x3460 := HI.eqI hI3447 (p := 231) (b := 11) (hv3459)
          obtain ⟨c3461, c3462, c3463, c3464, c3465, c3466⟩ := hr3450
          refine At.enter rfl ?_
          refine r_iconst 1 rfl ?_
          refine r_ireti ?_
          have x3467 := HI.eqI hI3447 (p := 231) (b := 8) ((((hF3448.1 231 8 (by decide)).trans ((hF3431.1 231 8 (by decide)).trans ((hF3411.1 231 8 (by decide)).trans ((hF2307.1 231 8 (by decide)).trans ((hF2295.1 231 8 (by decide)).trans ((hF2283.1 231 8 (by decide)).trans (hF2271.1 231 8 (by decide)))))))).trans hv1))
          have x3468 := HI.eqI hI3447 (p := 231) (b := 9) (hv3455)
          have x3469 := HI.eqI hI3447 (p := 231) (b := 10) (hv3457)
          have x3470 := HI.eqI hI3447 (p := 231) (b := 11) (hv3459)
          obtain ⟨v3471, hv3471⟩ : ∃ v, gJ g3446 231 12 = v := ⟨_, rfl⟩
          have x3472 := HI.eqJ hI3447 (b := 12) (hv3471)
          have x3473 := HI.eqI hI3447 (p := 231) (b := 14) ((((hF3448.1 231 14 (by decide)).trans ((hF3431.1 231 14 (by decide)).trans ((hF3411.1 231 14 (by decide)).trans ((hF2307.1 231 14 (by decide)).trans ((hF2295.1 231 14 (by decide)).trans ((hF2283.1 231 14 (by decide)).trans (hF2271.1 231 14 (by decide)))))))).trans hv6))
          have x3474 := HI.eqI hI3447 (p := 231) (b := 17) ((((hF3448.1 231 17 (by decide)).trans (hF3431.1 231 17 (by decide))).trans hv3418))
          have x3475 := HI.eqI hI3447 (p := 231) (b := 23) (((hF3448.1 231 23 (by decide)).trans hv3440))
          have x3476 := HI.eqI hI0 (p := 231) (b := 9) (hv2)
          have zv3477 : (1 : Int32).toInt = 1 := rfl
          have pg3478 := PG.cong pg3443 hI3447 ((hF3448.2.1 238 (by decide))) ((hF3448.2.1 239 (by decide))) ((hF3448.2.1 240 (by decide))) ((hF3448.2.1 241 (by decide))) ((hF3448.1 231 17 (by decide))) ((hF3448.1 231 23 (by decide)))
          exact ⟨_, rfl, hI3447, hF3451, _, rfl, by decide, ⟨by omega, by omega, by omega, by omega, c3466, by omega, by omega, (fun hbad => ⟨by omega, (PT.mk (fun _ => pg3478) (fun h => False.elim (by omega)) (fun h h9 => False.elim (by omega)) (fun h => False.elim (by omega)))⟩), (fun hbad => by omega)⟩⟩
      · have c2302_ : v2296.toInt ≠ 0 := en_k_eq_f c2302
        refine At.enter rfl ?_
        refine r_bipush 22 rfl ?_
        refine r_goto ?_
        refine At.enter rfl ?_
        refine r_istore_n ([(2, .int 22), (0, .ref 231), (1, .int a1)]) rfl ?_
        refine r_iload_n rfl ?_
        refine r_iconst (-1) rfl ?_
        refine r_icf 63 rfl (by decide) ?_
        refine At.enter rfl ?_
        refine r_aload_n rfl ?_
        refine r_iload_n rfl ?_
        refine q_inlS 68 rfl [.int 22] [.ref 231] (Nat.le_of_ble_eq_true rfl) rfl ?_
        refine Ev.mk rfl rfl ⟨Nat.le_of_ble_eq_true rfl, Or.inl rfl⟩ ?_
        show At _ none _ _ (0, [(0, .int 22)], [], (_, _)) _
        refine At.enter rfl ?_
        refine r_iload_n rfl ?_
        refine r_bipush 30 rfl ?_
        refine r_ict (by decide) ?_
        refine At.enter rfl ?_
        refine r_iload_n rfl ?_
        refine r_bipush 29 rfl ?_
        refine r_ict (by decide) ?_
        refine At.enter rfl ?_
        refine r_iload_n rfl ?_
        refine r_bipush 28 rfl ?_
        refine r_ict (by decide) ?_
        refine At.enter rfl ?_
        refine r_iload_n rfl ?_
        refine r_bipush 27 rfl ?_
        refine r_ict (by decide) ?_
        refine At.enter rfl ?_
        refine r_iload_n rfl ?_
        refine r_bipush 24 rfl ?_
        refine r_ict (by decide) ?_
        refine At.enter rfl ?_
        refine r_iload_n rfl ?_
        refine r_bipush 22 rfl ?_
        refine r_icf 56 rfl (by decide) ?_
        refine At.enter rfl ?_
        refine r_bipush 6 rfl ?_
        refine r_goto ?_
        refine At.enter rfl ?_
        refine q_ireti ?_
        refine At.enter rfl ?_
        have x3479 := HI.eqI hI2294 (p := 231) (b := 17) ((((hF2295.1 231 17 (by decide)).trans ((hF2283.1 231 17 (by decide)).trans (hF2271.1 231 17 (by decide)))).trans hv7))
        have x3480 := HI.eqI hI2294 (p := 231) (b := 23) ((((hF2295.1 231 23 (by decide)).trans ((hF2283.1 231 23 (by decide)).trans (hF2271.1 231 23 (by decide)))).trans hv8))
        have zv3481 : (6 : Int32).toInt = 6 := rfl
        refine r_callV 71 rfl [.ref 231, .int 6] [] (Nat.le_of_ble_eq_true rfl) rfl (T_X11_settle_231 _ hI2294 6 (by decide) (by omega)) ?_
        rintro _ _ ⟨g3482, rfl, hI3483, hF3484, rfl, hr3486⟩
        refine At.stn ?_
        have hF3487 := Fr.tr hF2298 hF3484 rfl rfl
        have zv3488 : (6 : Int32).toInt = 6 := rfl
        have x3489 := HI.eqI hI2294 (p := 231) (b := 17) ((((hF2295.1 231 17 (by decide)).trans ((hF2283.1 231 17 (by decide)).trans (hF2271.1 231 17 (by decide)))).trans hv7))
        have x3490 := HI.eqI hI2294 (p := 231) (b := 23) ((((hF2295.1 231 23 (by decide)).trans ((hF2283.1 231 23 (by decide)).trans (hF2271.1 231 23 (by decide)))).trans hv8))
        obtain ⟨v3491, hv3491⟩ : ∃ v, gI g3482 231 17 = v := ⟨_, rfl⟩
        have rv3491 := RgF.at hI3483.2.1 (p := 231) (b := 17) rfl
        rw [hv3491] at rv3491
        dsimp only at rv3491
        have tv3491 := congrArg Int32.toInt hv3491
        have x3492 := HI.eqI hI3483 (p := 231) (b := 17) (hv3491)
        obtain ⟨v3493, hv3493⟩ : ∃ v, gI g3482 231 23 = v := ⟨_, rfl⟩
        have rv3493 := RgF.at hI3483.2.1 (p := 231) (b := 23) rfl
        rw [hv3493] at rv3493
        dsimp only at rv3493
        have tv3493 := congrArg Int32.toInt hv3493
        have x3494 := HI.eqI hI3483 (p := 231) (b := 23) (hv3493)
        have y3495 : (gI _ 231 23).toInt ≤ (gI _ 231 23).toInt := hr3486.1
        have y3496 : (gI _ 231 17).toInt + (gI _ 231 23).toInt ≤ (gI _ 231 17).toInt + (gI _ 231 23).toInt := hr3486.2.1
        have pg3497 := PG.cong (hP.2.1 (by decide)) hI2294 (((hF2295.2.1 238 (by decide)).trans ((hF2283.2.1 238 (by decide)).trans (hF2271.2.1 238 (by decide))))) (((hF2295.2.1 239 (by decide)).trans ((hF2283.2.1 239 (by decide)).trans (hF2271.2.1 239 (by decide))))) (((hF2295.2.1 240 (by decide)).trans ((hF2283.2.1 240 (by decide)).trans (hF2271.2.1 240 (by decide))))) (((hF2295.2.1 241 (by decide)).trans ((hF2283.2.1 241 (by decide)).trans (hF2271.2.1 241 (by decide))))) (((hF2295.1 231 17 (by decide)).trans ((hF2283.1 231 17 (by decide)).trans (hF2271.1 231 17 (by decide))))) (((hF2295.1 231 23 (by decide)).trans ((hF2283.1 231 23 (by decide)).trans (hF2271.1 231 23 (by decide)))))
        have pg3498 := hr3486.2.2.1 _ _ _ pg3497
        refine At.enter rfl ?_
        refine r_aload_n rfl ?_
        refine r_iload_n rfl ?_
        refine r_iconst 0 rfl ?_
        have x3499 := HI.eqI hI3483 (p := 231) (b := 23) (hv3493)
        have zv3500 : (22 : Int32).toInt = 22 := rfl
        have zv3501 : (0 : Int32).toInt = 0 := rfl
        refine r_callV 77 rfl [.ref 231, .int 22, .int 0] [] (Nat.le_of_ble_eq_true rfl) rfl (T_X11_push_231 _ hI3483 22 (by decide) 0 (by decide) (by omega)) ?_
        rintro _ _ ⟨g3502, rfl, hI3503, hF3504, rfl, hr3506⟩
        refine At.stn ?_
        have hF3507 := Fr.tr hF3487 hF3504 rfl rfl
        have zv3508 : (22 : Int32).toInt = 22 := rfl
        have zv3509 : (0 : Int32).toInt = 0 := rfl
        have x3510 := HI.eqI hI3483 (p := 231) (b := 17) (hv3491)
        have x3511 := HI.eqI hI3483 (p := 231) (b := 23) (hv3493)
        have x3512 := HI.eqI hI3503 (p := 231) (b := 17) (((hF3504.1 231 17 (by decide)).trans hv3491))
        obtain ⟨v3513, hv3513⟩ : ∃ v, gI g3502 231 23 = v := ⟨_, rfl⟩
        have rv3513 := RgF.at hI3503.2.1 (p := 231) (b := 23) rfl
        rw [hv3513] at rv3513
        dsimp only at rv3513
        have tv3513 := congrArg Int32.toInt hv3513
        have x3514 := HI.eqI hI3503 (p := 231) (b := 23) (hv3513)
        have y3515 : (gI _ 231 23).toInt = (gI _ 231 23).toInt + 1 := hr3506.1
        have pg3516 := PG.push (e' := 0) pg3498 hr3506 (hF3504.2.1 238 (by decide)) (hF3504.2.1 239 (by decide)) (hF3504.1 231 17 (by decide)) ⟨by omega, by omega⟩ (Or.inl (by omega)) (by omega) (by omega)
        refine At.enter rfl ?_
        refine r_aload_n rfl ?_
        have x3517 := HI.eqI hI3503 (p := 231) (b := 8) ((((hF3504.1 231 8 (by decide)).trans ((hF3484.1 231 8 (by decide)).trans ((hF2295.1 231 8 (by decide)).trans ((hF2283.1 231 8 (by decide)).trans (hF2271.1 231 8 (by decide)))))).trans hv1))
        have x3518 := HI.eqI hI3503 (p := 231) (b := 10) ((((hF3504.1 231 10 (by decide)).trans ((hF3484.1 231 10 (by decide)).trans ((hF2295.1 231 10 (by decide)).trans ((hF2283.1 231 10 (by decide)).trans (hF2271.1 231 10 (by decide)))))).trans hv3))
        refine r_callV 81 rfl [.ref 231] [] (Nat.le_of_ble_eq_true rfl) rfl (T_X11_next_231 _ hI3503 (by omega)) ?_
        rintro _ _ ⟨g3519, rfl, hI3520, hF3521, rfl, hr3523⟩
        refine At.stn ?_
        have hF3524 := Fr.tr hF3507 hF3521 rfl rfl
        have x3525 := HI.eqI hI3503 (p := 231) (b := 8) ((((hF3504.1 231 8 (by decide)).trans ((hF3484.1 231 8 (by decide)).trans ((hF2295.1 231 8 (by decide)).trans ((hF2283.1 231 8 (by decide)).trans (hF2271.1 231 8 (by decide)))))).trans hv1))
        have x3526 := HI.eqI hI3503 (p := 231) (b := 10) ((((hF3504.1 231 10 (by decide)).trans ((hF3484.1 231 10 (by decide)).trans ((hF2295.1 231 10 (by decide)).trans ((hF2283.1 231 10 (by decide)).trans (hF2271.1 231 10 (by decide)))))).trans hv3))
        have x3527 := HI.eqI hI3520 (p := 231) (b := 8) ((((hF3521.1 231 8 (by decide)).trans ((hF3504.1 231 8 (by decide)).trans ((hF3484.1 231 8 (by decide)).trans ((hF2295.1 231 8 (by decide)).trans ((hF2283.1 231 8 (by decide)).trans (hF2271.1 231 8 (by decide))))))).trans hv1))
        obtain ⟨v3528, hv3528⟩ : ∃ v, gI g3519 231 9 = v := ⟨_, rfl⟩
        have rv3528 := RgF.at hI3520.2.1 (p := 231) (b := 9) rfl
        rw [hv3528] at rv3528
        dsimp only at rv3528
        have tv3528 := congrArg Int32.toInt hv3528
        have x3529 := HI.eqI hI3520 (p := 231) (b := 9) (hv3528)
        obtain ⟨v3530, hv3530⟩ : ∃ v, gI g3519 231 10 = v := ⟨_, rfl⟩
        have rv3530 := RgF.at hI3520.2.1 (p := 231) (b := 10) rfl
        rw [hv3530] at rv3530
        dsimp only at rv3530
        have tv3530 := congrArg Int32.toInt hv3530
        have x3531 := HI.eqI hI3520 (p := 231) (b := 10) (hv3530)
        obtain ⟨v3532, hv3532⟩ : ∃ v, gI g3519 231 11 = v := ⟨_, rfl⟩
        have tv3532 := congrArg Int32.toInt hv3532
        have x3533 := HI.eqI hI3520 (p := 231) (b := 11) (hv3532)
        obtain ⟨c3534, c3535, c3536, c3537, c3538, c3539⟩ := hr3523
        refine At.enter rfl ?_
        refine r_iconst 1 rfl ?_
        refine r_ireti ?_
        have x3540 := HI.eqI hI3520 (p := 231) (b := 8) ((((hF3521.1 231 8 (by decide)).trans ((hF3504.1 231 8 (by decide)).trans ((hF3484.1 231 8 (by decide)).trans ((hF2295.1 231 8 (by decide)).trans ((hF2283.1 231 8 (by decide)).trans (hF2271.1 231 8 (by decide))))))).trans hv1))
        have x3541 := HI.eqI hI3520 (p := 231) (b := 9) (hv3528)
        have x3542 := HI.eqI hI3520 (p := 231) (b := 10) (hv3530)
        have x3543 := HI.eqI hI3520 (p := 231) (b := 11) (hv3532)
        obtain ⟨v3544, hv3544⟩ : ∃ v, gJ g3519 231 12 = v := ⟨_, rfl⟩
        have x3545 := HI.eqJ hI3520 (b := 12) (hv3544)
        have x3546 := HI.eqI hI3520 (p := 231) (b := 14) ((((hF3521.1 231 14 (by decide)).trans ((hF3504.1 231 14 (by decide)).trans ((hF3484.1 231 14 (by decide)).trans ((hF2295.1 231 14 (by decide)).trans ((hF2283.1 231 14 (by decide)).trans (hF2271.1 231 14 (by decide))))))).trans hv6))
        have x3547 := HI.eqI hI3520 (p := 231) (b := 17) ((((hF3521.1 231 17 (by decide)).trans (hF3504.1 231 17 (by decide))).trans hv3491))
        have x3548 := HI.eqI hI3520 (p := 231) (b := 23) (((hF3521.1 231 23 (by decide)).trans hv3513))
        have x3549 := HI.eqI hI0 (p := 231) (b := 9) (hv2)
        have zv3550 : (1 : Int32).toInt = 1 := rfl
        have pg3551 := PG.cong pg3516 hI3520 ((hF3521.2.1 238 (by decide))) ((hF3521.2.1 239 (by decide))) ((hF3521.2.1 240 (by decide))) ((hF3521.2.1 241 (by decide))) ((hF3521.1 231 17 (by decide))) ((hF3521.1 231 23 (by decide)))
        exact ⟨_, rfl, hI3520, hF3524, _, rfl, by decide, ⟨by omega, by omega, by omega, by omega, c3539, by omega, by omega, (fun hbad => ⟨by omega, (PT.mk (fun _ => pg3551) (fun h => False.elim (by omega)) (fun h h9 => False.elim (by omega)) (fun h => False.elim (by omega)))⟩), (fun hbad => by omega)⟩⟩
    · have c2290_ : v2284.toInt ≠ 0 := en_k_eq_f c2290
      refine At.enter rfl ?_
      refine r_bipush 21 rfl ?_
      refine r_goto ?_
      refine At.enter rfl ?_
      refine r_istore_n ([(2, .int 21), (0, .ref 231), (1, .int a1)]) rfl ?_
      refine r_iload_n rfl ?_
      refine r_iconst (-1) rfl ?_
      refine r_icf 63 rfl (by decide) ?_
      refine At.enter rfl ?_
      refine r_aload_n rfl ?_
      refine r_iload_n rfl ?_
      refine q_inlS 68 rfl [.int 21] [.ref 231] (Nat.le_of_ble_eq_true rfl) rfl ?_
      refine Ev.mk rfl rfl ⟨Nat.le_of_ble_eq_true rfl, Or.inl rfl⟩ ?_
      show At _ none _ _ (0, [(0, .int 21)], [], (_, _)) _
      refine At.enter rfl ?_
      refine r_iload_n rfl ?_
      refine r_bipush 30 rfl ?_
      refine r_ict (by decide) ?_
      refine At.enter rfl ?_
      refine r_iload_n rfl ?_
      refine r_bipush 29 rfl ?_
      refine r_ict (by decide) ?_
      refine At.enter rfl ?_
      refine r_iload_n rfl ?_
      refine r_bipush 28 rfl ?_
      refine r_ict (by decide) ?_
      refine At.enter rfl ?_
      refine r_iload_n rfl ?_
      refine r_bipush 27 rfl ?_
      refine r_ict (by decide) ?_
      refine At.enter rfl ?_
      refine r_iload_n rfl ?_
      refine r_bipush 24 rfl ?_
      refine r_ict (by decide) ?_
      refine At.enter rfl ?_
      refine r_iload_n rfl ?_
      refine r_bipush 22 rfl ?_
      refine r_ict (by decide) ?_
      refine At.enter rfl ?_
      refine r_iconst 5 rfl ?_
      refine Ar.fall 62 rfl ?_
      refine At.enter rfl ?_
      refine q_ireti ?_
      refine At.enter rfl ?_
      have x3552 := HI.eqI hI2282 (p := 231) (b := 17) ((((hF2283.1 231 17 (by decide)).trans (hF2271.1 231 17 (by decide))).trans hv7))
      have x3553 := HI.eqI hI2282 (p := 231) (b := 23) ((((hF2283.1 231 23 (by decide)).trans (hF2271.1 231 23 (by decide))).trans hv8))
      have zv3554 : (5 : Int32).toInt = 5 := rfl
      refine r_callV 71 rfl [.ref 231, .int 5] [] (Nat.le_of_ble_eq_true rfl) rfl (T_X11_settle_231 _ hI2282 5 (by decide) (by omega)) ?_
      rintro _ _ ⟨g3555, rfl, hI3556, hF3557, rfl, hr3559⟩
      refine At.stn ?_
      have hF3560 := Fr.tr hF2286 hF3557 rfl rfl
      have zv3561 : (5 : Int32).toInt = 5 := rfl
      have x3562 := HI.eqI hI2282 (p := 231) (b := 17) ((((hF2283.1 231 17 (by decide)).trans (hF2271.1 231 17 (by decide))).trans hv7))
      have x3563 := HI.eqI hI2282 (p := 231) (b := 23) ((((hF2283.1 231 23 (by decide)).trans (hF2271.1 231 23 (by decide))).trans hv8))
      obtain ⟨v3564, hv3564⟩ : ∃ v, gI g3555 231 17 = v := ⟨_, rfl⟩
      have rv3564 := RgF.at hI3556.2.1 (p := 231) (b := 17) rfl
      rw [hv3564] at rv3564
      dsimp only at rv3564
      have tv3564 := congrArg Int32.toInt hv3564
      have x3565 := HI.eqI hI3556 (p := 231) (b := 17) (hv3564)
      obtain ⟨v3566, hv3566⟩ : ∃ v, gI g3555 231 23 = v := ⟨_, rfl⟩
      have rv3566 := RgF.at hI3556.2.1 (p := 231) (b := 23) rfl
      rw [hv3566] at rv3566
      dsimp only at rv3566
      have tv3566 := congrArg Int32.toInt hv3566
      have x3567 := HI.eqI hI3556 (p := 231) (b := 23) (hv3566)
      have y3568 : (gI _ 231 23).toInt ≤ (gI _ 231 23).toInt := hr3559.1
      have y3569 : (gI _ 231 17).toInt + (gI _ 231 23).toInt ≤ (gI _ 231 17).toInt + (gI _ 231 23).toInt := hr3559.2.1
      have pg3570 := PG.cong (hP.2.1 (by decide)) hI2282 (((hF2283.2.1 238 (by decide)).trans (hF2271.2.1 238 (by decide)))) (((hF2283.2.1 239 (by decide)).trans (hF2271.2.1 239 (by decide)))) (((hF2283.2.1 240 (by decide)).trans (hF2271.2.1 240 (by decide)))) (((hF2283.2.1 241 (by decide)).trans (hF2271.2.1 241 (by decide)))) (((hF2283.1 231 17 (by decide)).trans (hF2271.1 231 17 (by decide)))) (((hF2283.1 231 23 (by decide)).trans (hF2271.1 231 23 (by decide))))
      have pg3571 := hr3559.2.2.1 _ _ _ pg3570
      refine At.enter rfl ?_
      refine r_aload_n rfl ?_
      refine r_iload_n rfl ?_
      refine r_iconst 0 rfl ?_
      have x3572 := HI.eqI hI3556 (p := 231) (b := 23) (hv3566)
      have zv3573 : (21 : Int32).toInt = 21 := rfl
      have zv3574 : (0 : Int32).toInt = 0 := rfl
      refine r_callV 77 rfl [.ref 231, .int 21, .int 0] [] (Nat.le_of_ble_eq_true rfl) rfl (T_X11_push_231 _ hI3556 21 (by decide) 0 (by decide) (by omega)) ?_
      rintro _ _ ⟨g3575, rfl, hI3576, hF3577, rfl, hr3579⟩
      refine At.stn ?_
      have hF3580 := Fr.tr hF3560 hF3577 rfl rfl
      have zv3581 : (21 : Int32).toInt = 21 := rfl
      have zv3582 : (0 : Int32).toInt = 0 := rfl
      have x3583 := HI.eqI hI3556 (p := 231) (b := 17) (hv3564)
      have x3584 := HI.eqI hI3556 (p := 231) (b := 23) (hv3566)
      have x3585 := HI.eqI hI3576 (p := 231) (b := 17) (((hF3577.1 231 17 (by decide)).trans hv3564))
      obtain ⟨v3586, hv3586⟩ : ∃ v, gI g3575 231 23 = v := ⟨_, rfl⟩
      have rv3586 := RgF.at hI3576.2.1 (p := 231) (b := 23) rfl
      rw [hv3586] at rv3586
      dsimp only at rv3586
      have tv3586 := congrArg Int32.toInt hv3586
      have x3587 := HI.eqI hI3576 (p := 231) (b := 23) (hv3586)
      have y3588 : (gI _ 231 23).toInt = (gI _ 231 23).toInt + 1 := hr3579.1
      have pg3589 := PG.push (e' := 0) pg3571 hr3579 (hF3577.2.1 238 (by decide)) (hF3577.2.1 239 (by decide)) (hF3577.1 231 17 (by decide)) ⟨by omega, by omega⟩ (Or.inl (by omega)) (by omega) (by omega)
      refine At.enter rfl ?_
      refine r_aload_n rfl ?_
      have x3590 := HI.eqI hI3576 (p := 231) (b := 8) ((((hF3577.1 231 8 (by decide)).trans ((hF3557.1 231 8 (by decide)).trans ((hF2283.1 231 8 (by decide)).trans (hF2271.1 231 8 (by decide))))).trans hv1))
      have x3591 := HI.eqI hI3576 (p := 231) (b := 10) ((((hF3577.1 231 10 (by decide)).trans ((hF3557.1 231 10 (by decide)).trans ((hF2283.1 231 10 (by decide)).trans (hF2271.1 231 10 (by decide))))).trans hv3))
      refine r_callV 81 rfl [.ref 231] [] (Nat.le_of_ble_eq_true rfl) rfl (T_X11_next_231 _ hI3576 (by omega)) ?_
      rintro _ _ ⟨g3592, rfl, hI3593, hF3594, rfl, hr3596⟩
      refine At.stn ?_
      have hF3597 := Fr.tr hF3580 hF3594 rfl rfl
      have x3598 := HI.eqI hI3576 (p := 231) (b := 8) ((((hF3577.1 231 8 (by decide)).trans ((hF3557.1 231 8 (by decide)).trans ((hF2283.1 231 8 (by decide)).trans (hF2271.1 231 8 (by decide))))).trans hv1))
      have x3599 := HI.eqI hI3576 (p := 231) (b := 10) ((((hF3577.1 231 10 (by decide)).trans ((hF3557.1 231 10 (by decide)).trans ((hF2283.1 231 10 (by decide)).trans (hF2271.1 231 10 (by decide))))).trans hv3))
      have x3600 := HI.eqI hI3593 (p := 231) (b := 8) ((((hF3594.1 231 8 (by decide)).trans ((hF3577.1 231 8 (by decide)).trans ((hF3557.1 231 8 (by decide)).trans ((hF2283.1 231 8 (by decide)).trans (hF2271.1 231 8 (by decide)))))).trans hv1))
      obtain ⟨v3601, hv3601⟩ : ∃ v, gI g3592 231 9 = v := ⟨_, rfl⟩
      have rv3601 := RgF.at hI3593.2.1 (p := 231) (b := 9) rfl
      rw [hv3601] at rv3601
      dsimp only at rv3601
      have tv3601 := congrArg Int32.toInt hv3601
      have x3602 := HI.eqI hI3593 (p := 231) (b := 9) (hv3601)
      obtain ⟨v3603, hv3603⟩ : ∃ v, gI g3592 231 10 = v := ⟨_, rfl⟩
      have rv3603 := RgF.at hI3593.2.1 (p := 231) (b := 10) rfl
      rw [hv3603] at rv3603
      dsimp only at rv3603
      have tv3603 := congrArg Int32.toInt hv3603
      have x3604 := HI.eqI hI3593 (p := 231) (b := 10) (hv3603)
      obtain ⟨v3605, hv3605⟩ : ∃ v, gI g3592 231 11 = v := ⟨_, rfl⟩
      have tv3605 := congrArg Int32.toInt hv3605
      have x3606 := HI.eqI hI3593 (p := 231) (b := 11) (hv3605)
      obtain ⟨c3607, c3608, c3609, c3610, c3611, c3612⟩ := hr3596
      refine At.enter rfl ?_
      refine r_iconst 1 rfl ?_
      refine r_ireti ?_
      have x3613 := HI.eqI hI3593 (p := 231) (b := 8) ((((hF3594.1 231 8 (by decide)).trans ((hF3577.1 231 8 (by decide)).trans ((hF3557.1 231 8 (by decide)).trans ((hF2283.1 231 8 (by decide)).trans (hF2271.1 231 8 (by decide)))))).trans hv1))
      have x3614 := HI.eqI hI3593 (p := 231) (b := 9) (hv3601)
      have x3615 := HI.eqI hI3593 (p := 231) (b := 10) (hv3603)
      have x3616 := HI.eqI hI3593 (p := 231) (b := 11) (hv3605)
      obtain ⟨v3617, hv3617⟩ : ∃ v, gJ g3592 231 12 = v := ⟨_, rfl⟩
      have x3618 := HI.eqJ hI3593 (b := 12) (hv3617)
      have x3619 := HI.eqI hI3593 (p := 231) (b := 14) ((((hF3594.1 231 14 (by decide)).trans ((hF3577.1 231 14 (by decide)).trans ((hF3557.1 231 14 (by decide)).trans ((hF2283.1 231 14 (by decide)).trans (hF2271.1 231 14 (by decide)))))).trans hv6))
      have x3620 := HI.eqI hI3593 (p := 231) (b := 17) ((((hF3594.1 231 17 (by decide)).trans (hF3577.1 231 17 (by decide))).trans hv3564))
      have x3621 := HI.eqI hI3593 (p := 231) (b := 23) (((hF3594.1 231 23 (by decide)).trans hv3586))
      have x3622 := HI.eqI hI0 (p := 231) (b := 9) (hv2)
      have zv3623 : (1 : Int32).toInt = 1 := rfl
      have pg3624 := PG.cong pg3589 hI3593 ((hF3594.2.1 238 (by decide))) ((hF3594.2.1 239 (by decide))) ((hF3594.2.1 240 (by decide))) ((hF3594.2.1 241 (by decide))) ((hF3594.1 231 17 (by decide))) ((hF3594.1 231 23 (by decide)))
      exact ⟨_, rfl, hI3593, hF3597, _, rfl, by decide, ⟨by omega, by omega, by omega, by omega, c3612, by omega, by omega, (fun hbad => ⟨by omega, (PT.mk (fun _ => pg3624) (fun h => False.elim (by omega)) (fun h h9 => False.elim (by omega)) (fun h => False.elim (by omega)))⟩), (fun hbad => by omega)⟩⟩
  · have c2278_ : v2272.toInt ≠ 0 := en_k_eq_f c2278
    refine At.enter rfl ?_
    refine r_bipush 20 rfl ?_
    refine r_goto ?_
    refine At.enter rfl ?_
    refine r_istore_n ([(2, .int 20), (0, .ref 231), (1, .int a1)]) rfl ?_
    refine r_iload_n rfl ?_
    refine r_iconst (-1) rfl ?_
    refine r_icf 63 rfl (by decide) ?_
    refine At.enter rfl ?_
    refine r_aload_n rfl ?_
    refine r_iload_n rfl ?_
    refine q_inlS 68 rfl [.int 20] [.ref 231] (Nat.le_of_ble_eq_true rfl) rfl ?_
    refine Ev.mk rfl rfl ⟨Nat.le_of_ble_eq_true rfl, Or.inl rfl⟩ ?_
    show At _ none _ _ (0, [(0, .int 20)], [], (_, _)) _
    refine At.enter rfl ?_
    refine r_iload_n rfl ?_
    refine r_bipush 30 rfl ?_
    refine r_ict (by decide) ?_
    refine At.enter rfl ?_
    refine r_iload_n rfl ?_
    refine r_bipush 29 rfl ?_
    refine r_ict (by decide) ?_
    refine At.enter rfl ?_
    refine r_iload_n rfl ?_
    refine r_bipush 28 rfl ?_
    refine r_ict (by decide) ?_
    refine At.enter rfl ?_
    refine r_iload_n rfl ?_
    refine r_bipush 27 rfl ?_
    refine r_ict (by decide) ?_
    refine At.enter rfl ?_
    refine r_iload_n rfl ?_
    refine r_bipush 24 rfl ?_
    refine r_ict (by decide) ?_
    refine At.enter rfl ?_
    refine r_iload_n rfl ?_
    refine r_bipush 22 rfl ?_
    refine r_ict (by decide) ?_
    refine At.enter rfl ?_
    refine r_iconst 5 rfl ?_
    refine Ar.fall 62 rfl ?_
    refine At.enter rfl ?_
    refine q_ireti ?_
    refine At.enter rfl ?_
    have x3625 := HI.eqI hI2270 (p := 231) (b := 17) (((hF2271.1 231 17 (by decide)).trans hv7))
    have x3626 := HI.eqI hI2270 (p := 231) (b := 23) (((hF2271.1 231 23 (by decide)).trans hv8))
    have zv3627 : (5 : Int32).toInt = 5 := rfl
    refine r_callV 71 rfl [.ref 231, .int 5] [] (Nat.le_of_ble_eq_true rfl) rfl (T_X11_settle_231 _ hI2270 5 (by decide) (by omega)) ?_
    rintro _ _ ⟨g3628, rfl, hI3629, hF3630, rfl, hr3632⟩
    refine At.stn ?_
    have hF3633 := Fr.tr hF2274 hF3630 rfl rfl
    have zv3634 : (5 : Int32).toInt = 5 := rfl
    have x3635 := HI.eqI hI2270 (p := 231) (b := 17) (((hF2271.1 231 17 (by decide)).trans hv7))
    have x3636 := HI.eqI hI2270 (p := 231) (b := 23) (((hF2271.1 231 23 (by decide)).trans hv8))
    obtain ⟨v3637, hv3637⟩ : ∃ v, gI g3628 231 17 = v := ⟨_, rfl⟩
    have rv3637 := RgF.at hI3629.2.1 (p := 231) (b := 17) rfl
    rw [hv3637] at rv3637
    dsimp only at rv3637
    have tv3637 := congrArg Int32.toInt hv3637
    have x3638 := HI.eqI hI3629 (p := 231) (b := 17) (hv3637)
    obtain ⟨v3639, hv3639⟩ : ∃ v, gI g3628 231 23 = v := ⟨_, rfl⟩
    have rv3639 := RgF.at hI3629.2.1 (p := 231) (b := 23) rfl
    rw [hv3639] at rv3639
    dsimp only at rv3639
    have tv3639 := congrArg Int32.toInt hv3639
    have x3640 := HI.eqI hI3629 (p := 231) (b := 23) (hv3639)
    have y3641 : (gI _ 231 23).toInt ≤ (gI _ 231 23).toInt := hr3632.1
    have y3642 : (gI _ 231 17).toInt + (gI _ 231 23).toInt ≤ (gI _ 231 17).toInt + (gI _ 231 23).toInt := hr3632.2.1
    have pg3643 := PG.cong (hP.2.1 (by decide)) hI2270 ((hF2271.2.1 238 (by decide))) ((hF2271.2.1 239 (by decide))) ((hF2271.2.1 240 (by decide))) ((hF2271.2.1 241 (by decide))) ((hF2271.1 231 17 (by decide))) ((hF2271.1 231 23 (by decide)))
    have pg3644 := hr3632.2.2.1 _ _ _ pg3643
    refine At.enter rfl ?_
    refine r_aload_n rfl ?_
    refine r_iload_n rfl ?_
    refine r_iconst 0 rfl ?_
    have x3645 := HI.eqI hI3629 (p := 231) (b := 23) (hv3639)
    have zv3646 : (20 : Int32).toInt = 20 := rfl
    have zv3647 : (0 : Int32).toInt = 0 := rfl
    refine r_callV 77 rfl [.ref 231, .int 20, .int 0] [] (Nat.le_of_ble_eq_true rfl) rfl (T_X11_push_231 _ hI3629 20 (by decide) 0 (by decide) (by omega)) ?_
    rintro _ _ ⟨g3648, rfl, hI3649, hF3650, rfl, hr3652⟩
    refine At.stn ?_
    have hF3653 := Fr.tr hF3633 hF3650 rfl rfl
    have zv3654 : (20 : Int32).toInt = 20 := rfl
    have zv3655 : (0 : Int32).toInt = 0 := rfl
    have x3656 := HI.eqI hI3629 (p := 231) (b := 17) (hv3637)
    have x3657 := HI.eqI hI3629 (p := 231) (b := 23) (hv3639)
    have x3658 := HI.eqI hI3649 (p := 231) (b := 17) (((hF3650.1 231 17 (by decide)).trans hv3637))
    obtain ⟨v3659, hv3659⟩ : ∃ v, gI g3648 231 23 = v := ⟨_, rfl⟩
    have rv3659 := RgF.at hI3649.2.1 (p := 231) (b := 23) rfl
    rw [hv3659] at rv3659
    dsimp only at rv3659
    have tv3659 := congrArg Int32.toInt hv3659
    have x3660 := HI.eqI hI3649 (p := 231) (b := 23) (hv3659)
    have y3661 : (gI _ 231 23).toInt = (gI _ 231 23).toInt + 1 := hr3652.1
    have pg3662 := PG.push (e' := 0) pg3644 hr3652 (hF3650.2.1 238 (by decide)) (hF3650.2.1 239 (by decide)) (hF3650.1 231 17 (by decide)) ⟨by omega, by omega⟩ (Or.inl (by omega)) (by omega) (by omega)
    refine At.enter rfl ?_
    refine r_aload_n rfl ?_
    have x3663 := HI.eqI hI3649 (p := 231) (b := 8) ((((hF3650.1 231 8 (by decide)).trans ((hF3630.1 231 8 (by decide)).trans (hF2271.1 231 8 (by decide)))).trans hv1))
    have x3664 := HI.eqI hI3649 (p := 231) (b := 10) ((((hF3650.1 231 10 (by decide)).trans ((hF3630.1 231 10 (by decide)).trans (hF2271.1 231 10 (by decide)))).trans hv3))
    refine r_callV 81 rfl [.ref 231] [] (Nat.le_of_ble_eq_true rfl) rfl (T_X11_next_231 _ hI3649 (by omega)) ?_
    rintro _ _ ⟨g3665, rfl, hI3666, hF3667, rfl, hr3669⟩
    refine At.stn ?_
    have hF3670 := Fr.tr hF3653 hF3667 rfl rfl
    have x3671 := HI.eqI hI3649 (p := 231) (b := 8) ((((hF3650.1 231 8 (by decide)).trans ((hF3630.1 231 8 (by decide)).trans (hF2271.1 231 8 (by decide)))).trans hv1))
    have x3672 := HI.eqI hI3649 (p := 231) (b := 10) ((((hF3650.1 231 10 (by decide)).trans ((hF3630.1 231 10 (by decide)).trans (hF2271.1 231 10 (by decide)))).trans hv3))
    have x3673 := HI.eqI hI3666 (p := 231) (b := 8) ((((hF3667.1 231 8 (by decide)).trans ((hF3650.1 231 8 (by decide)).trans ((hF3630.1 231 8 (by decide)).trans (hF2271.1 231 8 (by decide))))).trans hv1))
    obtain ⟨v3674, hv3674⟩ : ∃ v, gI g3665 231 9 = v := ⟨_, rfl⟩
    have rv3674 := RgF.at hI3666.2.1 (p := 231) (b := 9) rfl
    rw [hv3674] at rv3674
    dsimp only at rv3674
    have tv3674 := congrArg Int32.toInt hv3674
    have x3675 := HI.eqI hI3666 (p := 231) (b := 9) (hv3674)
    obtain ⟨v3676, hv3676⟩ : ∃ v, gI g3665 231 10 = v := ⟨_, rfl⟩
    have rv3676 := RgF.at hI3666.2.1 (p := 231) (b := 10) rfl
    rw [hv3676] at rv3676
    dsimp only at rv3676
    have tv3676 := congrArg Int32.toInt hv3676
    have x3677 := HI.eqI hI3666 (p := 231) (b := 10) (hv3676)
    obtain ⟨v3678, hv3678⟩ : ∃ v, gI g3665 231 11 = v := ⟨_, rfl⟩
    have tv3678 := congrArg Int32.toInt hv3678
    have x3679 := HI.eqI hI3666 (p := 231) (b := 11) (hv3678)
    obtain ⟨c3680, c3681, c3682, c3683, c3684, c3685⟩ := hr3669
    refine At.enter rfl ?_
    refine r_iconst 1 rfl ?_
    refine r_ireti ?_
    have x3686 := HI.eqI hI3666 (p := 231) (b := 8) ((((hF3667.1 231 8 (by decide)).trans ((hF3650.1 231 8 (by decide)).trans ((hF3630.1 231 8 (by decide)).trans (hF2271.1 231 8 (by decide))))).trans hv1))
    have x3687 := HI.eqI hI3666 (p := 231) (b := 9) (hv3674)
    have x3688 := HI.eqI hI3666 (p := 231) (b := 10) (hv3676)
    have x3689 := HI.eqI hI3666 (p := 231) (b := 11) (hv3678)
    obtain ⟨v3690, hv3690⟩ : ∃ v, gJ g3665 231 12 = v := ⟨_, rfl⟩
    have x3691 := HI.eqJ hI3666 (b := 12) (hv3690)
    have x3692 := HI.eqI hI3666 (p := 231) (b := 14) ((((hF3667.1 231 14 (by decide)).trans ((hF3650.1 231 14 (by decide)).trans ((hF3630.1 231 14 (by decide)).trans (hF2271.1 231 14 (by decide))))).trans hv6))
    have x3693 := HI.eqI hI3666 (p := 231) (b := 17) ((((hF3667.1 231 17 (by decide)).trans (hF3650.1 231 17 (by decide))).trans hv3637))
    have x3694 := HI.eqI hI3666 (p := 231) (b := 23) (((hF3667.1 231 23 (by decide)).trans hv3659))
    have x3695 := HI.eqI hI0 (p := 231) (b := 9) (hv2)
    have zv3696 : (1 : Int32).toInt = 1 := rfl
    have pg3697 := PG.cong pg3662 hI3666 ((hF3667.2.1 238 (by decide))) ((hF3667.2.1 239 (by decide))) ((hF3667.2.1 240 (by decide))) ((hF3667.2.1 241 (by decide))) ((hF3667.1 231 17 (by decide))) ((hF3667.1 231 23 (by decide)))
    exact ⟨_, rfl, hI3666, hF3670, _, rfl, by decide, ⟨by omega, by omega, by omega, by omega, c3685, by omega, by omega, (fun hbad => ⟨by omega, (PT.mk (fun _ => pg3697) (fun h => False.elim (by omega)) (fun h h9 => False.elim (by omega)) (fun h => False.elim (by omega)))⟩), (fun hbad => by omega)⟩⟩
