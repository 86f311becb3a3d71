def F_X11_next_231 : List (Nat × Nat) := [(231, 9), (231, 10), (231, 11), (231, 12)]
def A_X11_next_231 : List Nat := []
set_option maxRecDepth 100000 in
set_option maxHeartbeats 4000000 in
theorem T_X11_next_231 (d : Nat) {N : Nat} {g0 : List en_E} (hI0 : HI g0) (h1 : (gI g0 231 10).toInt ≤ (gI g0 231 8).toInt) : Ev (d + 2) 190 [.ref 231] (g0, N) (fun w h' => ∃ g', h' = (g', N) ∧ HI g' ∧ Fr F_X11_next_231 A_X11_next_231 g0 g' ∧ w = none ∧ ((gI g' 231 9).toInt ≤ (gI g' 231 10).toInt ∧ (gI g' 231 10).toInt ≤ (gI g' 231 8).toInt ∧ 0 ≤ (gI g' 231 11).toInt ∧ (gI g' 231 11).toInt ≤ 3 * ((gI g' 231 10).toInt - (gI g' 231 9).toInt) ∧ (gI g0 231 10).toInt ≤ (gI g' 231 9).toInt ∧ W26 g' ∧ (TKM g' ∧ SKP (TM g0) (nM g0) (pI g0 10) (pI g' 9)))) := by
  have hF0 : Fr F_X11_next_231 A_X11_next_231 g0 g0 := Fr.rf
  obtain ⟨v1, hv1⟩ : ∃ v, gI g0 231 8 = v := ⟨_, rfl⟩
  have rv1 := RgF.at hI0.2.1 (p := 231) (b := 8) rfl
  rw [hv1] at rv1
  dsimp only at rv1
  have tv1 := congrArg Int32.toInt hv1
  obtain ⟨v2, hv2⟩ : ∃ v, gI g0 231 10 = v := ⟨_, rfl⟩
  have rv2 := RgF.at hI0.2.1 (p := 231) (b := 10) rfl
  rw [hv2] at rv2
  dsimp only at rv2
  have tv2 := congrArg Int32.toInt hv2
  refine Ev.mk rfl rfl ⟨Nat.le_of_ble_eq_true rfl, Or.inr (q_rc hI0.1 kx_231 rfl)⟩ ?_
  show At _ none _ _ (0, [(0, .ref 231)], [], (_, _)) _
  refine At.enter rfl ?_
  refine r_aload_n rfl ?_
  refine r_aload_n rfl ?_
  refine q_getI (Sh.int hI0.1 kx_231 rfl) v2 hv2 ?_
  refine q_putI (Sh.int hI0.1 kx_231 rfl) rfl ?_
  have hI1763 := HI.wI1 hI0 kx_231 rfl (p := 231) (b := 9) (v := v2) rfl (by dsimp only; omega)
  have hF1764 := Fr.wI (p := 231) (b := 9) (v := v2) hF0 rfl
  refine Ar.fall 8 rfl ?_
  refine w_loopI (fun n_ l_ g_ => ∃ x2189 : Int32, n_ = 400 - x2189.toInt ∧ HI g_ ∧ Fr F_X11_next_231 A_X11_next_231 g0 g_ ∧ gI g_ 231 9 = x2189 ∧ en_get 0 l_ = some (.ref 231) ∧ (0 ≤ x2189.toInt ∧ x2189.toInt ≤ 400) ∧ (x2189.toInt ≤ (gI g0 231 8).toInt) ∧ ((gI g0 231 10).toInt ≤ x2189.toInt) ∧ (∀ j : Int, (gI g0 231 10).toInt ≤ j → j < x2189.toInt → TM g0 j = 32)) ?_ (400 - v2.toInt) ⟨v2, by first | rfl | omega, hI1763, hF1764, (gI_sI_eq hI0.1 kx_231 rfl _), rfl, by omega, by omega, by omega, (fun j h0 h1 => absurd h1 (by omega))⟩
  rintro n2194 l2193 g2190 ⟨x2189, hm2202, hI2191, hF2192, e2196, e2197, r2198, q2199, q2200, q2201⟩ ih2195
  have tv2203 := congrArg Int32.toInt e2196
  refine At.enter rfl ?_
  refine r_aload_n e2197 ?_
  refine q_getI (Sh.int hI2191.1 kx_231 rfl) x2189 e2196 ?_
  refine r_aload_n e2197 ?_
  refine q_getI (Sh.int hI2191.1 kx_231 rfl) v1 ((hF2192.1 231 8 (by decide)).trans hv1) ?_
  have bv2205 := q_bnd x2189
  have bv2206 := q_bnd v1
  refine r_ics 19 rfl (fun c2204 => ?_) (fun c2204 => ?_)
  · have c2204_ : x2189.toInt ≥ v1.toInt := en_i_ge_t c2204
    refine At.enter rfl ?_
    refine r_aload_n e2197 ?_
    refine r_aload_n e2197 ?_
    refine q_getI (Sh.int hI2191.1 kx_231 rfl) x2189 e2196 ?_
    refine q_putI (Sh.int hI2191.1 kx_231 rfl) rfl ?_
    have hI2207 := HI.wI1 hI2191 kx_231 rfl (p := 231) (b := 10) (v := x2189) rfl (by dsimp only; omega)
    have hF2208 := Fr.wI (p := 231) (b := 10) (v := x2189) hF2192 rfl
    refine r_aload_n e2197 ?_
    refine r_lconst 0 rfl ?_
    refine q_putJ (Sh.long hI2207.1 kx_231 rfl) rfl ?_
    have hI2209 := HI.wJ hI2207 kx_231 rfl (p := 231) (b := 12) (v := 0)
    have hF2210 := Fr.wJ (p := 231) (b := 12) (v := 0) hF2208 rfl
    refine r_aload_n e2197 ?_
    refine r_aload_n e2197 ?_
    refine q_getI (Sh.int hI2209.1 kx_231 rfl) x2189 (((gI_sJ_ne (by decide)).trans (gI_sI_ne (by decide))).trans e2196) ?_
    refine r_aload_n e2197 ?_
    refine q_getI (Sh.int hI2209.1 kx_231 rfl) v1 (((gI_sJ_ne (by decide)).trans ((gI_sI_ne (by decide)).trans (hF2192.1 231 8 (by decide)))).trans hv1) ?_
    refine r_ics 71 rfl (fun c2211 => ?_) (fun c2211 => ?_)
    · have c2211_ : x2189.toInt ≠ v1.toInt := en_i_ne_t c2211
      refine At.enter rfl ?_
      refine r_aload_n e2197 ?_
      refine q_getR (Sh.ref hI2209.1 kx_231 rfl) ?_
      refine r_aload_n e2197 ?_
      refine q_getI (Sh.int hI2209.1 kx_231 rfl) x2189 (((gI_sJ_ne (by decide)).trans (gI_sI_ne (by decide))).trans e2196) ?_
      obtain ⟨v2212, hv2212⟩ : ∃ v, eA g0 236 x2189.toInt = v := ⟨_, rfl⟩
      have tv2212 := congrArg Int32.toInt hv2212
      refine q_iald (Sh.arr hI2209.1 ka_236) x2189.toInt rfl (by omega) v2212 ((eA_c ((gA_sJ).trans ((gA_sI).trans (hF2192.2.1 236 (by decide))))).trans hv2212) ?_
      refine q_inlS 87 rfl [.int v2212] [.ref 231] (Nat.le_of_ble_eq_true rfl) rfl ?_
      refine Ev.mk rfl rfl ⟨Nat.le_of_ble_eq_true rfl, Or.inl rfl⟩ ?_
      show At _ none _ _ (0, [(0, .int v2212)], [], (_, _)) _
      refine At.enter rfl ?_
      refine r_iload_n rfl ?_
      refine r_bipush 97 rfl ?_
      refine r_ics 6 rfl (fun c2213 => ?_) (fun c2213 => ?_)
      · have c2213_ : v2212.toInt < 97 := en_i_lt_t c2213
        refine At.enter rfl ?_
        refine r_iconst 0 rfl ?_
        refine Ar.fall 17 rfl ?_
        refine At.enter rfl ?_
        refine q_iretz (by decide) ?_
        refine At.enter rfl ?_
        refine r_ift (by decide) ?_
        refine At.enter rfl ?_
        refine r_aload_n e2197 ?_
        refine q_getR (Sh.ref hI2209.1 kx_231 rfl) ?_
        refine r_aload_n e2197 ?_
        refine q_getI (Sh.int hI2209.1 kx_231 rfl) x2189 (((gI_sJ_ne (by decide)).trans (gI_sI_ne (by decide))).trans e2196) ?_
        refine q_iald (Sh.arr hI2209.1 ka_236) x2189.toInt rfl (by omega) v2212 ((eA_c ((gA_sJ).trans ((gA_sI).trans (hF2192.2.1 236 (by decide))))).trans hv2212) ?_
        refine q_inlS 106 rfl [.int v2212] [.ref 231] (Nat.le_of_ble_eq_true rfl) rfl ?_
        refine Ev.mk rfl rfl ⟨Nat.le_of_ble_eq_true rfl, Or.inl rfl⟩ ?_
        show At _ none _ _ (0, [(0, .int v2212)], [], (_, _)) _
        refine At.enter rfl ?_
        refine r_iload_n rfl ?_
        refine r_bipush 48 rfl ?_
        refine r_ics 6 rfl (fun c2214 => ?_) (fun c2214 => ?_)
        · have c2214_ : v2212.toInt < 48 := en_i_lt_t c2214
          refine At.enter rfl ?_
          refine r_iconst 0 rfl ?_
          refine Ar.fall 17 rfl ?_
          refine At.enter rfl ?_
          refine q_iretz (by decide) ?_
          refine At.enter rfl ?_
          refine r_ift (by decide) ?_
          refine At.enter rfl ?_
          refine r_iconst 3 rfl ?_
          refine Ar.fall 114 rfl ?_
          refine At.enter rfl ?_
          refine q_putI (Sh.int hI2209.1 kx_231 rfl) rfl ?_
          have hI2215 := HI.wI0 hI2209 kx_231 rfl (p := 231) (b := 11) (v := 3) rfl
          have hF2216 := Fr.wI (p := 231) (b := 11) (v := 3) hF2210 rfl
          refine r_aload_n e2197 ?_
          refine q_getI (Sh.int hI2215.1 kx_231 rfl) 3 (gI_sI_eq hI2209.1 kx_231 rfl _) ?_
          refine r_iconst 3 rfl ?_
          refine r_icf 125 rfl (by decide) ?_
          refine At.enter rfl ?_
          refine r_aload_n e2197 ?_
          refine r_aload_n e2197 ?_
          refine q_getR (Sh.ref hI2215.1 kx_231 rfl) ?_
          refine r_aload_n e2197 ?_
          refine q_getI (Sh.int hI2215.1 kx_231 rfl) x2189 (((gI_sI_ne (by decide)).trans ((gI_sJ_ne (by decide)).trans (gI_sI_ne (by decide)))).trans e2196) ?_
          refine q_iald (Sh.arr hI2215.1 ka_236) x2189.toInt rfl (by omega) v2212 ((eA_c ((gA_sI).trans ((gA_sJ).trans ((gA_sI).trans (hF2192.2.1 236 (by decide)))))).trans hv2212) ?_
          refine q_i2l (fun v2217 hv2217 => ?_)
          refine q_putJ (Sh.long hI2215.1 kx_231 rfl) rfl ?_
          have hI2218 := HI.wJ hI2215 kx_231 rfl (p := 231) (b := 12) (v := v2217)
          have hF2219 := Fr.wJ (p := 231) (b := 12) (v := v2217) hF2216 rfl
          refine r_aload_n e2197 ?_
          refine r_dup rfl ?_
          refine q_getI (Sh.int hI2218.1 kx_231 rfl) x2189 ((gI_sJ_ne (by decide)).trans ((gI_sI_ne (by decide)).trans ((gI_sJ_ne (by decide)).trans (gI_sI_eq hI2191.1 kx_231 rfl _)))) ?_
          refine r_iconst 1 rfl ?_
          refine q_iadd (x2189.toInt + 1) rfl (by omega) (fun v2220 hv2220 => ?_)
          refine q_putI (Sh.int hI2218.1 kx_231 rfl) rfl ?_
          have hI2221 := HI.wI1 hI2218 kx_231 rfl (p := 231) (b := 10) (v := v2220) rfl (by dsimp only; omega)
          have hF2222 := Fr.wI (p := 231) (b := 10) (v := v2220) hF2219 rfl
          refine Ar.fall 149 rfl ?_
          refine At.enter rfl ?_
          refine r_aload_n e2197 ?_
          refine q_getI (Sh.int hI2221.1 kx_231 rfl) 3 ((gI_sI_ne (by decide)).trans ((gI_sJ_ne (by decide)).trans (gI_sI_eq hI2209.1 kx_231 rfl _))) ?_
          refine r_iconst 1 rfl ?_
          refine r_ict (by decide) ?_
          refine At.enter rfl ?_
          refine r_aload_n e2197 ?_
          refine q_getI (Sh.int hI2221.1 kx_231 rfl) 3 ((gI_sI_ne (by decide)).trans ((gI_sJ_ne (by decide)).trans (gI_sI_eq hI2209.1 kx_231 rfl _))) ?_
          refine r_iconst 2 rfl ?_
          refine r_ict (by decide) ?_
          refine At.enter rfl ?_
          refine r_vret ?_
          have x2223 := HI.eqI hI2221 (p := 231) (b := 8) ((((gI_sI_ne (by decide)).trans ((gI_sJ_ne (by decide)).trans ((gI_sI_ne (by decide)).trans ((gI_sJ_ne (by decide)).trans ((gI_sI_ne (by decide)).trans (hF2192.1 231 8 (by decide))))))).trans hv1))
          have x2224 := HI.eqI hI2221 (p := 231) (b := 9) ((((gI_sI_ne (by decide)).trans ((gI_sJ_ne (by decide)).trans ((gI_sI_ne (by decide)).trans ((gI_sJ_ne (by decide)).trans (gI_sI_ne (by decide)))))).trans e2196))
          have x2225 := HI.eqI hI2221 (p := 231) (b := 10) ((gI_sI_eq hI2218.1 kx_231 rfl _))
          have x2226 := HI.eqI hI2221 (p := 231) (b := 11) (((gI_sI_ne (by decide)).trans ((gI_sJ_ne (by decide)).trans (gI_sI_eq hI2209.1 kx_231 rfl _))))
          have zv2227 : (3 : Int32).toInt = 3 := rfl
          have x2228 := HI.eqJ hI2221 (b := 12) (((gJ_sI_ne (by decide)).trans (gJ_sJ_eq hI2215.1 kx_231 rfl _)))
          exact ⟨_, rfl, hI2221, hF2222, rfl, ⟨by omega, by omega, by omega, by omega, by omega, by show (gI _ 231 11).toInt = 1 → (gI _ 231 10).toInt ≤ (gI _ 231 9).toInt + 1 → (gJ _ 231 12).toInt ≤ 26; omega, NEXT.s ((gA_sI).trans ((gA_sJ).trans ((gA_sI).trans ((gA_sJ).trans ((gA_sI).trans (hF2192.2.1 236 (by decide))))))) ((gI_sI_ne (by decide)).trans ((gI_sJ_ne (by decide)).trans ((gI_sI_ne (by decide)).trans ((gI_sJ_ne (by decide)).trans ((gI_sI_ne (by decide)).trans (hF2192.1 231 8 (by decide))))))) (congrArg Int32.toInt ((((gI_sI_ne (by decide)).trans ((gI_sJ_ne (by decide)).trans ((gI_sI_ne (by decide)).trans ((gI_sJ_ne (by decide)).trans (gI_sI_ne (by decide)))))).trans e2196))) (by omega) (by omega) (show _ ≤ (gI g0 231 8).toInt from by omega) (fun j a b => q2201 j a (by omega)) (fun hz => by show (eA g0 236 x2189.toInt).toInt ≠ 32; rw [show (x2189.toInt : Int) = x2189.toInt from by omega, hv2212]; omega) (show _ < (gI g0 231 8).toInt from by omega) (by unfold smP TM; rw [show (x2189.toInt : Int) = x2189.toInt from by omega, hv2212]; omega) (by unfold dgP TM; rw [show (x2189.toInt : Int) = x2189.toInt from by omega, hv2212]; omega) ((congrArg Int32.toInt (((gI_sI_ne (by decide)).trans ((gI_sJ_ne (by decide)).trans (gI_sI_eq hI2209.1 kx_231 rfl _))))).trans rfl) ((congrArg Int32.toInt ((gI_sI_eq hI2218.1 kx_231 rfl _))).trans (show v2220.toInt = x2189.toInt + 1 from by omega)) ((congrArg Int64.toInt (((gJ_sI_ne (by decide)).trans (gJ_sJ_eq hI2215.1 kx_231 rfl _)))).trans (hv2217.trans (show TM g0 x2189.toInt = v2212.toInt from by unfold TM; rw [show (x2189.toInt : Int) = x2189.toInt from by omega, hv2212]).symm))⟩⟩
        · have c2214_ : v2212.toInt ≥ 48 := en_i_lt_f c2214
          refine At.enter rfl ?_
          refine r_iload_n rfl ?_
          refine r_bipush 57 rfl ?_
          refine r_ics 12 rfl (fun c2230 => ?_) (fun c2230 => ?_)
          · have c2230_ : v2212.toInt > 57 := en_i_gt_t c2230
            refine At.enter rfl ?_
            refine r_iconst 0 rfl ?_
            refine Ar.fall 17 rfl ?_
            refine At.enter rfl ?_
            refine q_iretz (by decide) ?_
            refine At.enter rfl ?_
            refine r_ift (by decide) ?_
            refine At.enter rfl ?_
            refine r_iconst 3 rfl ?_
            refine Ar.fall 114 rfl ?_
            refine At.enter rfl ?_
            refine q_putI (Sh.int hI2209.1 kx_231 rfl) rfl ?_
            have hI2231 := HI.wI0 hI2209 kx_231 rfl (p := 231) (b := 11) (v := 3) rfl
            have hF2232 := Fr.wI (p := 231) (b := 11) (v := 3) hF2210 rfl
            refine r_aload_n e2197 ?_
            refine q_getI (Sh.int hI2231.1 kx_231 rfl) 3 (gI_sI_eq hI2209.1 kx_231 rfl _) ?_
            refine r_iconst 3 rfl ?_
            refine r_icf 125 rfl (by decide) ?_
            refine At.enter rfl ?_
            refine r_aload_n e2197 ?_
            refine r_aload_n e2197 ?_
            refine q_getR (Sh.ref hI2231.1 kx_231 rfl) ?_
            refine r_aload_n e2197 ?_
            refine q_getI (Sh.int hI2231.1 kx_231 rfl) x2189 (((gI_sI_ne (by decide)).trans ((gI_sJ_ne (by decide)).trans (gI_sI_ne (by decide)))).trans e2196) ?_
            refine q_iald (Sh.arr hI2231.1 ka_236) x2189.toInt rfl (by omega) v2212 ((eA_c ((gA_sI).trans ((gA_sJ).trans ((gA_sI).trans (hF2192.2.1 236 (by decide)))))).trans hv2212) ?_
            refine q_i2l (fun v2233 hv2233 => ?_)
            refine q_putJ (Sh.long hI2231.1 kx_231 rfl) rfl ?_
            have hI2234 := HI.wJ hI2231 kx_231 rfl (p := 231) (b := 12) (v := v2233)
            have hF2235 := Fr.wJ (p := 231) (b := 12) (v := v2233) hF2232 rfl
            refine r_aload_n e2197 ?_
            refine r_dup rfl ?_
            refine q_getI (Sh.int hI2234.1 kx_231 rfl) x2189 ((gI_sJ_ne (by decide)).trans ((gI_sI_ne (by decide)).trans ((gI_sJ_ne (by decide)).trans (gI_sI_eq hI2191.1 kx_231 rfl _)))) ?_
            refine r_iconst 1 rfl ?_
            refine q_iadd (x2189.toInt + 1) rfl (by omega) (fun v2236 hv2236 => ?_)
            refine q_putI (Sh.int hI2234.1 kx_231 rfl) rfl ?_
            have hI2237 := HI.wI1 hI2234 kx_231 rfl (p := 231) (b := 10) (v := v2236) rfl (by dsimp only; omega)
            have hF2238 := Fr.wI (p := 231) (b := 10) (v := v2236) hF2235 rfl
            refine Ar.fall 149 rfl ?_
            refine At.enter rfl ?_
            refine r_aload_n e2197 ?_
            refine q_getI (Sh.int hI2237.1 kx_231 rfl) 3 ((gI_sI_ne (by decide)).trans ((gI_sJ_ne (by decide)).trans (gI_sI_eq hI2209.1 kx_231 rfl _))) ?_
            refine r_iconst 1 rfl ?_
            refine r_ict (by decide) ?_
            refine At.enter rfl ?_
            refine r_aload_n e2197 ?_
            refine q_getI (Sh.int hI2237.1 kx_231 rfl) 3 ((gI_sI_ne (by decide)).trans ((gI_sJ_ne (by decide)).trans (gI_sI_eq hI2209.1 kx_231 rfl _))) ?_
            refine r_iconst 2 rfl ?_
            refine r_ict (by decide) ?_
            refine At.enter rfl ?_
            refine r_vret ?_
            have x2239 := HI.eqI hI2237 (p := 231) (b := 8) ((((gI_sI_ne (by decide)).trans ((gI_sJ_ne (by decide)).trans ((gI_sI_ne (by decide)).trans ((gI_sJ_ne (by decide)).trans ((gI_sI_ne (by decide)).trans (hF2192.1 231 8 (by decide))))))).trans hv1))
            have x2240 := HI.eqI hI2237 (p := 231) (b := 9) ((((gI_sI_ne (by decide)).trans ((gI_sJ_ne (by decide)).trans ((gI_sI_ne (by decide)).trans ((gI_sJ_ne (by decide)).trans (gI_sI_ne (by decide)))))).trans e2196))
            have x2241 := HI.eqI hI2237 (p := 231) (b := 10) ((gI_sI_eq hI2234.1 kx_231 rfl _))
            have x2242 := HI.eqI hI2237 (p := 231) (b := 11) (((gI_sI_ne (by decide)).trans ((gI_sJ_ne (by decide)).trans (gI_sI_eq hI2209.1 kx_231 rfl _))))
            have zv2243 : (3 : Int32).toInt = 3 := rfl
            have x2244 := HI.eqJ hI2237 (b := 12) (((gJ_sI_ne (by decide)).trans (gJ_sJ_eq hI2231.1 kx_231 rfl _)))
            exact ⟨_, rfl, hI2237, hF2238, rfl, ⟨by omega, by omega, by omega, by omega, by omega, by show (gI _ 231 11).toInt = 1 → (gI _ 231 10).toInt ≤ (gI _ 231 9).toInt + 1 → (gJ _ 231 12).toInt ≤ 26; omega, NEXT.s ((gA_sI).trans ((gA_sJ).trans ((gA_sI).trans ((gA_sJ).trans ((gA_sI).trans (hF2192.2.1 236 (by decide))))))) ((gI_sI_ne (by decide)).trans ((gI_sJ_ne (by decide)).trans ((gI_sI_ne (by decide)).trans ((gI_sJ_ne (by decide)).trans ((gI_sI_ne (by decide)).trans (hF2192.1 231 8 (by decide))))))) (congrArg Int32.toInt ((((gI_sI_ne (by decide)).trans ((gI_sJ_ne (by decide)).trans ((gI_sI_ne (by decide)).trans ((gI_sJ_ne (by decide)).trans (gI_sI_ne (by decide)))))).trans e2196))) (by omega) (by omega) (show _ ≤ (gI g0 231 8).toInt from by omega) (fun j a b => q2201 j a (by omega)) (fun hz => by show (eA g0 236 x2189.toInt).toInt ≠ 32; rw [show (x2189.toInt : Int) = x2189.toInt from by omega, hv2212]; omega) (show _ < (gI g0 231 8).toInt from by omega) (by unfold smP TM; rw [show (x2189.toInt : Int) = x2189.toInt from by omega, hv2212]; omega) (by unfold dgP TM; rw [show (x2189.toInt : Int) = x2189.toInt from by omega, hv2212]; omega) ((congrArg Int32.toInt (((gI_sI_ne (by decide)).trans ((gI_sJ_ne (by decide)).trans (gI_sI_eq hI2209.1 kx_231 rfl _))))).trans rfl) ((congrArg Int32.toInt ((gI_sI_eq hI2234.1 kx_231 rfl _))).trans (show v2236.toInt = x2189.toInt + 1 from by omega)) ((congrArg Int64.toInt (((gJ_sI_ne (by decide)).trans (gJ_sJ_eq hI2231.1 kx_231 rfl _)))).trans (hv2233.trans (show TM g0 x2189.toInt = v2212.toInt from by unfold TM; rw [show (x2189.toInt : Int) = x2189.toInt from by omega, hv2212]).symm))⟩⟩
          · have c2230_ : v2212.toInt ≤ 57 := en_i_gt_f c2230
            refine At.enter rfl ?_
            refine r_iconst 1 rfl ?_
            refine r_goto ?_
            refine At.enter rfl ?_
            refine q_iretz (by decide) ?_
            refine At.enter rfl ?_
            refine r_iff 109 rfl (by decide) ?_
            refine At.enter rfl ?_
            refine r_iconst 2 rfl ?_
            refine r_goto ?_
            refine At.enter rfl ?_
            refine q_putI (Sh.int hI2209.1 kx_231 rfl) rfl ?_
            have hI2246 := HI.wI0 hI2209 kx_231 rfl (p := 231) (b := 11) (v := 2) rfl
            have hF2247 := Fr.wI (p := 231) (b := 11) (v := 2) hF2210 rfl
            refine r_aload_n e2197 ?_
            refine q_getI (Sh.int hI2246.1 kx_231 rfl) 2 (gI_sI_eq hI2209.1 kx_231 rfl _) ?_
            refine r_iconst 3 rfl ?_
            refine r_ict (by decide) ?_
            refine At.enter rfl ?_
            refine r_aload_n e2197 ?_
            refine q_getI (Sh.int hI2246.1 kx_231 rfl) 2 (gI_sI_eq hI2209.1 kx_231 rfl _) ?_
            refine r_iconst 1 rfl ?_
            refine r_ict (by decide) ?_
            refine w_loopI (fun n_ l_ g_ => ∃ x2273 : Int32, n_ = 400 - x2273.toInt ∧ HI g_ ∧ Fr F_X11_next_231 A_X11_next_231 g0 g_ ∧ gI g_ 231 10 = x2273 ∧ gI g_ 231 9 = x2189 ∧ gI g_ 231 11 = 2 ∧ en_get 0 l_ = some (.ref 231) ∧ (0 ≤ x2273.toInt ∧ x2273.toInt ≤ 400) ∧ (x2189.toInt ≤ x2273.toInt) ∧ (x2273.toInt ≤ (gI g0 231 8).toInt) ∧ ((x2273.toInt ≤ x2189.toInt → (eA g0 236 x2273.toInt).toInt = v2212.toInt)) ∧ (DLI g0 x2189.toInt x2273.toInt ((gJ g_ 231 12).toInt))) ?_ (400 - x2189.toInt) ⟨x2189, by first | rfl | omega, hI2246, hF2247, ((gI_sI_ne (by decide)).trans ((gI_sJ_ne (by decide)).trans (gI_sI_eq hI2191.1 kx_231 rfl _))), (((gI_sI_ne (by decide)).trans ((gI_sJ_ne (by decide)).trans (gI_sI_ne (by decide)))).trans e2196), (gI_sI_eq hI2209.1 kx_231 rfl _), e2197, by omega, by omega, by omega, (fun _ => congrArg Int32.toInt hv2212), (DLI.z (by omega) (by have jw := HI.eqJ hI2246 (b := 12) (((gJ_sI_ne (by decide)).trans (gJ_sJ_eq hI2207.1 kx_231 rfl _))); have jz : (0 : Int64).toInt = 0 := rfl; omega))⟩
            rintro n2278 l2277 g2274 ⟨x2273, hm2289, hI2275, hF2276, e2280, e2281, e2282, e2283, r2284, q2285, q2286, q2287, q2288⟩ ih2279
            have tv2290 := congrArg Int32.toInt e2281
            have tv2291 := congrArg Int32.toInt e2282
            have tv2292 := congrArg Int32.toInt e2280
            refine At.enter rfl ?_
            refine r_aload_n e2283 ?_
            refine q_getI (Sh.int hI2275.1 kx_231 rfl) 2 e2282 ?_
            refine r_iconst 2 rfl ?_
            refine r_icf 251 rfl (by decide) ?_
            refine At.enter rfl ?_
            refine r_aload_n e2283 ?_
            refine q_getI (Sh.int hI2275.1 kx_231 rfl) x2273 e2280 ?_
            refine r_aload_n e2283 ?_
            refine q_getI (Sh.int hI2275.1 kx_231 rfl) v1 ((hF2276.1 231 8 (by decide)).trans hv1) ?_
            have bv2294 := q_bnd x2273
            refine r_ics 262 rfl (fun c2293 => ?_) (fun c2293 => ?_)
            · have c2293_ : x2273.toInt ≥ v1.toInt := en_i_ge_t c2293
              refine At.enter rfl ?_
              refine r_vret ?_
              have x2295 := HI.eqI hI2275 (p := 231) (b := 8) (((hF2276.1 231 8 (by decide)).trans hv1))
              have x2296 := HI.eqI hI2275 (p := 231) (b := 9) (e2281)
              have x2297 := HI.eqI hI2275 (p := 231) (b := 10) (e2280)
              have x2298 := HI.eqI hI2275 (p := 231) (b := 11) (e2282)
              have zv2299 : (2 : Int32).toInt = 2 := rfl
              obtain ⟨v2300, hv2300⟩ : ∃ v, gJ g2274 231 12 = v := ⟨_, rfl⟩
              have tv2300 := congrArg Int64.toInt hv2300
              have x2301 := HI.eqJ hI2275 (b := 12) (hv2300)
              exact ⟨_, rfl, hI2275, hF2276, rfl, ⟨by omega, by omega, by omega, by omega, by omega, by show (gI _ 231 11).toInt = 1 → (gI _ 231 10).toInt ≤ (gI _ 231 9).toInt + 1 → (gJ _ 231 12).toInt ≤ 26; omega, NEXT.d (hF2276.2.1 236 (by decide)) (hF2276.1 231 8 (by decide)) (congrArg Int32.toInt (e2281)) (by omega) (by omega) (show _ ≤ (gI g0 231 8).toInt from by omega) (fun j a b => q2201 j a (by omega)) (fun hz => by show (eA g0 236 x2189.toInt).toInt ≠ 32; rw [show (x2189.toInt : Int) = x2189.toInt from by omega, hv2212]; omega) (show _ < (gI g0 231 8).toInt from by omega) ((congrArg Int32.toInt (e2282)).trans rfl) ((congrArg Int32.toInt (e2280)).trans (show x2273.toInt = x2273.toInt from by omega)) (show wth _ = _ from congrArg Int64.toInt (rfl)) q2288 ⟨by omega, show _ ≤ (gI g0 231 8).toInt from by omega⟩ (fun hz => by first | (have hz2 : x2273.toInt < (gI g0 231 8).toInt := hz; exfalso; omega))⟩⟩
            · have c2293_ : x2273.toInt < v1.toInt := en_i_ge_f c2293
              refine At.enter rfl ?_
              refine r_aload_n e2283 ?_
              refine q_getR (Sh.ref hI2275.1 kx_231 rfl) ?_
              refine r_aload_n e2283 ?_
              refine q_getI (Sh.int hI2275.1 kx_231 rfl) x2273 e2280 ?_
              obtain ⟨v2303, hv2303⟩ : ∃ v, eA g0 236 x2273.toInt = v := ⟨_, rfl⟩
              have tv2303 := congrArg Int32.toInt hv2303
              refine q_iald (Sh.arr hI2275.1 ka_236) x2273.toInt rfl (by omega) v2303 ((eA_c (hF2276.2.1 236 (by decide))).trans hv2303) ?_
              refine q_inlS 274 rfl [.int v2303] [] (Nat.le_of_ble_eq_true rfl) rfl ?_
              refine Ev.mk rfl rfl ⟨Nat.le_of_ble_eq_true rfl, Or.inl rfl⟩ ?_
              show At _ none _ _ (0, [(0, .int v2303)], [], (_, _)) _
              refine At.enter rfl ?_
              refine r_iload_n rfl ?_
              refine r_bipush 48 rfl ?_
              refine r_ics 6 rfl (fun c2304 => ?_) (fun c2304 => ?_)
              · have c2304_ : v2303.toInt < 48 := en_i_lt_t c2304
                refine At.enter rfl ?_
                refine r_iconst 0 rfl ?_
                refine Ar.fall 17 rfl ?_
                refine At.enter rfl ?_
                refine q_iretz (by decide) ?_
                refine At.enter rfl ?_
                refine r_ift (by decide) ?_
                refine At.enter rfl ?_
                refine r_vret ?_
                have x2305 := HI.eqI hI2275 (p := 231) (b := 8) (((hF2276.1 231 8 (by decide)).trans hv1))
                have x2306 := HI.eqI hI2275 (p := 231) (b := 9) (e2281)
                have x2307 := HI.eqI hI2275 (p := 231) (b := 10) (e2280)
                have x2308 := HI.eqI hI2275 (p := 231) (b := 11) (e2282)
                have zv2309 : (2 : Int32).toInt = 2 := rfl
                obtain ⟨v2310, hv2310⟩ : ∃ v, gJ g2274 231 12 = v := ⟨_, rfl⟩
                have tv2310 := congrArg Int64.toInt hv2310
                have x2311 := HI.eqJ hI2275 (b := 12) (hv2310)
                exact ⟨_, rfl, hI2275, hF2276, rfl, ⟨by omega, by omega, by omega, by omega, by omega, by show (gI _ 231 11).toInt = 1 → (gI _ 231 10).toInt ≤ (gI _ 231 9).toInt + 1 → (gJ _ 231 12).toInt ≤ 26; omega, NEXT.d (hF2276.2.1 236 (by decide)) (hF2276.1 231 8 (by decide)) (congrArg Int32.toInt (e2281)) (by omega) (by omega) (show _ ≤ (gI g0 231 8).toInt from by omega) (fun j a b => q2201 j a (by omega)) (fun hz => by show (eA g0 236 x2189.toInt).toInt ≠ 32; rw [show (x2189.toInt : Int) = x2189.toInt from by omega, hv2212]; omega) (show _ < (gI g0 231 8).toInt from by omega) ((congrArg Int32.toInt (e2282)).trans rfl) ((congrArg Int32.toInt (e2280)).trans (show x2273.toInt = x2273.toInt from by omega)) (show wth _ = _ from congrArg Int64.toInt (rfl)) q2288 ⟨by omega, show _ ≤ (gI g0 231 8).toInt from by omega⟩ (fun hz => by first | (have hz2 : x2273.toInt < (gI g0 231 8).toInt := hz; exfalso; omega) | (unfold dgP TM; rw [hv2303]; omega))⟩⟩
              · have c2304_ : v2303.toInt ≥ 48 := en_i_lt_f c2304
                refine At.enter rfl ?_
                refine r_iload_n rfl ?_
                refine r_bipush 57 rfl ?_
                refine r_ics 12 rfl (fun c2313 => ?_) (fun c2313 => ?_)
                · have c2313_ : v2303.toInt > 57 := en_i_gt_t c2313
                  refine At.enter rfl ?_
                  refine r_iconst 0 rfl ?_
                  refine Ar.fall 17 rfl ?_
                  refine At.enter rfl ?_
                  refine q_iretz (by decide) ?_
                  refine At.enter rfl ?_
                  refine r_ift (by decide) ?_
                  refine At.enter rfl ?_
                  refine r_vret ?_
                  have x2314 := HI.eqI hI2275 (p := 231) (b := 8) (((hF2276.1 231 8 (by decide)).trans hv1))
                  have x2315 := HI.eqI hI2275 (p := 231) (b := 9) (e2281)
                  have x2316 := HI.eqI hI2275 (p := 231) (b := 10) (e2280)
                  have x2317 := HI.eqI hI2275 (p := 231) (b := 11) (e2282)
                  have zv2318 : (2 : Int32).toInt = 2 := rfl
                  obtain ⟨v2319, hv2319⟩ : ∃ v, gJ g2274 231 12 = v := ⟨_, rfl⟩
                  have tv2319 := congrArg Int64.toInt hv2319
                  have x2320 := HI.eqJ hI2275 (b := 12) (hv2319)
                  exact ⟨_, rfl, hI2275, hF2276, rfl, ⟨by omega, by omega, by omega, by omega, by omega, by show (gI _ 231 11).toInt = 1 → (gI _ 231 10).toInt ≤ (gI _ 231 9).toInt + 1 → (gJ _ 231 12).toInt ≤ 26; omega, NEXT.d (hF2276.2.1 236 (by decide)) (hF2276.1 231 8 (by decide)) (congrArg Int32.toInt (e2281)) (by omega) (by omega) (show _ ≤ (gI g0 231 8).toInt from by omega) (fun j a b => q2201 j a (by omega)) (fun hz => by show (eA g0 236 x2189.toInt).toInt ≠ 32; rw [show (x2189.toInt : Int) = x2189.toInt from by omega, hv2212]; omega) (show _ < (gI g0 231 8).toInt from by omega) ((congrArg Int32.toInt (e2282)).trans rfl) ((congrArg Int32.toInt (e2280)).trans (show x2273.toInt = x2273.toInt from by omega)) (show wth _ = _ from congrArg Int64.toInt (rfl)) q2288 ⟨by omega, show _ ≤ (gI g0 231 8).toInt from by omega⟩ (fun hz => by first | (have hz2 : x2273.toInt < (gI g0 231 8).toInt := hz; exfalso; omega) | (unfold dgP TM; rw [hv2303]; omega))⟩⟩
                · have c2313_ : v2303.toInt ≤ 57 := en_i_gt_f c2313
                  refine At.enter rfl ?_
                  refine r_iconst 1 rfl ?_
                  refine r_goto ?_
                  refine At.enter rfl ?_
                  refine q_iretz (by decide) ?_
                  refine At.enter rfl ?_
                  refine r_iff 277 rfl (by decide) ?_
                  refine At.enter rfl ?_
                  refine r_aload_n e2283 ?_
                  refine r_aload_n e2283 ?_
                  obtain ⟨v2322, hv2322⟩ : ∃ v, gJ g2274 231 12 = v := ⟨_, rfl⟩
                  have tv2322 := congrArg Int64.toInt hv2322
                  refine q_getJv (Sh.long hI2275.1 kx_231 rfl) v2322 hv2322 ?_
                  refine r_ldc2 1000000 rfl ?_
                  refine r_lcmp _ rfl ?_
                  refine r_ifs 289 rfl (fun c2323 => ?_) (fun c2323 => ?_)
                  · have c2323_ : v2322.toInt ≤ 1000000 := en_j_le_t c2323
                    refine At.enter rfl ?_
                    refine r_aload_n e2283 ?_
                    refine q_getJv (Sh.long hI2275.1 kx_231 rfl) v2322 hv2322 ?_
                    refine r_ldc2 10 rfl ?_
                    refine q_lmulO (fun v2324 lv2324 => ?_)
                    have kv2324 := l_mul lv2324
                    have zv2325 : (10 : Int64).toInt = 10 := rfl
                    refine r_aload_n e2283 ?_
                    refine q_getR (Sh.ref hI2275.1 kx_231 rfl) ?_
                    refine r_aload_n e2283 ?_
                    refine q_getI (Sh.int hI2275.1 kx_231 rfl) x2273 e2280 ?_
                    refine q_iald (Sh.arr hI2275.1 ka_236) x2273.toInt rfl (by omega) v2303 ((eA_c (hF2276.2.1 236 (by decide))).trans hv2303) ?_
                    refine q_i2l (fun v2326 hv2326 => ?_)
                    refine q_laddO (fun v2327 lv2327 => ?_)
                    have kv2327 := l_add lv2327
                    refine r_ldc2 48 rfl ?_
                    refine q_lsubO (fun v2328 lv2328 => ?_)
                    have kv2328 := l_sub lv2328
                    have zv2329 : (48 : Int64).toInt = 48 := rfl
                    refine Ar.fall 319 rfl ?_
                    refine At.enter rfl ?_
                    refine q_putJ (Sh.long hI2275.1 kx_231 rfl) rfl ?_
                    have hI2330 := HI.wJ hI2275 kx_231 rfl (p := 231) (b := 12) (v := v2328)
                    have hF2331 := Fr.wJ (p := 231) (b := 12) (v := v2328) hF2276 rfl
                    refine r_aload_n e2283 ?_
                    refine r_dup rfl ?_
                    refine q_getI (Sh.int hI2330.1 kx_231 rfl) x2273 ((gI_sJ_ne (by decide)).trans e2280) ?_
                    refine r_iconst 1 rfl ?_
                    refine q_iadd (x2273.toInt + 1) rfl (by omega) (fun v2332 hv2332 => ?_)
                    refine q_putI (Sh.int hI2330.1 kx_231 rfl) rfl ?_
                    have hI2333 := HI.wI1 hI2330 kx_231 rfl (p := 231) (b := 10) (v := v2332) rfl (by dsimp only; omega)
                    have hF2334 := Fr.wI (p := 231) (b := 10) (v := v2332) hF2331 rfl
                    refine r_goto ?_
                    exact ih2279 (400 - v2332.toInt) _ _ ⟨v2332, by first | rfl | omega, hI2333, hF2334, (gI_sI_eq hI2330.1 kx_231 rfl _), (((gI_sI_ne (by decide)).trans (gI_sJ_ne (by decide))).trans e2281), (((gI_sI_ne (by decide)).trans (gI_sJ_ne (by decide))).trans e2282), e2283, by omega, by omega, by omega, (fun h => absurd h (by omega)), (by rw [show (gJ _ 231 12).toInt = v2328.toInt from congrArg Int64.toInt (((gJ_sI_ne (by decide)).trans (gJ_sJ_eq hI2275.1 kx_231 rfl _)))]; exact DLI.st (show DLI g0 _ _ v2322.toInt from by rw [← hv2322]; exact q2288) (by omega) (show dgP (TM g0 x2273.toInt) from by unfold dgP TM; rw [hv2303]; omega) (show v2332.toInt = x2273.toInt + 1 from by omega) (by omega) rfl lv2324 (hv2326.trans (congrArg Int32.toInt hv2303).symm) lv2327 rfl lv2328)⟩ ⟨by omega, by omega⟩
                  · have c2323_ : v2322.toInt > 1000000 := en_j_le_f c2323
                    refine At.enter rfl ?_
                    refine r_aload_n e2283 ?_
                    refine q_getJv (Sh.long hI2275.1 kx_231 rfl) v2322 hv2322 ?_
                    refine r_goto ?_
                    refine At.enter rfl ?_
                    refine q_putJ (Sh.long hI2275.1 kx_231 rfl) rfl ?_
                    have hI2335 := HI.wJ hI2275 kx_231 rfl (p := 231) (b := 12) (v := v2322)
                    have hF2336 := Fr.wJ (p := 231) (b := 12) (v := v2322) hF2276 rfl
                    refine r_aload_n e2283 ?_
                    refine r_dup rfl ?_
                    refine q_getI (Sh.int hI2335.1 kx_231 rfl) x2273 ((gI_sJ_ne (by decide)).trans e2280) ?_
                    refine r_iconst 1 rfl ?_
                    refine q_iadd (x2273.toInt + 1) rfl (by omega) (fun v2337 hv2337 => ?_)
                    refine q_putI (Sh.int hI2335.1 kx_231 rfl) rfl ?_
                    have hI2338 := HI.wI1 hI2335 kx_231 rfl (p := 231) (b := 10) (v := v2337) rfl (by dsimp only; omega)
                    have hF2339 := Fr.wI (p := 231) (b := 10) (v := v2337) hF2336 rfl
                    refine r_goto ?_
                    exact ih2279 (400 - v2337.toInt) _ _ ⟨v2337, by first | rfl | omega, hI2338, hF2339, (gI_sI_eq hI2335.1 kx_231 rfl _), (((gI_sI_ne (by decide)).trans (gI_sJ_ne (by decide))).trans e2281), (((gI_sI_ne (by decide)).trans (gI_sJ_ne (by decide))).trans e2282), e2283, by omega, by omega, by omega, (fun h => absurd h (by omega)), (by rw [show (gJ _ 231 12).toInt = v2322.toInt from congrArg Int64.toInt (((gJ_sI_ne (by decide)).trans (gJ_sJ_eq hI2275.1 kx_231 rfl _)))]; exact DLI.st2 (show DLI g0 _ _ v2322.toInt from by rw [← hv2322]; exact q2288) (by omega) (show dgP (TM g0 x2273.toInt) from by unfold dgP TM; rw [hv2303]; omega) (show v2337.toInt = x2273.toInt + 1 from by omega) (by omega) rfl)⟩ ⟨by omega, by omega⟩
      · have c2213_ : v2212.toInt ≥ 97 := en_i_lt_f c2213
        refine At.enter rfl ?_
        refine r_iload_n rfl ?_
        refine r_bipush 122 rfl ?_
        refine r_ics 12 rfl (fun c2340 => ?_) (fun c2340 => ?_)
        · have c2340_ : v2212.toInt > 122 := en_i_gt_t c2340
          refine At.enter rfl ?_
          refine r_iconst 0 rfl ?_
          refine Ar.fall 17 rfl ?_
          refine At.enter rfl ?_
          refine q_iretz (by decide) ?_
          refine At.enter rfl ?_
          refine r_ift (by decide) ?_
          refine At.enter rfl ?_
          refine r_aload_n e2197 ?_
          refine q_getR (Sh.ref hI2209.1 kx_231 rfl) ?_
          refine r_aload_n e2197 ?_
          refine q_getI (Sh.int hI2209.1 kx_231 rfl) x2189 (((gI_sJ_ne (by decide)).trans (gI_sI_ne (by decide))).trans e2196) ?_
          refine q_iald (Sh.arr hI2209.1 ka_236) x2189.toInt rfl (by omega) v2212 ((eA_c ((gA_sJ).trans ((gA_sI).trans (hF2192.2.1 236 (by decide))))).trans hv2212) ?_
          refine q_inlS 106 rfl [.int v2212] [.ref 231] (Nat.le_of_ble_eq_true rfl) rfl ?_
          refine Ev.mk rfl rfl ⟨Nat.le_of_ble_eq_true rfl, Or.inl rfl⟩ ?_
          show At _ none _ _ (0, [(0, .int v2212)], [], (_, _)) _
          refine At.enter rfl ?_
          refine r_iload_n rfl ?_
          refine r_bipush 48 rfl ?_
          refine r_ics 6 rfl (fun c2341 => ?_) (fun c2341 => ?_)
          · have c2341_ : v2212.toInt < 48 := en_i_lt_t c2341
            exfalso; omega
          · have c2341_ : v2212.toInt ≥ 48 := en_i_lt_f c2341
            refine At.enter rfl ?_
            refine r_iload_n rfl ?_
            refine r_bipush 57 rfl ?_
            refine r_ics 12 rfl (fun c2342 => ?_) (fun c2342 => ?_)
            · have c2342_ : v2212.toInt > 57 := en_i_gt_t c2342
              refine At.enter rfl ?_
              refine r_iconst 0 rfl ?_
              refine Ar.fall 17 rfl ?_
              refine At.enter rfl ?_
              refine q_iretz (by decide) ?_
              refine At.enter rfl ?_
              refine r_ift (by decide) ?_
              refine At.enter rfl ?_
              refine r_iconst 3 rfl ?_
              refine Ar.fall 114 rfl ?_
              refine At.enter rfl ?_
              refine q_putI (Sh.int hI2209.1 kx_231 rfl) rfl ?_
              have hI2343 := HI.wI0 hI2209 kx_231 rfl (p := 231) (b := 11) (v := 3) rfl
              have hF2344 := Fr.wI (p := 231) (b := 11) (v := 3) hF2210 rfl
              refine r_aload_n e2197 ?_
              refine q_getI (Sh.int hI2343.1 kx_231 rfl) 3 (gI_sI_eq hI2209.1 kx_231 rfl _) ?_
              refine r_iconst 3 rfl ?_
              refine r_icf 125 rfl (by decide) ?_
              refine At.enter rfl ?_
              refine r_aload_n e2197 ?_
              refine r_aload_n e2197 ?_
              refine q_getR (Sh.ref hI2343.1 kx_231 rfl) ?_
              refine r_aload_n e2197 ?_
              refine q_getI (Sh.int hI2343.1 kx_231 rfl) x2189 (((gI_sI_ne (by decide)).trans ((gI_sJ_ne (by decide)).trans (gI_sI_ne (by decide)))).trans e2196) ?_
              refine q_iald (Sh.arr hI2343.1 ka_236) x2189.toInt rfl (by omega) v2212 ((eA_c ((gA_sI).trans ((gA_sJ).trans ((gA_sI).trans (hF2192.2.1 236 (by decide)))))).trans hv2212) ?_
              refine q_i2l (fun v2345 hv2345 => ?_)
              refine q_putJ (Sh.long hI2343.1 kx_231 rfl) rfl ?_
              have hI2346 := HI.wJ hI2343 kx_231 rfl (p := 231) (b := 12) (v := v2345)
              have hF2347 := Fr.wJ (p := 231) (b := 12) (v := v2345) hF2344 rfl
              refine r_aload_n e2197 ?_
              refine r_dup rfl ?_
              refine q_getI (Sh.int hI2346.1 kx_231 rfl) x2189 ((gI_sJ_ne (by decide)).trans ((gI_sI_ne (by decide)).trans ((gI_sJ_ne (by decide)).trans (gI_sI_eq hI2191.1 kx_231 rfl _)))) ?_
              refine r_iconst 1 rfl ?_
              refine q_iadd (x2189.toInt + 1) rfl (by omega) (fun v2348 hv2348 => ?_)
              refine q_putI (Sh.int hI2346.1 kx_231 rfl) rfl ?_
              have hI2349 := HI.wI1 hI2346 kx_231 rfl (p := 231) (b := 10) (v := v2348) rfl (by dsimp only; omega)
              have hF2350 := Fr.wI (p := 231) (b := 10) (v := v2348) hF2347 rfl
              refine Ar.fall 149 rfl ?_
              refine At.enter rfl ?_
              refine r_aload_n e2197 ?_
              refine q_getI (Sh.int hI2349.1 kx_231 rfl) 3 ((gI_sI_ne (by decide)).trans ((gI_sJ_ne (by decide)).trans (gI_sI_eq hI2209.1 kx_231 rfl _))) ?_
              refine r_iconst 1 rfl ?_
              refine r_ict (by decide) ?_
              refine At.enter rfl ?_
              refine r_aload_n e2197 ?_
              refine q_getI (Sh.int hI2349.1 kx_231 rfl) 3 ((gI_sI_ne (by decide)).trans ((gI_sJ_ne (by decide)).trans (gI_sI_eq hI2209.1 kx_231 rfl _))) ?_
              refine r_iconst 2 rfl ?_
              refine r_ict (by decide) ?_
              refine At.enter rfl ?_
              refine r_vret ?_
              have x2351 := HI.eqI hI2349 (p := 231) (b := 8) ((((gI_sI_ne (by decide)).trans ((gI_sJ_ne (by decide)).trans ((gI_sI_ne (by decide)).trans ((gI_sJ_ne (by decide)).trans ((gI_sI_ne (by decide)).trans (hF2192.1 231 8 (by decide))))))).trans hv1))
              have x2352 := HI.eqI hI2349 (p := 231) (b := 9) ((((gI_sI_ne (by decide)).trans ((gI_sJ_ne (by decide)).trans ((gI_sI_ne (by decide)).trans ((gI_sJ_ne (by decide)).trans (gI_sI_ne (by decide)))))).trans e2196))
              have x2353 := HI.eqI hI2349 (p := 231) (b := 10) ((gI_sI_eq hI2346.1 kx_231 rfl _))
              have x2354 := HI.eqI hI2349 (p := 231) (b := 11) (((gI_sI_ne (by decide)).trans ((gI_sJ_ne (by decide)).trans (gI_sI_eq hI2209.1 kx_231 rfl _))))
              have zv2355 : (3 : Int32).toInt = 3 := rfl
              have x2356 := HI.eqJ hI2349 (b := 12) (((gJ_sI_ne (by decide)).trans (gJ_sJ_eq hI2343.1 kx_231 rfl _)))
              exact ⟨_, rfl, hI2349, hF2350, rfl, ⟨by omega, by omega, by omega, by omega, by omega, by show (gI _ 231 11).toInt = 1 → (gI _ 231 10).toInt ≤ (gI _ 231 9).toInt + 1 → (gJ _ 231 12).toInt ≤ 26; omega, NEXT.s ((gA_sI).trans ((gA_sJ).trans ((gA_sI).trans ((gA_sJ).trans ((gA_sI).trans (hF2192.2.1 236 (by decide))))))) ((gI_sI_ne (by decide)).trans ((gI_sJ_ne (by decide)).trans ((gI_sI_ne (by decide)).trans ((gI_sJ_ne (by decide)).trans ((gI_sI_ne (by decide)).trans (hF2192.1 231 8 (by decide))))))) (congrArg Int32.toInt ((((gI_sI_ne (by decide)).trans ((gI_sJ_ne (by decide)).trans ((gI_sI_ne (by decide)).trans ((gI_sJ_ne (by decide)).trans (gI_sI_ne (by decide)))))).trans e2196))) (by omega) (by omega) (show _ ≤ (gI g0 231 8).toInt from by omega) (fun j a b => q2201 j a (by omega)) (fun hz => by show (eA g0 236 x2189.toInt).toInt ≠ 32; rw [show (x2189.toInt : Int) = x2189.toInt from by omega, hv2212]; omega) (show _ < (gI g0 231 8).toInt from by omega) (by unfold smP TM; rw [show (x2189.toInt : Int) = x2189.toInt from by omega, hv2212]; omega) (by unfold dgP TM; rw [show (x2189.toInt : Int) = x2189.toInt from by omega, hv2212]; omega) ((congrArg Int32.toInt (((gI_sI_ne (by decide)).trans ((gI_sJ_ne (by decide)).trans (gI_sI_eq hI2209.1 kx_231 rfl _))))).trans rfl) ((congrArg Int32.toInt ((gI_sI_eq hI2346.1 kx_231 rfl _))).trans (show v2348.toInt = x2189.toInt + 1 from by omega)) ((congrArg Int64.toInt (((gJ_sI_ne (by decide)).trans (gJ_sJ_eq hI2343.1 kx_231 rfl _)))).trans (hv2345.trans (show TM g0 x2189.toInt = v2212.toInt from by unfold TM; rw [show (x2189.toInt : Int) = x2189.toInt from by omega, hv2212]).symm))⟩⟩
            · have c2342_ : v2212.toInt ≤ 57 := en_i_gt_f c2342
              exfalso; omega
        · have c2340_ : v2212.toInt ≤ 122 := en_i_gt_f c2340
          refine At.enter rfl ?_
          refine r_iconst 1 rfl ?_
          refine r_goto ?_
          refine At.enter rfl ?_
          refine q_iretz (by decide) ?_
          refine At.enter rfl ?_
          refine r_iff 90 rfl (by decide) ?_
          refine At.enter rfl ?_
          refine r_iconst 1 rfl ?_
          refine r_goto ?_
          refine At.enter rfl ?_
          refine q_putI (Sh.int hI2209.1 kx_231 rfl) rfl ?_
          have hI2358 := HI.wI0 hI2209 kx_231 rfl (p := 231) (b := 11) (v := 1) rfl
          have hF2359 := Fr.wI (p := 231) (b := 11) (v := 1) hF2210 rfl
          refine r_aload_n e2197 ?_
          refine q_getI (Sh.int hI2358.1 kx_231 rfl) 1 (gI_sI_eq hI2209.1 kx_231 rfl _) ?_
          refine r_iconst 3 rfl ?_
          refine r_ict (by decide) ?_
          refine w_loopI (fun n_ l_ g_ => ∃ x2386 : Int32, n_ = 400 - x2386.toInt ∧ HI g_ ∧ Fr F_X11_next_231 A_X11_next_231 g0 g_ ∧ gI g_ 231 10 = x2386 ∧ gI g_ 231 9 = x2189 ∧ gI g_ 231 11 = 1 ∧ en_get 0 l_ = some (.ref 231) ∧ (0 ≤ x2386.toInt ∧ x2386.toInt ≤ 400) ∧ (x2189.toInt ≤ x2386.toInt) ∧ (x2386.toInt ≤ (gI g0 231 8).toInt) ∧ ((x2386.toInt ≤ x2189.toInt → (gJ g_ 231 12).toInt = 0)) ∧ ((x2386.toInt ≤ x2189.toInt + 1 → (gJ g_ 231 12).toInt ≤ 26)) ∧ ((x2386.toInt ≤ x2189.toInt → (eA g0 236 x2386.toInt).toInt = v2212.toInt)) ∧ (WLI g0 x2189.toInt x2386.toInt ((gJ g_ 231 12).toInt))) ?_ (400 - x2189.toInt) ⟨x2189, by first | rfl | omega, hI2358, hF2359, ((gI_sI_ne (by decide)).trans ((gI_sJ_ne (by decide)).trans (gI_sI_eq hI2191.1 kx_231 rfl _))), (((gI_sI_ne (by decide)).trans ((gI_sJ_ne (by decide)).trans (gI_sI_ne (by decide)))).trans e2196), (gI_sI_eq hI2209.1 kx_231 rfl _), e2197, by omega, by omega, by omega, (by have jw := HI.eqJ hI2358 (b := 12) (((gJ_sI_ne (by decide)).trans (gJ_sJ_eq hI2207.1 kx_231 rfl _))); have jz : (0 : Int64).toInt = 0 := rfl; omega), (by have jw := HI.eqJ hI2358 (b := 12) (((gJ_sI_ne (by decide)).trans (gJ_sJ_eq hI2207.1 kx_231 rfl _))); have jz : (0 : Int64).toInt = 0 := rfl; omega), (fun _ => congrArg Int32.toInt hv2212), (WLI.z (by omega) (by have jw := HI.eqJ hI2358 (b := 12) (((gJ_sI_ne (by decide)).trans (gJ_sJ_eq hI2207.1 kx_231 rfl _))); have jz : (0 : Int64).toInt = 0 := rfl; omega))⟩
          rintro n2391 l2390 g2387 ⟨x2386, hm2404, hI2388, hF2389, e2393, e2394, e2395, e2396, r2397, q2398, q2399, q2400, q2401, q2402, q2403⟩ ih2392
          have tv2405 := congrArg Int32.toInt e2394
          have tv2406 := congrArg Int32.toInt e2395
          have tv2407 := congrArg Int32.toInt e2393
          refine At.enter rfl ?_
          refine r_aload_n e2396 ?_
          refine q_getI (Sh.int hI2388.1 kx_231 rfl) 1 e2395 ?_
          refine r_iconst 1 rfl ?_
          refine r_icf 157 rfl (by decide) ?_
          refine At.enter rfl ?_
          refine r_aload_n e2396 ?_
          refine q_getI (Sh.int hI2388.1 kx_231 rfl) x2386 e2393 ?_
          refine r_aload_n e2396 ?_
          refine q_getI (Sh.int hI2388.1 kx_231 rfl) v1 ((hF2389.1 231 8 (by decide)).trans hv1) ?_
          have bv2409 := q_bnd x2386
          refine r_ics 168 rfl (fun c2408 => ?_) (fun c2408 => ?_)
          · have c2408_ : x2386.toInt ≥ v1.toInt := en_i_ge_t c2408
            refine At.enter rfl ?_
            refine r_aload_n e2396 ?_
            refine q_getI (Sh.int hI2388.1 kx_231 rfl) 1 e2395 ?_
            refine r_iconst 2 rfl ?_
            refine r_ict (by decide) ?_
            refine At.enter rfl ?_
            refine r_vret ?_
            have x2410 := HI.eqI hI2388 (p := 231) (b := 8) (((hF2389.1 231 8 (by decide)).trans hv1))
            have x2411 := HI.eqI hI2388 (p := 231) (b := 9) (e2394)
            have x2412 := HI.eqI hI2388 (p := 231) (b := 10) (e2393)
            have x2413 := HI.eqI hI2388 (p := 231) (b := 11) (e2395)
            have zv2414 : (1 : Int32).toInt = 1 := rfl
            obtain ⟨v2415, hv2415⟩ : ∃ v, gJ g2387 231 12 = v := ⟨_, rfl⟩
            have tv2415 := congrArg Int64.toInt hv2415
            have x2416 := HI.eqJ hI2388 (b := 12) (hv2415)
            exact ⟨_, rfl, hI2388, hF2389, rfl, ⟨by omega, by omega, by omega, by omega, by omega, by show (gI _ 231 11).toInt = 1 → (gI _ 231 10).toInt ≤ (gI _ 231 9).toInt + 1 → (gJ _ 231 12).toInt ≤ 26; omega, NEXT.wo (hF2389.2.1 236 (by decide)) (hF2389.1 231 8 (by decide)) (congrArg Int32.toInt (e2394)) (by omega) (by omega) (show _ ≤ (gI g0 231 8).toInt from by omega) (fun j a b => q2201 j a (by omega)) (fun hz => by show (eA g0 236 x2189.toInt).toInt ≠ 32; rw [show (x2189.toInt : Int) = x2189.toInt from by omega, hv2212]; omega) (show _ < (gI g0 231 8).toInt from by omega) ((congrArg Int32.toInt (e2395)).trans rfl) ((congrArg Int32.toInt (e2393)).trans (show x2386.toInt = x2386.toInt from by omega)) (show wth _ = _ from congrArg Int64.toInt (rfl)) q2403 ⟨by omega, show _ ≤ (gI g0 231 8).toInt from by omega⟩ (fun hz => by first | (have hz2 : x2386.toInt < (gI g0 231 8).toInt := hz; exfalso; omega))⟩⟩
          · have c2408_ : x2386.toInt < v1.toInt := en_i_ge_f c2408
            refine At.enter rfl ?_
            refine r_aload_n e2396 ?_
            refine q_getR (Sh.ref hI2388.1 kx_231 rfl) ?_
            refine r_aload_n e2396 ?_
            refine q_getI (Sh.int hI2388.1 kx_231 rfl) x2386 e2393 ?_
            obtain ⟨v2418, hv2418⟩ : ∃ v, eA g0 236 x2386.toInt = v := ⟨_, rfl⟩
            have tv2418 := congrArg Int32.toInt hv2418
            refine q_iald (Sh.arr hI2388.1 ka_236) x2386.toInt rfl (by omega) v2418 ((eA_c (hF2389.2.1 236 (by decide))).trans hv2418) ?_
            refine q_inlS 180 rfl [.int v2418] [] (Nat.le_of_ble_eq_true rfl) rfl ?_
            refine Ev.mk rfl rfl ⟨Nat.le_of_ble_eq_true rfl, Or.inl rfl⟩ ?_
            show At _ none _ _ (0, [(0, .int v2418)], [], (_, _)) _
            refine At.enter rfl ?_
            refine r_iload_n rfl ?_
            refine r_bipush 97 rfl ?_
            refine r_ics 6 rfl (fun c2419 => ?_) (fun c2419 => ?_)
            · have c2419_ : v2418.toInt < 97 := en_i_lt_t c2419
              refine At.enter rfl ?_
              refine r_iconst 0 rfl ?_
              refine Ar.fall 17 rfl ?_
              refine At.enter rfl ?_
              refine q_iretz (by decide) ?_
              refine At.enter rfl ?_
              refine r_ift (by decide) ?_
              refine At.enter rfl ?_
              refine r_aload_n e2396 ?_
              refine q_getI (Sh.int hI2388.1 kx_231 rfl) 1 e2395 ?_
              refine r_iconst 2 rfl ?_
              refine r_ict (by decide) ?_
              refine At.enter rfl ?_
              refine r_vret ?_
              have x2420 := HI.eqI hI2388 (p := 231) (b := 8) (((hF2389.1 231 8 (by decide)).trans hv1))
              have x2421 := HI.eqI hI2388 (p := 231) (b := 9) (e2394)
              have x2422 := HI.eqI hI2388 (p := 231) (b := 10) (e2393)
              have x2423 := HI.eqI hI2388 (p := 231) (b := 11) (e2395)
              have zv2424 : (1 : Int32).toInt = 1 := rfl
              obtain ⟨v2425, hv2425⟩ : ∃ v, gJ g2387 231 12 = v := ⟨_, rfl⟩
              have tv2425 := congrArg Int64.toInt hv2425
              have x2426 := HI.eqJ hI2388 (b := 12) (hv2425)
              exact ⟨_, rfl, hI2388, hF2389, rfl, ⟨by omega, by omega, by omega, by omega, by omega, by show (gI _ 231 11).toInt = 1 → (gI _ 231 10).toInt ≤ (gI _ 231 9).toInt + 1 → (gJ _ 231 12).toInt ≤ 26; omega, NEXT.wo (hF2389.2.1 236 (by decide)) (hF2389.1 231 8 (by decide)) (congrArg Int32.toInt (e2394)) (by omega) (by omega) (show _ ≤ (gI g0 231 8).toInt from by omega) (fun j a b => q2201 j a (by omega)) (fun hz => by show (eA g0 236 x2189.toInt).toInt ≠ 32; rw [show (x2189.toInt : Int) = x2189.toInt from by omega, hv2212]; omega) (show _ < (gI g0 231 8).toInt from by omega) ((congrArg Int32.toInt (e2395)).trans rfl) ((congrArg Int32.toInt (e2393)).trans (show x2386.toInt = x2386.toInt from by omega)) (show wth _ = _ from congrArg Int64.toInt (rfl)) q2403 ⟨by omega, show _ ≤ (gI g0 231 8).toInt from by omega⟩ (fun hz => by first | (have hz2 : x2386.toInt < (gI g0 231 8).toInt := hz; exfalso; omega) | (unfold smP TM; rw [hv2418]; omega))⟩⟩
            · have c2419_ : v2418.toInt ≥ 97 := en_i_lt_f c2419
              refine At.enter rfl ?_
              refine r_iload_n rfl ?_
              refine r_bipush 122 rfl ?_
              refine r_ics 12 rfl (fun c2428 => ?_) (fun c2428 => ?_)
              · have c2428_ : v2418.toInt > 122 := en_i_gt_t c2428
                refine At.enter rfl ?_
                refine r_iconst 0 rfl ?_
                refine Ar.fall 17 rfl ?_
                refine At.enter rfl ?_
                refine q_iretz (by decide) ?_
                refine At.enter rfl ?_
                refine r_ift (by decide) ?_
                refine At.enter rfl ?_
                refine r_aload_n e2396 ?_
                refine q_getI (Sh.int hI2388.1 kx_231 rfl) 1 e2395 ?_
                refine r_iconst 2 rfl ?_
                refine r_ict (by decide) ?_
                refine At.enter rfl ?_
                refine r_vret ?_
                have x2429 := HI.eqI hI2388 (p := 231) (b := 8) (((hF2389.1 231 8 (by decide)).trans hv1))
                have x2430 := HI.eqI hI2388 (p := 231) (b := 9) (e2394)
                have x2431 := HI.eqI hI2388 (p := 231) (b := 10) (e2393)
                have x2432 := HI.eqI hI2388 (p := 231) (b := 11) (e2395)
                have zv2433 : (1 : Int32).toInt = 1 := rfl
                obtain ⟨v2434, hv2434⟩ : ∃ v, gJ g2387 231 12 = v := ⟨_, rfl⟩
                have tv2434 := congrArg Int64.toInt hv2434
                have x2435 := HI.eqJ hI2388 (b := 12) (hv2434)
                exact ⟨_, rfl, hI2388, hF2389, rfl, ⟨by omega, by omega, by omega, by omega, by omega, by show (gI _ 231 11).toInt = 1 → (gI _ 231 10).toInt ≤ (gI _ 231 9).toInt + 1 → (gJ _ 231 12).toInt ≤ 26; omega, NEXT.wo (hF2389.2.1 236 (by decide)) (hF2389.1 231 8 (by decide)) (congrArg Int32.toInt (e2394)) (by omega) (by omega) (show _ ≤ (gI g0 231 8).toInt from by omega) (fun j a b => q2201 j a (by omega)) (fun hz => by show (eA g0 236 x2189.toInt).toInt ≠ 32; rw [show (x2189.toInt : Int) = x2189.toInt from by omega, hv2212]; omega) (show _ < (gI g0 231 8).toInt from by omega) ((congrArg Int32.toInt (e2395)).trans rfl) ((congrArg Int32.toInt (e2393)).trans (show x2386.toInt = x2386.toInt from by omega)) (show wth _ = _ from congrArg Int64.toInt (rfl)) q2403 ⟨by omega, show _ ≤ (gI g0 231 8).toInt from by omega⟩ (fun hz => by first | (have hz2 : x2386.toInt < (gI g0 231 8).toInt := hz; exfalso; omega) | (unfold smP TM; rw [hv2418]; omega))⟩⟩
              · have c2428_ : v2418.toInt ≤ 122 := en_i_gt_f c2428
                refine At.enter rfl ?_
                refine r_iconst 1 rfl ?_
                refine r_goto ?_
                refine At.enter rfl ?_
                refine q_iretz (by decide) ?_
                refine At.enter rfl ?_
                refine r_iff 183 rfl (by decide) ?_
                refine At.enter rfl ?_
                refine r_aload_n e2396 ?_
                refine r_aload_n e2396 ?_
                refine q_getI (Sh.int hI2388.1 kx_231 rfl) x2386 e2393 ?_
                refine r_aload_n e2396 ?_
                refine q_getI (Sh.int hI2388.1 kx_231 rfl) x2189 e2394 ?_
                refine q_isub (x2386.toInt - x2189.toInt) rfl (by omega) (fun v2437 hv2437 => ?_)
                refine r_bipush 10 rfl ?_
                refine r_ics 198 rfl (fun c2438 => ?_) (fun c2438 => ?_)
                · have c2438_ : v2437.toInt ≥ 10 := en_i_ge_t c2438
                  refine At.enter rfl ?_
                  refine r_ldc2 (-1) rfl ?_
                  refine Ar.fall 227 rfl ?_
                  refine At.enter rfl ?_
                  refine q_putJ (Sh.long hI2388.1 kx_231 rfl) rfl ?_
                  have hI2439 := HI.wJ hI2388 kx_231 rfl (p := 231) (b := 12) (v := (-1))
                  have hF2440 := Fr.wJ (p := 231) (b := 12) (v := (-1)) hF2389 rfl
                  refine r_aload_n e2396 ?_
                  refine r_dup rfl ?_
                  refine q_getI (Sh.int hI2439.1 kx_231 rfl) x2386 ((gI_sJ_ne (by decide)).trans e2393) ?_
                  refine r_iconst 1 rfl ?_
                  refine q_iadd (x2386.toInt + 1) rfl (by omega) (fun v2441 hv2441 => ?_)
                  refine q_putI (Sh.int hI2439.1 kx_231 rfl) rfl ?_
                  have hI2442 := HI.wI1 hI2439 kx_231 rfl (p := 231) (b := 10) (v := v2441) rfl (by dsimp only; omega)
                  have hF2443 := Fr.wI (p := 231) (b := 10) (v := v2441) hF2440 rfl
                  refine r_goto ?_
                  exact ih2392 (400 - v2441.toInt) _ _ ⟨v2441, by first | rfl | omega, hI2442, hF2443, (gI_sI_eq hI2439.1 kx_231 rfl _), (((gI_sI_ne (by decide)).trans (gI_sJ_ne (by decide))).trans e2394), (((gI_sI_ne (by decide)).trans (gI_sJ_ne (by decide))).trans e2395), e2396, by omega, by omega, by omega, (by have jw := HI.eqJ hI2442 (b := 12) (((gJ_sI_ne (by decide)).trans (gJ_sJ_eq hI2388.1 kx_231 rfl _))); have jz : ((-1) : Int64).toInt = (-1) := rfl; omega), (by have jw := HI.eqJ hI2442 (b := 12) (((gJ_sI_ne (by decide)).trans (gJ_sJ_eq hI2388.1 kx_231 rfl _))); have jz : ((-1) : Int64).toInt = (-1) := rfl; omega), (fun h => absurd h (by omega)), (by rw [show (gJ _ 231 12).toInt = ((-1) : Int64).toInt from congrArg Int64.toInt (((gJ_sI_ne (by decide)).trans (gJ_sJ_eq hI2388.1 kx_231 rfl _)))]; exact WLI.st2 q2403 (show smP (TM g0 x2386.toInt) from by unfold smP TM; rw [hv2418]; omega) (show v2441.toInt = x2386.toInt + 1 from by omega) (by omega) rfl)⟩ ⟨by omega, by omega⟩
                · have c2438_ : v2437.toInt < 10 := en_i_ge_f c2438
                  refine At.enter rfl ?_
                  refine r_aload_n e2396 ?_
                  obtain ⟨v2444, hv2444⟩ : ∃ v, gJ g2387 231 12 = v := ⟨_, rfl⟩
                  have tv2444 := congrArg Int64.toInt hv2444
                  refine q_getJv (Sh.long hI2388.1 kx_231 rfl) v2444 hv2444 ?_
                  refine r_ldc2 32 rfl ?_
                  refine q_lmulO (fun v2445 lv2445 => ?_)
                  have kv2445 := l_mul lv2445
                  have zv2446 : (32 : Int64).toInt = 32 := rfl
                  refine r_aload_n e2396 ?_
                  refine q_getR (Sh.ref hI2388.1 kx_231 rfl) ?_
                  refine r_aload_n e2396 ?_
                  refine q_getI (Sh.int hI2388.1 kx_231 rfl) x2386 e2393 ?_
                  refine q_iald (Sh.arr hI2388.1 ka_236) x2386.toInt rfl (by omega) v2418 ((eA_c (hF2389.2.1 236 (by decide))).trans hv2418) ?_
                  refine q_i2l (fun v2447 hv2447 => ?_)
                  refine q_laddO (fun v2448 lv2448 => ?_)
                  have kv2448 := l_add lv2448
                  refine r_ldc2 96 rfl ?_
                  refine q_lsubO (fun v2449 lv2449 => ?_)
                  have kv2449 := l_sub lv2449
                  have zv2450 : (96 : Int64).toInt = 96 := rfl
                  refine r_goto ?_
                  refine At.enter rfl ?_
                  refine q_putJ (Sh.long hI2388.1 kx_231 rfl) rfl ?_
                  have hI2451 := HI.wJ hI2388 kx_231 rfl (p := 231) (b := 12) (v := v2449)
                  have hF2452 := Fr.wJ (p := 231) (b := 12) (v := v2449) hF2389 rfl
                  refine r_aload_n e2396 ?_
                  refine r_dup rfl ?_
                  refine q_getI (Sh.int hI2451.1 kx_231 rfl) x2386 ((gI_sJ_ne (by decide)).trans e2393) ?_
                  refine r_iconst 1 rfl ?_
                  refine q_iadd (x2386.toInt + 1) rfl (by omega) (fun v2453 hv2453 => ?_)
                  refine q_putI (Sh.int hI2451.1 kx_231 rfl) rfl ?_
                  have hI2454 := HI.wI1 hI2451 kx_231 rfl (p := 231) (b := 10) (v := v2453) rfl (by dsimp only; omega)
                  have hF2455 := Fr.wI (p := 231) (b := 10) (v := v2453) hF2452 rfl
                  refine r_goto ?_
                  exact ih2392 (400 - v2453.toInt) _ _ ⟨v2453, by first | rfl | omega, hI2454, hF2455, (gI_sI_eq hI2451.1 kx_231 rfl _), (((gI_sI_ne (by decide)).trans (gI_sJ_ne (by decide))).trans e2394), (((gI_sI_ne (by decide)).trans (gI_sJ_ne (by decide))).trans e2395), e2396, by omega, by omega, by omega, (by have jw := HI.eqJ hI2454 (b := 12) (((gJ_sI_ne (by decide)).trans (gJ_sJ_eq hI2388.1 kx_231 rfl _))); omega), (by have jw := HI.eqJ hI2454 (b := 12) (((gJ_sI_ne (by decide)).trans (gJ_sJ_eq hI2388.1 kx_231 rfl _))); omega), (fun h => absurd h (by omega)), (by rw [show (gJ _ 231 12).toInt = v2449.toInt from congrArg Int64.toInt (((gJ_sI_ne (by decide)).trans (gJ_sJ_eq hI2388.1 kx_231 rfl _)))]; exact WLI.st (show WLI g0 _ _ v2444.toInt from by rw [← hv2444]; exact q2403) (by omega) (show smP (TM g0 x2386.toInt) from by unfold smP TM; rw [hv2418]; omega) (show v2453.toInt = x2386.toInt + 1 from by omega) (by omega) rfl lv2445 (hv2447.trans (congrArg Int32.toInt hv2418).symm) lv2448 rfl lv2449)⟩ ⟨by omega, by omega⟩
    · have c2211_ : x2189.toInt = v1.toInt := en_i_ne_f c2211
      refine At.enter rfl ?_
      refine r_iconst 0 rfl ?_
      refine r_goto ?_
      refine At.enter rfl ?_
      refine q_putI (Sh.int hI2209.1 kx_231 rfl) rfl ?_
      have hI2456 := HI.wI0 hI2209 kx_231 rfl (p := 231) (b := 11) (v := 0) rfl
      have hF2457 := Fr.wI (p := 231) (b := 11) (v := 0) hF2210 rfl
      refine r_aload_n e2197 ?_
      refine q_getI (Sh.int hI2456.1 kx_231 rfl) 0 (gI_sI_eq hI2209.1 kx_231 rfl _) ?_
      refine r_iconst 3 rfl ?_
      refine r_ict (by decide) ?_
      refine At.enter rfl ?_
      refine r_aload_n e2197 ?_
      refine q_getI (Sh.int hI2456.1 kx_231 rfl) 0 (gI_sI_eq hI2209.1 kx_231 rfl _) ?_
      refine r_iconst 1 rfl ?_
      refine r_ict (by decide) ?_
      refine At.enter rfl ?_
      refine r_aload_n e2197 ?_
      refine q_getI (Sh.int hI2456.1 kx_231 rfl) 0 (gI_sI_eq hI2209.1 kx_231 rfl _) ?_
      refine r_iconst 2 rfl ?_
      refine r_ict (by decide) ?_
      refine At.enter rfl ?_
      refine r_vret ?_
      have x2458 := HI.eqI hI2456 (p := 231) (b := 8) ((((gI_sI_ne (by decide)).trans ((gI_sJ_ne (by decide)).trans ((gI_sI_ne (by decide)).trans (hF2192.1 231 8 (by decide))))).trans hv1))
      have x2459 := HI.eqI hI2456 (p := 231) (b := 9) ((((gI_sI_ne (by decide)).trans ((gI_sJ_ne (by decide)).trans (gI_sI_ne (by decide)))).trans e2196))
      have x2460 := HI.eqI hI2456 (p := 231) (b := 10) (((gI_sI_ne (by decide)).trans ((gI_sJ_ne (by decide)).trans (gI_sI_eq hI2191.1 kx_231 rfl _))))
      have x2461 := HI.eqI hI2456 (p := 231) (b := 11) ((gI_sI_eq hI2209.1 kx_231 rfl _))
      have zv2462 : (0 : Int32).toInt = 0 := rfl
      have x2463 := HI.eqJ hI2456 (b := 12) (((gJ_sI_ne (by decide)).trans (gJ_sJ_eq hI2207.1 kx_231 rfl _)))
      have zv2464 : (0 : Int64).toInt = 0 := rfl
      exact ⟨_, rfl, hI2456, hF2457, rfl, ⟨by omega, by omega, by omega, by omega, by omega, by show (gI _ 231 11).toInt = 1 → (gI _ 231 10).toInt ≤ (gI _ 231 9).toInt + 1 → (gJ _ 231 12).toInt ≤ 26; omega, NEXT.e ((gA_sI).trans ((gA_sJ).trans ((gA_sI).trans (hF2192.2.1 236 (by decide))))) ((gI_sI_ne (by decide)).trans ((gI_sJ_ne (by decide)).trans ((gI_sI_ne (by decide)).trans (hF2192.1 231 8 (by decide))))) (congrArg Int32.toInt ((((gI_sI_ne (by decide)).trans ((gI_sJ_ne (by decide)).trans (gI_sI_ne (by decide)))).trans e2196))) (by omega) (by omega) (show _ ≤ (gI g0 231 8).toInt from by omega) (fun j a b => q2201 j a (by omega)) (fun hz => by have hz2 : x2189.toInt < (gI g0 231 8).toInt := hz; omega) (show _ = (gI g0 231 8).toInt from by omega) ((congrArg Int32.toInt ((gI_sI_eq hI2209.1 kx_231 rfl _))).trans rfl) ((congrArg Int32.toInt (((gI_sI_ne (by decide)).trans ((gI_sJ_ne (by decide)).trans (gI_sI_eq hI2191.1 kx_231 rfl _))))).trans (show x2189.toInt = x2189.toInt from by omega))⟩⟩
  · have c2204_ : x2189.toInt < v1.toInt := en_i_ge_f c2204
    refine At.enter rfl ?_
    refine r_aload_n e2197 ?_
    refine q_getR (Sh.ref hI2191.1 kx_231 rfl) ?_
    refine r_aload_n e2197 ?_
    refine q_getI (Sh.int hI2191.1 kx_231 rfl) x2189 e2196 ?_
    obtain ⟨v2466, hv2466⟩ : ∃ v, eA g0 236 x2189.toInt = v := ⟨_, rfl⟩
    have tv2466 := congrArg Int32.toInt hv2466
    refine q_iald (Sh.arr hI2191.1 ka_236) x2189.toInt rfl (by omega) v2466 ((eA_c (hF2192.2.1 236 (by decide))).trans hv2466) ?_
    refine r_bipush 32 rfl ?_
    refine r_ics 33 rfl (fun c2467 => ?_) (fun c2467 => ?_)
    · have c2467_ : v2466.toInt ≠ 32 := en_i_ne_t c2467
      refine At.enter rfl ?_
      refine r_aload_n e2197 ?_
      refine r_aload_n e2197 ?_
      refine q_getI (Sh.int hI2191.1 kx_231 rfl) x2189 e2196 ?_
      refine q_putI (Sh.int hI2191.1 kx_231 rfl) rfl ?_
      have hI2468 := HI.wI1 hI2191 kx_231 rfl (p := 231) (b := 10) (v := x2189) rfl (by dsimp only; omega)
      have hF2469 := Fr.wI (p := 231) (b := 10) (v := x2189) hF2192 rfl
      refine r_aload_n e2197 ?_
      refine r_lconst 0 rfl ?_
      refine q_putJ (Sh.long hI2468.1 kx_231 rfl) rfl ?_
      have hI2470 := HI.wJ hI2468 kx_231 rfl (p := 231) (b := 12) (v := 0)
      have hF2471 := Fr.wJ (p := 231) (b := 12) (v := 0) hF2469 rfl
      refine r_aload_n e2197 ?_
      refine r_aload_n e2197 ?_
      refine q_getI (Sh.int hI2470.1 kx_231 rfl) x2189 (((gI_sJ_ne (by decide)).trans (gI_sI_ne (by decide))).trans e2196) ?_
      refine r_aload_n e2197 ?_
      refine q_getI (Sh.int hI2470.1 kx_231 rfl) v1 (((gI_sJ_ne (by decide)).trans ((gI_sI_ne (by decide)).trans (hF2192.1 231 8 (by decide)))).trans hv1) ?_
      refine r_ics 71 rfl (fun c2472 => ?_) (fun c2472 => ?_)
      · have c2472_ : x2189.toInt ≠ v1.toInt := en_i_ne_t c2472
        refine At.enter rfl ?_
        refine r_aload_n e2197 ?_
        refine q_getR (Sh.ref hI2470.1 kx_231 rfl) ?_
        refine r_aload_n e2197 ?_
        refine q_getI (Sh.int hI2470.1 kx_231 rfl) x2189 (((gI_sJ_ne (by decide)).trans (gI_sI_ne (by decide))).trans e2196) ?_
        refine q_iald (Sh.arr hI2470.1 ka_236) x2189.toInt rfl (by omega) v2466 ((eA_c ((gA_sJ).trans ((gA_sI).trans (hF2192.2.1 236 (by decide))))).trans hv2466) ?_
        refine q_inlS 87 rfl [.int v2466] [.ref 231] (Nat.le_of_ble_eq_true rfl) rfl ?_
        refine Ev.mk rfl rfl ⟨Nat.le_of_ble_eq_true rfl, Or.inl rfl⟩ ?_
        show At _ none _ _ (0, [(0, .int v2466)], [], (_, _)) _
        refine At.enter rfl ?_
        refine r_iload_n rfl ?_
        refine r_bipush 97 rfl ?_
        refine r_ics 6 rfl (fun c2473 => ?_) (fun c2473 => ?_)
        · have c2473_ : v2466.toInt < 97 := en_i_lt_t c2473
          refine At.enter rfl ?_
          refine r_iconst 0 rfl ?_
          refine Ar.fall 17 rfl ?_
          refine At.enter rfl ?_
          refine q_iretz (by decide) ?_
          refine At.enter rfl ?_
          refine r_ift (by decide) ?_
          refine At.enter rfl ?_
          refine r_aload_n e2197 ?_
          refine q_getR (Sh.ref hI2470.1 kx_231 rfl) ?_
          refine r_aload_n e2197 ?_
          refine q_getI (Sh.int hI2470.1 kx_231 rfl) x2189 (((gI_sJ_ne (by decide)).trans (gI_sI_ne (by decide))).trans e2196) ?_
          refine q_iald (Sh.arr hI2470.1 ka_236) x2189.toInt rfl (by omega) v2466 ((eA_c ((gA_sJ).trans ((gA_sI).trans (hF2192.2.1 236 (by decide))))).trans hv2466) ?_
          refine q_inlS 106 rfl [.int v2466] [.ref 231] (Nat.le_of_ble_eq_true rfl) rfl ?_
          refine Ev.mk rfl rfl ⟨Nat.le_of_ble_eq_true rfl, Or.inl rfl⟩ ?_
          show At _ none _ _ (0, [(0, .int v2466)], [], (_, _)) _
          refine At.enter rfl ?_
          refine r_iload_n rfl ?_
          refine r_bipush 48 rfl ?_
          refine r_ics 6 rfl (fun c2474 => ?_) (fun c2474 => ?_)
          · have c2474_ : v2466.toInt < 48 := en_i_lt_t c2474
            refine At.enter rfl ?_
            refine r_iconst 0 rfl ?_
            refine Ar.fall 17 rfl ?_
            refine At.enter rfl ?_
            refine q_iretz (by decide) ?_
            refine At.enter rfl ?_
            refine r_ift (by decide) ?_
            refine At.enter rfl ?_
            refine r_iconst 3 rfl ?_
            refine Ar.fall 114 rfl ?_
            refine At.enter rfl ?_
            refine q_putI (Sh.int hI2470.1 kx_231 rfl) rfl ?_
            have hI2475 := HI.wI0 hI2470 kx_231 rfl (p := 231) (b := 11) (v := 3) rfl
            have hF2476 := Fr.wI (p := 231) (b := 11) (v := 3) hF2471 rfl
            refine r_aload_n e2197 ?_
            refine q_getI (Sh.int hI2475.1 kx_231 rfl) 3 (gI_sI_eq hI2470.1 kx_231 rfl _) ?_
            refine r_iconst 3 rfl ?_
            refine r_icf 125 rfl (by decide) ?_
            refine At.enter rfl ?_
            refine r_aload_n e2197 ?_
            refine r_aload_n e2197 ?_
            refine q_getR (Sh.ref hI2475.1 kx_231 rfl) ?_
            refine r_aload_n e2197 ?_
            refine q_getI (Sh.int hI2475.1 kx_231 rfl) x2189 (((gI_sI_ne (by decide)).trans ((gI_sJ_ne (by decide)).trans (gI_sI_ne (by decide)))).trans e2196) ?_
            refine q_iald (Sh.arr hI2475.1 ka_236) x2189.toInt rfl (by omega) v2466 ((eA_c ((gA_sI).trans ((gA_sJ).trans ((gA_sI).trans (hF2192.2.1 236 (by decide)))))).trans hv2466) ?_
            refine q_i2l (fun v2477 hv2477 => ?_)
            refine q_putJ (Sh.long hI2475.1 kx_231 rfl) rfl ?_
            have hI2478 := HI.wJ hI2475 kx_231 rfl (p := 231) (b := 12) (v := v2477)
            have hF2479 := Fr.wJ (p := 231) (b := 12) (v := v2477) hF2476 rfl
            refine r_aload_n e2197 ?_
            refine r_dup rfl ?_
            refine q_getI (Sh.int hI2478.1 kx_231 rfl) x2189 ((gI_sJ_ne (by decide)).trans ((gI_sI_ne (by decide)).trans ((gI_sJ_ne (by decide)).trans (gI_sI_eq hI2191.1 kx_231 rfl _)))) ?_
            refine r_iconst 1 rfl ?_
            refine q_iadd (x2189.toInt + 1) rfl (by omega) (fun v2480 hv2480 => ?_)
            refine q_putI (Sh.int hI2478.1 kx_231 rfl) rfl ?_
            have hI2481 := HI.wI1 hI2478 kx_231 rfl (p := 231) (b := 10) (v := v2480) rfl (by dsimp only; omega)
            have hF2482 := Fr.wI (p := 231) (b := 10) (v := v2480) hF2479 rfl
            refine Ar.fall 149 rfl ?_
            refine At.enter rfl ?_
            refine r_aload_n e2197 ?_
            refine q_getI (Sh.int hI2481.1 kx_231 rfl) 3 ((gI_sI_ne (by decide)).trans ((gI_sJ_ne (by decide)).trans (gI_sI_eq hI2470.1 kx_231 rfl _))) ?_
            refine r_iconst 1 rfl ?_
            refine r_ict (by decide) ?_
            refine At.enter rfl ?_
            refine r_aload_n e2197 ?_
            refine q_getI (Sh.int hI2481.1 kx_231 rfl) 3 ((gI_sI_ne (by decide)).trans ((gI_sJ_ne (by decide)).trans (gI_sI_eq hI2470.1 kx_231 rfl _))) ?_
            refine r_iconst 2 rfl ?_
            refine r_ict (by decide) ?_
            refine At.enter rfl ?_
            refine r_vret ?_
            have x2483 := HI.eqI hI2481 (p := 231) (b := 8) ((((gI_sI_ne (by decide)).trans ((gI_sJ_ne (by decide)).trans ((gI_sI_ne (by decide)).trans ((gI_sJ_ne (by decide)).trans ((gI_sI_ne (by decide)).trans (hF2192.1 231 8 (by decide))))))).trans hv1))
            have x2484 := HI.eqI hI2481 (p := 231) (b := 9) ((((gI_sI_ne (by decide)).trans ((gI_sJ_ne (by decide)).trans ((gI_sI_ne (by decide)).trans ((gI_sJ_ne (by decide)).trans (gI_sI_ne (by decide)))))).trans e2196))
            have x2485 := HI.eqI hI2481 (p := 231) (b := 10) ((gI_sI_eq hI2478.1 kx_231 rfl _))
            have x2486 := HI.eqI hI2481 (p := 231) (b := 11) (((gI_sI_ne (by decide)).trans ((gI_sJ_ne (by decide)).trans (gI_sI_eq hI2470.1 kx_231 rfl _))))
            have zv2487 : (3 : Int32).toInt = 3 := rfl
            have x2488 := HI.eqJ hI2481 (b := 12) (((gJ_sI_ne (by decide)).trans (gJ_sJ_eq hI2475.1 kx_231 rfl _)))
            exact ⟨_, rfl, hI2481, hF2482, rfl, ⟨by omega, by omega, by omega, by omega, by omega, by show (gI _ 231 11).toInt = 1 → (gI _ 231 10).toInt ≤ (gI _ 231 9).toInt + 1 → (gJ _ 231 12).toInt ≤ 26; omega, NEXT.s ((gA_sI).trans ((gA_sJ).trans ((gA_sI).trans ((gA_sJ).trans ((gA_sI).trans (hF2192.2.1 236 (by decide))))))) ((gI_sI_ne (by decide)).trans ((gI_sJ_ne (by decide)).trans ((gI_sI_ne (by decide)).trans ((gI_sJ_ne (by decide)).trans ((gI_sI_ne (by decide)).trans (hF2192.1 231 8 (by decide))))))) (congrArg Int32.toInt ((((gI_sI_ne (by decide)).trans ((gI_sJ_ne (by decide)).trans ((gI_sI_ne (by decide)).trans ((gI_sJ_ne (by decide)).trans (gI_sI_ne (by decide)))))).trans e2196))) (by omega) (by omega) (show _ ≤ (gI g0 231 8).toInt from by omega) (fun j a b => q2201 j a (by omega)) (fun hz => by show (eA g0 236 x2189.toInt).toInt ≠ 32; rw [show (x2189.toInt : Int) = x2189.toInt from by omega, hv2466]; omega) (show _ < (gI g0 231 8).toInt from by omega) (by unfold smP TM; rw [show (x2189.toInt : Int) = x2189.toInt from by omega, hv2466]; omega) (by unfold dgP TM; rw [show (x2189.toInt : Int) = x2189.toInt from by omega, hv2466]; omega) ((congrArg Int32.toInt (((gI_sI_ne (by decide)).trans ((gI_sJ_ne (by decide)).trans (gI_sI_eq hI2470.1 kx_231 rfl _))))).trans rfl) ((congrArg Int32.toInt ((gI_sI_eq hI2478.1 kx_231 rfl _))).trans (show v2480.toInt = x2189.toInt + 1 from by omega)) ((congrArg Int64.toInt (((gJ_sI_ne (by decide)).trans (gJ_sJ_eq hI2475.1 kx_231 rfl _)))).trans (hv2477.trans (show TM g0 x2189.toInt = v2466.toInt from by unfold TM; rw [show (x2189.toInt : Int) = x2189.toInt from by omega, hv2466]).symm))⟩⟩
          · have c2474_ : v2466.toInt ≥ 48 := en_i_lt_f c2474
            refine At.enter rfl ?_
            refine r_iload_n rfl ?_
            refine r_bipush 57 rfl ?_
            refine r_ics 12 rfl (fun c2490 => ?_) (fun c2490 => ?_)
            · have c2490_ : v2466.toInt > 57 := en_i_gt_t c2490
              refine At.enter rfl ?_
              refine r_iconst 0 rfl ?_
              refine Ar.fall 17 rfl ?_
              refine At.enter rfl ?_
              refine q_iretz (by decide) ?_
              refine At.enter rfl ?_
              refine r_ift (by decide) ?_
              refine At.enter rfl ?_
              refine r_iconst 3 rfl ?_
              refine Ar.fall 114 rfl ?_
              refine At.enter rfl ?_
              refine q_putI (Sh.int hI2470.1 kx_231 rfl) rfl ?_
              have hI2491 := HI.wI0 hI2470 kx_231 rfl (p := 231) (b := 11) (v := 3) rfl
              have hF2492 := Fr.wI (p := 231) (b := 11) (v := 3) hF2471 rfl
              refine r_aload_n e2197 ?_
              refine q_getI (Sh.int hI2491.1 kx_231 rfl) 3 (gI_sI_eq hI2470.1 kx_231 rfl _) ?_
              refine r_iconst 3 rfl ?_
              refine r_icf 125 rfl (by decide) ?_
              refine At.enter rfl ?_
              refine r_aload_n e2197 ?_
              refine r_aload_n e2197 ?_
              refine q_getR (Sh.ref hI2491.1 kx_231 rfl) ?_
              refine r_aload_n e2197 ?_
              refine q_getI (Sh.int hI2491.1 kx_231 rfl) x2189 (((gI_sI_ne (by decide)).trans ((gI_sJ_ne (by decide)).trans (gI_sI_ne (by decide)))).trans e2196) ?_
              refine q_iald (Sh.arr hI2491.1 ka_236) x2189.toInt rfl (by omega) v2466 ((eA_c ((gA_sI).trans ((gA_sJ).trans ((gA_sI).trans (hF2192.2.1 236 (by decide)))))).trans hv2466) ?_
              refine q_i2l (fun v2493 hv2493 => ?_)
              refine q_putJ (Sh.long hI2491.1 kx_231 rfl) rfl ?_
              have hI2494 := HI.wJ hI2491 kx_231 rfl (p := 231) (b := 12) (v := v2493)
              have hF2495 := Fr.wJ (p := 231) (b := 12) (v := v2493) hF2492 rfl
              refine r_aload_n e2197 ?_
              refine r_dup rfl ?_
              refine q_getI (Sh.int hI2494.1 kx_231 rfl) x2189 ((gI_sJ_ne (by decide)).trans ((gI_sI_ne (by decide)).trans ((gI_sJ_ne (by decide)).trans (gI_sI_eq hI2191.1 kx_231 rfl _)))) ?_
              refine r_iconst 1 rfl ?_
              refine q_iadd (x2189.toInt + 1) rfl (by omega) (fun v2496 hv2496 => ?_)
              refine q_putI (Sh.int hI2494.1 kx_231 rfl) rfl ?_
              have hI2497 := HI.wI1 hI2494 kx_231 rfl (p := 231) (b := 10) (v := v2496) rfl (by dsimp only; omega)
              have hF2498 := Fr.wI (p := 231) (b := 10) (v := v2496) hF2495 rfl
              refine Ar.fall 149 rfl ?_
              refine At.enter rfl ?_
              refine r_aload_n e2197 ?_
              refine q_getI (Sh.int hI2497.1 kx_231 rfl) 3 ((gI_sI_ne (by decide)).trans ((gI_sJ_ne (by decide)).trans (gI_sI_eq hI2470.1 kx_231 rfl _))) ?_
              refine r_iconst 1 rfl ?_
              refine r_ict (by decide) ?_
              refine At.enter rfl ?_
              refine r_aload_n e2197 ?_
              refine q_getI (Sh.int hI2497.1 kx_231 rfl) 3 ((gI_sI_ne (by decide)).trans ((gI_sJ_ne (by decide)).trans (gI_sI_eq hI2470.1 kx_231 rfl _))) ?_
              refine r_iconst 2 rfl ?_
              refine r_ict (by decide) ?_
              refine At.enter rfl ?_
              refine r_vret ?_
              have x2499 := HI.eqI hI2497 (p := 231) (b := 8) ((((gI_sI_ne (by decide)).trans ((gI_sJ_ne (by decide)).trans ((gI_sI_ne (by decide)).trans ((gI_sJ_ne (by decide)).trans ((gI_sI_ne (by decide)).trans (hF2192.1 231 8 (by decide))))))).trans hv1))
              have x2500 := HI.eqI hI2497 (p := 231) (b := 9) ((((gI_sI_ne (by decide)).trans ((gI_sJ_ne (by decide)).trans ((gI_sI_ne (by decide)).trans ((gI_sJ_ne (by decide)).trans (gI_sI_ne (by decide)))))).trans e2196))
              have x2501 := HI.eqI hI2497 (p := 231) (b := 10) ((gI_sI_eq hI2494.1 kx_231 rfl _))
              have x2502 := HI.eqI hI2497 (p := 231) (b := 11) (((gI_sI_ne (by decide)).trans ((gI_sJ_ne (by decide)).trans (gI_sI_eq hI2470.1 kx_231 rfl _))))
              have zv2503 : (3 : Int32).toInt = 3 := rfl
              have x2504 := HI.eqJ hI2497 (b := 12) (((gJ_sI_ne (by decide)).trans (gJ_sJ_eq hI2491.1 kx_231 rfl _)))
              exact ⟨_, rfl, hI2497, hF2498, rfl, ⟨by omega, by omega, by omega, by omega, by omega, by show (gI _ 231 11).toInt = 1 → (gI _ 231 10).toInt ≤ (gI _ 231 9).toInt + 1 → (gJ _ 231 12).toInt ≤ 26; omega, NEXT.s ((gA_sI).trans ((gA_sJ).trans ((gA_sI).trans ((gA_sJ).trans ((gA_sI).trans (hF2192.2.1 236 (by decide))))))) ((gI_sI_ne (by decide)).trans ((gI_sJ_ne (by decide)).trans ((gI_sI_ne (by decide)).trans ((gI_sJ_ne (by decide)).trans ((gI_sI_ne (by decide)).trans (hF2192.1 231 8 (by decide))))))) (congrArg Int32.toInt ((((gI_sI_ne (by decide)).trans ((gI_sJ_ne (by decide)).trans ((gI_sI_ne (by decide)).trans ((gI_sJ_ne (by decide)).trans (gI_sI_ne (by decide)))))).trans e2196))) (by omega) (by omega) (show _ ≤ (gI g0 231 8).toInt from by omega) (fun j a b => q2201 j a (by omega)) (fun hz => by show (eA g0 236 x2189.toInt).toInt ≠ 32; rw [show (x2189.toInt : Int) = x2189.toInt from by omega, hv2466]; omega) (show _ < (gI g0 231 8).toInt from by omega) (by unfold smP TM; rw [show (x2189.toInt : Int) = x2189.toInt from by omega, hv2466]; omega) (by unfold dgP TM; rw [show (x2189.toInt : Int) = x2189.toInt from by omega, hv2466]; omega) ((congrArg Int32.toInt (((gI_sI_ne (by decide)).trans ((gI_sJ_ne (by decide)).trans (gI_sI_eq hI2470.1 kx_231 rfl _))))).trans rfl) ((congrArg Int32.toInt ((gI_sI_eq hI2494.1 kx_231 rfl _))).trans (show v2496.toInt = x2189.toInt + 1 from by omega)) ((congrArg Int64.toInt (((gJ_sI_ne (by decide)).trans (gJ_sJ_eq hI2491.1 kx_231 rfl _)))).trans (hv2493.trans (show TM g0 x2189.toInt = v2466.toInt from by unfold TM; rw [show (x2189.toInt : Int) = x2189.toInt from by omega, hv2466]).symm))⟩⟩
            · have c2490_ : v2466.toInt ≤ 57 := en_i_gt_f c2490
              refine At.enter rfl ?_
              refine r_iconst 1 rfl ?_
              refine r_goto ?_
              refine At.enter rfl ?_
              refine q_iretz (by decide) ?_
              refine At.enter rfl ?_
              refine r_iff 109 rfl (by decide) ?_
              refine At.enter rfl ?_
              refine r_iconst 2 rfl ?_
              refine r_goto ?_
              refine At.enter rfl ?_
              refine q_putI (Sh.int hI2470.1 kx_231 rfl) rfl ?_
              have hI2506 := HI.wI0 hI2470 kx_231 rfl (p := 231) (b := 11) (v := 2) rfl
              have hF2507 := Fr.wI (p := 231) (b := 11) (v := 2) hF2471 rfl
              refine r_aload_n e2197 ?_
              refine q_getI (Sh.int hI2506.1 kx_231 rfl) 2 (gI_sI_eq hI2470.1 kx_231 rfl _) ?_
              refine r_iconst 3 rfl ?_
              refine r_ict (by decide) ?_
              refine At.enter rfl ?_
              refine r_aload_n e2197 ?_
              refine q_getI (Sh.int hI2506.1 kx_231 rfl) 2 (gI_sI_eq hI2470.1 kx_231 rfl _) ?_
              refine r_iconst 1 rfl ?_
              refine r_ict (by decide) ?_
              refine w_loopI (fun n_ l_ g_ => ∃ x2558 : Int32, n_ = 400 - x2558.toInt ∧ HI g_ ∧ Fr F_X11_next_231 A_X11_next_231 g0 g_ ∧ gI g_ 231 10 = x2558 ∧ gI g_ 231 9 = x2189 ∧ gI g_ 231 11 = 2 ∧ en_get 0 l_ = some (.ref 231) ∧ (0 ≤ x2558.toInt ∧ x2558.toInt ≤ 400) ∧ (x2189.toInt ≤ x2558.toInt) ∧ (x2558.toInt ≤ (gI g0 231 8).toInt) ∧ ((x2558.toInt ≤ x2189.toInt → (eA g0 236 x2558.toInt).toInt = v2466.toInt)) ∧ (DLI g0 x2189.toInt x2558.toInt ((gJ g_ 231 12).toInt))) ?_ (400 - x2189.toInt) ⟨x2189, by first | rfl | omega, hI2506, hF2507, ((gI_sI_ne (by decide)).trans ((gI_sJ_ne (by decide)).trans (gI_sI_eq hI2191.1 kx_231 rfl _))), (((gI_sI_ne (by decide)).trans ((gI_sJ_ne (by decide)).trans (gI_sI_ne (by decide)))).trans e2196), (gI_sI_eq hI2470.1 kx_231 rfl _), e2197, by omega, by omega, by omega, (fun _ => congrArg Int32.toInt hv2466), (DLI.z (by omega) (by have jw := HI.eqJ hI2506 (b := 12) (((gJ_sI_ne (by decide)).trans (gJ_sJ_eq hI2468.1 kx_231 rfl _))); have jz : (0 : Int64).toInt = 0 := rfl; omega))⟩
              rintro n2563 l2562 g2559 ⟨x2558, hm2574, hI2560, hF2561, e2565, e2566, e2567, e2568, r2569, q2570, q2571, q2572, q2573⟩ ih2564
              have tv2575 := congrArg Int32.toInt e2566
              have tv2576 := congrArg Int32.toInt e2567
              have tv2577 := congrArg Int32.toInt e2565
              refine At.enter rfl ?_
              refine r_aload_n e2568 ?_
              refine q_getI (Sh.int hI2560.1 kx_231 rfl) 2 e2567 ?_
              refine r_iconst 2 rfl ?_
              refine r_icf 251 rfl (by decide) ?_
              refine At.enter rfl ?_
              refine r_aload_n e2568 ?_
              refine q_getI (Sh.int hI2560.1 kx_231 rfl) x2558 e2565 ?_
              refine r_aload_n e2568 ?_
              refine q_getI (Sh.int hI2560.1 kx_231 rfl) v1 ((hF2561.1 231 8 (by decide)).trans hv1) ?_
              have bv2579 := q_bnd x2558
              refine r_ics 262 rfl (fun c2578 => ?_) (fun c2578 => ?_)
              · have c2578_ : x2558.toInt ≥ v1.toInt := en_i_ge_t c2578
                refine At.enter rfl ?_
                refine r_vret ?_
                have x2580 := HI.eqI hI2560 (p := 231) (b := 8) (((hF2561.1 231 8 (by decide)).trans hv1))
                have x2581 := HI.eqI hI2560 (p := 231) (b := 9) (e2566)
                have x2582 := HI.eqI hI2560 (p := 231) (b := 10) (e2565)
                have x2583 := HI.eqI hI2560 (p := 231) (b := 11) (e2567)
                have zv2584 : (2 : Int32).toInt = 2 := rfl
                obtain ⟨v2585, hv2585⟩ : ∃ v, gJ g2559 231 12 = v := ⟨_, rfl⟩
                have tv2585 := congrArg Int64.toInt hv2585
                have x2586 := HI.eqJ hI2560 (b := 12) (hv2585)
                exact ⟨_, rfl, hI2560, hF2561, rfl, ⟨by omega, by omega, by omega, by omega, by omega, by show (gI _ 231 11).toInt = 1 → (gI _ 231 10).toInt ≤ (gI _ 231 9).toInt + 1 → (gJ _ 231 12).toInt ≤ 26; omega, NEXT.d (hF2561.2.1 236 (by decide)) (hF2561.1 231 8 (by decide)) (congrArg Int32.toInt (e2566)) (by omega) (by omega) (show _ ≤ (gI g0 231 8).toInt from by omega) (fun j a b => q2201 j a (by omega)) (fun hz => by show (eA g0 236 x2189.toInt).toInt ≠ 32; rw [show (x2189.toInt : Int) = x2189.toInt from by omega, hv2466]; omega) (show _ < (gI g0 231 8).toInt from by omega) ((congrArg Int32.toInt (e2567)).trans rfl) ((congrArg Int32.toInt (e2565)).trans (show x2558.toInt = x2558.toInt from by omega)) (show wth _ = _ from congrArg Int64.toInt (rfl)) q2573 ⟨by omega, show _ ≤ (gI g0 231 8).toInt from by omega⟩ (fun hz => by first | (have hz2 : x2558.toInt < (gI g0 231 8).toInt := hz; exfalso; omega))⟩⟩
              · have c2578_ : x2558.toInt < v1.toInt := en_i_ge_f c2578
                refine At.enter rfl ?_
                refine r_aload_n e2568 ?_
                refine q_getR (Sh.ref hI2560.1 kx_231 rfl) ?_
                refine r_aload_n e2568 ?_
                refine q_getI (Sh.int hI2560.1 kx_231 rfl) x2558 e2565 ?_
                obtain ⟨v2588, hv2588⟩ : ∃ v, eA g0 236 x2558.toInt = v := ⟨_, rfl⟩
                have tv2588 := congrArg Int32.toInt hv2588
                refine q_iald (Sh.arr hI2560.1 ka_236) x2558.toInt rfl (by omega) v2588 ((eA_c (hF2561.2.1 236 (by decide))).trans hv2588) ?_
                refine q_inlS 274 rfl [.int v2588] [] (Nat.le_of_ble_eq_true rfl) rfl ?_
                refine Ev.mk rfl rfl ⟨Nat.le_of_ble_eq_true rfl, Or.inl rfl⟩ ?_
                show At _ none _ _ (0, [(0, .int v2588)], [], (_, _)) _
                refine At.enter rfl ?_
                refine r_iload_n rfl ?_
                refine r_bipush 48 rfl ?_
                refine r_ics 6 rfl (fun c2589 => ?_) (fun c2589 => ?_)
                · have c2589_ : v2588.toInt < 48 := en_i_lt_t c2589
                  refine At.enter rfl ?_
                  refine r_iconst 0 rfl ?_
                  refine Ar.fall 17 rfl ?_
                  refine At.enter rfl ?_
                  refine q_iretz (by decide) ?_
                  refine At.enter rfl ?_
                  refine r_ift (by decide) ?_
                  refine At.enter rfl ?_
                  refine r_vret ?_
                  have x2590 := HI.eqI hI2560 (p := 231) (b := 8) (((hF2561.1 231 8 (by decide)).trans hv1))
                  have x2591 := HI.eqI hI2560 (p := 231) (b := 9) (e2566)
                  have x2592 := HI.eqI hI2560 (p := 231) (b := 10) (e2565)
                  have x2593 := HI.eqI hI2560 (p := 231) (b := 11) (e2567)
                  have zv2594 : (2 : Int32).toInt = 2 := rfl
                  obtain ⟨v2595, hv2595⟩ : ∃ v, gJ g2559 231 12 = v := ⟨_, rfl⟩
                  have tv2595 := congrArg Int64.toInt hv2595
                  have x2596 := HI.eqJ hI2560 (b := 12) (hv2595)
                  exact ⟨_, rfl, hI2560, hF2561, rfl, ⟨by omega, by omega, by omega, by omega, by omega, by show (gI _ 231 11).toInt = 1 → (gI _ 231 10).toInt ≤ (gI _ 231 9).toInt + 1 → (gJ _ 231 12).toInt ≤ 26; omega, NEXT.d (hF2561.2.1 236 (by decide)) (hF2561.1 231 8 (by decide)) (congrArg Int32.toInt (e2566)) (by omega) (by omega) (show _ ≤ (gI g0 231 8).toInt from by omega) (fun j a b => q2201 j a (by omega)) (fun hz => by show (eA g0 236 x2189.toInt).toInt ≠ 32; rw [show (x2189.toInt : Int) = x2189.toInt from by omega, hv2466]; omega) (show _ < (gI g0 231 8).toInt from by omega) ((congrArg Int32.toInt (e2567)).trans rfl) ((congrArg Int32.toInt (e2565)).trans (show x2558.toInt = x2558.toInt from by omega)) (show wth _ = _ from congrArg Int64.toInt (rfl)) q2573 ⟨by omega, show _ ≤ (gI g0 231 8).toInt from by omega⟩ (fun hz => by first | (have hz2 : x2558.toInt < (gI g0 231 8).toInt := hz; exfalso; omega) | (unfold dgP TM; rw [hv2588]; omega))⟩⟩
                · have c2589_ : v2588.toInt ≥ 48 := en_i_lt_f c2589
                  refine At.enter rfl ?_
                  refine r_iload_n rfl ?_
                  refine r_bipush 57 rfl ?_
                  refine r_ics 12 rfl (fun c2598 => ?_) (fun c2598 => ?_)
                  · have c2598_ : v2588.toInt > 57 := en_i_gt_t c2598
                    refine At.enter rfl ?_
                    refine r_iconst 0 rfl ?_
                    refine Ar.fall 17 rfl ?_
                    refine At.enter rfl ?_
                    refine q_iretz (by decide) ?_
                    refine At.enter rfl ?_
                    refine r_ift (by decide) ?_
                    refine At.enter rfl ?_
                    refine r_vret ?_
                    have x2599 := HI.eqI hI2560 (p := 231) (b := 8) (((hF2561.1 231 8 (by decide)).trans hv1))
                    have x2600 := HI.eqI hI2560 (p := 231) (b := 9) (e2566)
                    have x2601 := HI.eqI hI2560 (p := 231) (b := 10) (e2565)
                    have x2602 := HI.eqI hI2560 (p := 231) (b := 11) (e2567)
                    have zv2603 : (2 : Int32).toInt = 2 := rfl
                    obtain ⟨v2604, hv2604⟩ : ∃ v, gJ g2559 231 12 = v := ⟨_, rfl⟩
                    have tv2604 := congrArg Int64.toInt hv2604
                    have x2605 := HI.eqJ hI2560 (b := 12) (hv2604)
                    exact ⟨_, rfl, hI2560, hF2561, rfl, ⟨by omega, by omega, by omega, by omega, by omega, by show (gI _ 231 11).toInt = 1 → (gI _ 231 10).toInt ≤ (gI _ 231 9).toInt + 1 → (gJ _ 231 12).toInt ≤ 26; omega, NEXT.d (hF2561.2.1 236 (by decide)) (hF2561.1 231 8 (by decide)) (congrArg Int32.toInt (e2566)) (by omega) (by omega) (show _ ≤ (gI g0 231 8).toInt from by omega) (fun j a b => q2201 j a (by omega)) (fun hz => by show (eA g0 236 x2189.toInt).toInt ≠ 32; rw [show (x2189.toInt : Int) = x2189.toInt from by omega, hv2466]; omega) (show _ < (gI g0 231 8).toInt from by omega) ((congrArg Int32.toInt (e2567)).trans rfl) ((congrArg Int32.toInt (e2565)).trans (show x2558.toInt = x2558.toInt from by omega)) (show wth _ = _ from congrArg Int64.toInt (rfl)) q2573 ⟨by omega, show _ ≤ (gI g0 231 8).toInt from by omega⟩ (fun hz => by first | (have hz2 : x2558.toInt < (gI g0 231 8).toInt := hz; exfalso; omega) | (unfold dgP TM; rw [hv2588]; omega))⟩⟩
                  · have c2598_ : v2588.toInt ≤ 57 := en_i_gt_f c2598
                    refine At.enter rfl ?_
                    refine r_iconst 1 rfl ?_
                    refine r_goto ?_
                    refine At.enter rfl ?_
                    refine q_iretz (by decide) ?_
                    refine At.enter rfl ?_
                    refine r_iff 277 rfl (by decide) ?_
                    refine At.enter rfl ?_
                    refine r_aload_n e2568 ?_
                    refine r_aload_n e2568 ?_
                    obtain ⟨v2607, hv2607⟩ : ∃ v, gJ g2559 231 12 = v := ⟨_, rfl⟩
                    have tv2607 := congrArg Int64.toInt hv2607
                    refine q_getJv (Sh.long hI2560.1 kx_231 rfl) v2607 hv2607 ?_
                    refine r_ldc2 1000000 rfl ?_
                    refine r_lcmp _ rfl ?_
                    refine r_ifs 289 rfl (fun c2608 => ?_) (fun c2608 => ?_)
                    · have c2608_ : v2607.toInt ≤ 1000000 := en_j_le_t c2608
                      refine At.enter rfl ?_
                      refine r_aload_n e2568 ?_
                      refine q_getJv (Sh.long hI2560.1 kx_231 rfl) v2607 hv2607 ?_
                      refine r_ldc2 10 rfl ?_
                      refine q_lmulO (fun v2609 lv2609 => ?_)
                      have kv2609 := l_mul lv2609
                      have zv2610 : (10 : Int64).toInt = 10 := rfl
                      refine r_aload_n e2568 ?_
                      refine q_getR (Sh.ref hI2560.1 kx_231 rfl) ?_
                      refine r_aload_n e2568 ?_
                      refine q_getI (Sh.int hI2560.1 kx_231 rfl) x2558 e2565 ?_
                      refine q_iald (Sh.arr hI2560.1 ka_236) x2558.toInt rfl (by omega) v2588 ((eA_c (hF2561.2.1 236 (by decide))).trans hv2588) ?_
                      refine q_i2l (fun v2611 hv2611 => ?_)
                      refine q_laddO (fun v2612 lv2612 => ?_)
                      have kv2612 := l_add lv2612
                      refine r_ldc2 48 rfl ?_
                      refine q_lsubO (fun v2613 lv2613 => ?_)
                      have kv2613 := l_sub lv2613
                      have zv2614 : (48 : Int64).toInt = 48 := rfl
                      refine Ar.fall 319 rfl ?_
                      refine At.enter rfl ?_
                      refine q_putJ (Sh.long hI2560.1 kx_231 rfl) rfl ?_
                      have hI2615 := HI.wJ hI2560 kx_231 rfl (p := 231) (b := 12) (v := v2613)
                      have hF2616 := Fr.wJ (p := 231) (b := 12) (v := v2613) hF2561 rfl
                      refine r_aload_n e2568 ?_
                      refine r_dup rfl ?_
                      refine q_getI (Sh.int hI2615.1 kx_231 rfl) x2558 ((gI_sJ_ne (by decide)).trans e2565) ?_
                      refine r_iconst 1 rfl ?_
                      refine q_iadd (x2558.toInt + 1) rfl (by omega) (fun v2617 hv2617 => ?_)
                      refine q_putI (Sh.int hI2615.1 kx_231 rfl) rfl ?_
                      have hI2618 := HI.wI1 hI2615 kx_231 rfl (p := 231) (b := 10) (v := v2617) rfl (by dsimp only; omega)
                      have hF2619 := Fr.wI (p := 231) (b := 10) (v := v2617) hF2616 rfl
                      refine r_goto ?_
                      exact ih2564 (400 - v2617.toInt) _ _ ⟨v2617, by first | rfl | omega, hI2618, hF2619, (gI_sI_eq hI2615.1 kx_231 rfl _), (((gI_sI_ne (by decide)).trans (gI_sJ_ne (by decide))).trans e2566), (((gI_sI_ne (by decide)).trans (gI_sJ_ne (by decide))).trans e2567), e2568, by omega, by omega, by omega, (fun h => absurd h (by omega)), (by rw [show (gJ _ 231 12).toInt = v2613.toInt from congrArg Int64.toInt (((gJ_sI_ne (by decide)).trans (gJ_sJ_eq hI2560.1 kx_231 rfl _)))]; exact DLI.st (show DLI g0 _ _ v2607.toInt from by rw [← hv2607]; exact q2573) (by omega) (show dgP (TM g0 x2558.toInt) from by unfold dgP TM; rw [hv2588]; omega) (show v2617.toInt = x2558.toInt + 1 from by omega) (by omega) rfl lv2609 (hv2611.trans (congrArg Int32.toInt hv2588).symm) lv2612 rfl lv2613)⟩ ⟨by omega, by omega⟩
                    · have c2608_ : v2607.toInt > 1000000 := en_j_le_f c2608
                      refine At.enter rfl ?_
                      refine r_aload_n e2568 ?_
                      refine q_getJv (Sh.long hI2560.1 kx_231 rfl) v2607 hv2607 ?_
                      refine r_goto ?_
                      refine At.enter rfl ?_
                      refine q_putJ (Sh.long hI2560.1 kx_231 rfl) rfl ?_
                      have hI2620 := HI.wJ hI2560 kx_231 rfl (p := 231) (b := 12) (v := v2607)
                      have hF2621 := Fr.wJ (p := 231) (b := 12) (v := v2607) hF2561 rfl
                      refine r_aload_n e2568 ?_
                      refine r_dup rfl ?_
                      refine q_getI (Sh.int hI2620.1 kx_231 rfl) x2558 ((gI_sJ_ne (by decide)).trans e2565) ?_
                      refine r_iconst 1 rfl ?_
                      refine q_iadd (x2558.toInt + 1) rfl (by omega) (fun v2622 hv2622 => ?_)
                      refine q_putI (Sh.int hI2620.1 kx_231 rfl) rfl ?_
                      have hI2623 := HI.wI1 hI2620 kx_231 rfl (p := 231) (b := 10) (v := v2622) rfl (by dsimp only; omega)
                      have hF2624 := Fr.wI (p := 231) (b := 10) (v := v2622) hF2621 rfl
                      refine r_goto ?_
                      exact ih2564 (400 - v2622.toInt) _ _ ⟨v2622, by first | rfl | omega, hI2623, hF2624, (gI_sI_eq hI2620.1 kx_231 rfl _), (((gI_sI_ne (by decide)).trans (gI_sJ_ne (by decide))).trans e2566), (((gI_sI_ne (by decide)).trans (gI_sJ_ne (by decide))).trans e2567), e2568, by omega, by omega, by omega, (fun h => absurd h (by omega)), (by rw [show (gJ _ 231 12).toInt = v2607.toInt from congrArg Int64.toInt (((gJ_sI_ne (by decide)).trans (gJ_sJ_eq hI2560.1 kx_231 rfl _)))]; exact DLI.st2 (show DLI g0 _ _ v2607.toInt from by rw [← hv2607]; exact q2573) (by omega) (show dgP (TM g0 x2558.toInt) from by unfold dgP TM; rw [hv2588]; omega) (show v2622.toInt = x2558.toInt + 1 from by omega) (by omega) rfl)⟩ ⟨by omega, by omega⟩
        · have c2473_ : v2466.toInt ≥ 97 := en_i_lt_f c2473
          refine At.enter rfl ?_
          refine r_iload_n rfl ?_
          refine r_bipush 122 rfl ?_
          refine r_ics 12 rfl (fun c2625 => ?_) (fun c2625 => ?_)
          · have c2625_ : v2466.toInt > 122 := en_i_gt_t c2625
            refine At.enter rfl ?_
            refine r_iconst 0 rfl ?_
            refine Ar.fall 17 rfl ?_
            refine At.enter rfl ?_
            refine q_iretz (by decide) ?_
            refine At.enter rfl ?_
            refine r_ift (by decide) ?_
            refine At.enter rfl ?_
            refine r_aload_n e2197 ?_
            refine q_getR (Sh.ref hI2470.1 kx_231 rfl) ?_
            refine r_aload_n e2197 ?_
            refine q_getI (Sh.int hI2470.1 kx_231 rfl) x2189 (((gI_sJ_ne (by decide)).trans (gI_sI_ne (by decide))).trans e2196) ?_
            refine q_iald (Sh.arr hI2470.1 ka_236) x2189.toInt rfl (by omega) v2466 ((eA_c ((gA_sJ).trans ((gA_sI).trans (hF2192.2.1 236 (by decide))))).trans hv2466) ?_
            refine q_inlS 106 rfl [.int v2466] [.ref 231] (Nat.le_of_ble_eq_true rfl) rfl ?_
            refine Ev.mk rfl rfl ⟨Nat.le_of_ble_eq_true rfl, Or.inl rfl⟩ ?_
            show At _ none _ _ (0, [(0, .int v2466)], [], (_, _)) _
            refine At.enter rfl ?_
            refine r_iload_n rfl ?_
            refine r_bipush 48 rfl ?_
            refine r_ics 6 rfl (fun c2626 => ?_) (fun c2626 => ?_)
            · have c2626_ : v2466.toInt < 48 := en_i_lt_t c2626
              exfalso; omega
            · have c2626_ : v2466.toInt ≥ 48 := en_i_lt_f c2626
              refine At.enter rfl ?_
              refine r_iload_n rfl ?_
              refine r_bipush 57 rfl ?_
              refine r_ics 12 rfl (fun c2627 => ?_) (fun c2627 => ?_)
              · have c2627_ : v2466.toInt > 57 := en_i_gt_t c2627
                refine At.enter rfl ?_
                refine r_iconst 0 rfl ?_
                refine Ar.fall 17 rfl ?_
                refine At.enter rfl ?_
                refine q_iretz (by decide) ?_
                refine At.enter rfl ?_
                refine r_ift (by decide) ?_
                refine At.enter rfl ?_
                refine r_iconst 3 rfl ?_
                refine Ar.fall 114 rfl ?_
                refine At.enter rfl ?_
                refine q_putI (Sh.int hI2470.1 kx_231 rfl) rfl ?_
                have hI2628 := HI.wI0 hI2470 kx_231 rfl (p := 231) (b := 11) (v := 3) rfl
                have hF2629 := Fr.wI (p := 231) (b := 11) (v := 3) hF2471 rfl
                refine r_aload_n e2197 ?_
                refine q_getI (Sh.int hI2628.1 kx_231 rfl) 3 (gI_sI_eq hI2470.1 kx_231 rfl _) ?_
                refine r_iconst 3 rfl ?_
                refine r_icf 125 rfl (by decide) ?_
                refine At.enter rfl ?_
                refine r_aload_n e2197 ?_
                refine r_aload_n e2197 ?_
                refine q_getR (Sh.ref hI2628.1 kx_231 rfl) ?_
                refine r_aload_n e2197 ?_
                refine q_getI (Sh.int hI2628.1 kx_231 rfl) x2189 (((gI_sI_ne (by decide)).trans ((gI_sJ_ne (by decide)).trans (gI_sI_ne (by decide)))).trans e2196) ?_
                refine q_iald (Sh.arr hI2628.1 ka_236) x2189.toInt rfl (by omega) v2466 ((eA_c ((gA_sI).trans ((gA_sJ).trans ((gA_sI).trans (hF2192.2.1 236 (by decide)))))).trans hv2466) ?_
                refine q_i2l (fun v2630 hv2630 => ?_)
                refine q_putJ (Sh.long hI2628.1 kx_231 rfl) rfl ?_
                have hI2631 := HI.wJ hI2628 kx_231 rfl (p := 231) (b := 12) (v := v2630)
                have hF2632 := Fr.wJ (p := 231) (b := 12) (v := v2630) hF2629 rfl
                refine r_aload_n e2197 ?_
                refine r_dup rfl ?_
                refine q_getI (Sh.int hI2631.1 kx_231 rfl) x2189 ((gI_sJ_ne (by decide)).trans ((gI_sI_ne (by decide)).trans ((gI_sJ_ne (by decide)).trans (gI_sI_eq hI2191.1 kx_231 rfl _)))) ?_
                refine r_iconst 1 rfl ?_
                refine q_iadd (x2189.toInt + 1) rfl (by omega) (fun v2633 hv2633 => ?_)
                refine q_putI (Sh.int hI2631.1 kx_231 rfl) rfl ?_
                have hI2634 := HI.wI1 hI2631 kx_231 rfl (p := 231) (b := 10) (v := v2633) rfl (by dsimp only; omega)
                have hF2635 := Fr.wI (p := 231) (b := 10) (v := v2633) hF2632 rfl
                refine Ar.fall 149 rfl ?_
                refine At.enter rfl ?_
                refine r_aload_n e2197 ?_
                refine q_getI (Sh.int hI2634.1 kx_231 rfl) 3 ((gI_sI_ne (by decide)).trans ((gI_sJ_ne (by decide)).trans (gI_sI_eq hI2470.1 kx_231 rfl _))) ?_
                refine r_iconst 1 rfl ?_
                refine r_ict (by decide) ?_
                refine At.enter rfl ?_
                refine r_aload_n e2197 ?_
                refine q_getI (Sh.int hI2634.1 kx_231 rfl) 3 ((gI_sI_ne (by decide)).trans ((gI_sJ_ne (by decide)).trans (gI_sI_eq hI2470.1 kx_231 rfl _))) ?_
                refine r_iconst 2 rfl ?_
                refine r_ict (by decide) ?_
                refine At.enter rfl ?_
                refine r_vret ?_
                have x2636 := HI.eqI hI2634 (p := 231) (b := 8) ((((gI_sI_ne (by decide)).trans ((gI_sJ_ne (by decide)).trans ((gI_sI_ne (by decide)).trans ((gI_sJ_ne (by decide)).trans ((gI_sI_ne (by decide)).trans (hF2192.1 231 8 (by decide))))))).trans hv1))
                have x2637 := HI.eqI hI2634 (p := 231) (b := 9) ((((gI_sI_ne (by decide)).trans ((gI_sJ_ne (by decide)).trans ((gI_sI_ne (by decide)).trans ((gI_sJ_ne (by decide)).trans (gI_sI_ne (by decide)))))).trans e2196))
                have x2638 := HI.eqI hI2634 (p := 231) (b := 10) ((gI_sI_eq hI2631.1 kx_231 rfl _))
                have x2639 := HI.eqI hI2634 (p := 231) (b := 11) (((gI_sI_ne (by decide)).trans ((gI_sJ_ne (by decide)).trans (gI_sI_eq hI2470.1 kx_231 rfl _))))
                have zv2640 : (3 : Int32).toInt = 3 := rfl
                have x2641 := HI.eqJ hI2634 (b := 12) (((gJ_sI_ne (by decide)).trans (gJ_sJ_eq hI2628.1 kx_231 rfl _)))
                exact ⟨_, rfl, hI2634, hF2635, rfl, ⟨by omega, by omega, by omega, by omega, by omega, by show (gI _ 231 11).toInt = 1 → (gI _ 231 10).toInt ≤ (gI _ 231 9).toInt + 1 → (gJ _ 231 12).toInt ≤ 26; omega, NEXT.s ((gA_sI).trans ((gA_sJ).trans ((gA_sI).trans ((gA_sJ).trans ((gA_sI).trans (hF2192.2.1 236 (by decide))))))) ((gI_sI_ne (by decide)).trans ((gI_sJ_ne (by decide)).trans ((gI_sI_ne (by decide)).trans ((gI_sJ_ne (by decide)).trans ((gI_sI_ne (by decide)).trans (hF2192.1 231 8 (by decide))))))) (congrArg Int32.toInt ((((gI_sI_ne (by decide)).trans ((gI_sJ_ne (by decide)).trans ((gI_sI_ne (by decide)).trans ((gI_sJ_ne (by decide)).trans (gI_sI_ne (by decide)))))).trans e2196))) (by omega) (by omega) (show _ ≤ (gI g0 231 8).toInt from by omega) (fun j a b => q2201 j a (by omega)) (fun hz => by show (eA g0 236 x2189.toInt).toInt ≠ 32; rw [show (x2189.toInt : Int) = x2189.toInt from by omega, hv2466]; omega) (show _ < (gI g0 231 8).toInt from by omega) (by unfold smP TM; rw [show (x2189.toInt : Int) = x2189.toInt from by omega, hv2466]; omega) (by unfold dgP TM; rw [show (x2189.toInt : Int) = x2189.toInt from by omega, hv2466]; omega) ((congrArg Int32.toInt (((gI_sI_ne (by decide)).trans ((gI_sJ_ne (by decide)).trans (gI_sI_eq hI2470.1 kx_231 rfl _))))).trans rfl) ((congrArg Int32.toInt ((gI_sI_eq hI2631.1 kx_231 rfl _))).trans (show v2633.toInt = x2189.toInt + 1 from by omega)) ((congrArg Int64.toInt (((gJ_sI_ne (by decide)).trans (gJ_sJ_eq hI2628.1 kx_231 rfl _)))).trans (hv2630.trans (show TM g0 x2189.toInt = v2466.toInt from by unfold TM; rw [show (x2189.toInt : Int) = x2189.toInt from by omega, hv2466]).symm))⟩⟩
              · have c2627_ : v2466.toInt ≤ 57 := en_i_gt_f c2627
                exfalso; omega
          · have c2625_ : v2466.toInt ≤ 122 := en_i_gt_f c2625
            refine At.enter rfl ?_
            refine r_iconst 1 rfl ?_
            refine r_goto ?_
            refine At.enter rfl ?_
            refine q_iretz (by decide) ?_
            refine At.enter rfl ?_
            refine r_iff 90 rfl (by decide) ?_
            refine At.enter rfl ?_
            refine r_iconst 1 rfl ?_
            refine r_goto ?_
            refine At.enter rfl ?_
            refine q_putI (Sh.int hI2470.1 kx_231 rfl) rfl ?_
            have hI2643 := HI.wI0 hI2470 kx_231 rfl (p := 231) (b := 11) (v := 1) rfl
            have hF2644 := Fr.wI (p := 231) (b := 11) (v := 1) hF2471 rfl
            refine r_aload_n e2197 ?_
            refine q_getI (Sh.int hI2643.1 kx_231 rfl) 1 (gI_sI_eq hI2470.1 kx_231 rfl _) ?_
            refine r_iconst 3 rfl ?_
            refine r_ict (by decide) ?_
            refine w_loopI (fun n_ l_ g_ => ∃ x2697 : Int32, n_ = 400 - x2697.toInt ∧ HI g_ ∧ Fr F_X11_next_231 A_X11_next_231 g0 g_ ∧ gI g_ 231 10 = x2697 ∧ gI g_ 231 9 = x2189 ∧ gI g_ 231 11 = 1 ∧ en_get 0 l_ = some (.ref 231) ∧ (0 ≤ x2697.toInt ∧ x2697.toInt ≤ 400) ∧ (x2189.toInt ≤ x2697.toInt) ∧ (x2697.toInt ≤ (gI g0 231 8).toInt) ∧ ((x2697.toInt ≤ x2189.toInt → (gJ g_ 231 12).toInt = 0)) ∧ ((x2697.toInt ≤ x2189.toInt + 1 → (gJ g_ 231 12).toInt ≤ 26)) ∧ ((x2697.toInt ≤ x2189.toInt → (eA g0 236 x2697.toInt).toInt = v2466.toInt)) ∧ (WLI g0 x2189.toInt x2697.toInt ((gJ g_ 231 12).toInt))) ?_ (400 - x2189.toInt) ⟨x2189, by first | rfl | omega, hI2643, hF2644, ((gI_sI_ne (by decide)).trans ((gI_sJ_ne (by decide)).trans (gI_sI_eq hI2191.1 kx_231 rfl _))), (((gI_sI_ne (by decide)).trans ((gI_sJ_ne (by decide)).trans (gI_sI_ne (by decide)))).trans e2196), (gI_sI_eq hI2470.1 kx_231 rfl _), e2197, by omega, by omega, by omega, (by have jw := HI.eqJ hI2643 (b := 12) (((gJ_sI_ne (by decide)).trans (gJ_sJ_eq hI2468.1 kx_231 rfl _))); have jz : (0 : Int64).toInt = 0 := rfl; omega), (by have jw := HI.eqJ hI2643 (b := 12) (((gJ_sI_ne (by decide)).trans (gJ_sJ_eq hI2468.1 kx_231 rfl _))); have jz : (0 : Int64).toInt = 0 := rfl; omega), (fun _ => congrArg Int32.toInt hv2466), (WLI.z (by omega) (by have jw := HI.eqJ hI2643 (b := 12) (((gJ_sI_ne (by decide)).trans (gJ_sJ_eq hI2468.1 kx_231 rfl _))); have jz : (0 : Int64).toInt = 0 := rfl; omega))⟩
            rintro n2702 l2701 g2698 ⟨x2697, hm2715, hI2699, hF2700, e2704, e2705, e2706, e2707, r2708, q2709, q2710, q2711, q2712, q2713, q2714⟩ ih2703
            have tv2716 := congrArg Int32.toInt e2705
            have tv2717 := congrArg Int32.toInt e2706
            have tv2718 := congrArg Int32.toInt e2704
            refine At.enter rfl ?_
            refine r_aload_n e2707 ?_
            refine q_getI (Sh.int hI2699.1 kx_231 rfl) 1 e2706 ?_
            refine r_iconst 1 rfl ?_
            refine r_icf 157 rfl (by decide) ?_
            refine At.enter rfl ?_
            refine r_aload_n e2707 ?_
            refine q_getI (Sh.int hI2699.1 kx_231 rfl) x2697 e2704 ?_
            refine r_aload_n e2707 ?_
            refine q_getI (Sh.int hI2699.1 kx_231 rfl) v1 ((hF2700.1 231 8 (by decide)).trans hv1) ?_
            have bv2720 := q_bnd x2697
            refine r_ics 168 rfl (fun c2719 => ?_) (fun c2719 => ?_)
            · have c2719_ : x2697.toInt ≥ v1.toInt := en_i_ge_t c2719
              refine At.enter rfl ?_
              refine r_aload_n e2707 ?_
              refine q_getI (Sh.int hI2699.1 kx_231 rfl) 1 e2706 ?_
              refine r_iconst 2 rfl ?_
              refine r_ict (by decide) ?_
              refine At.enter rfl ?_
              refine r_vret ?_
              have x2721 := HI.eqI hI2699 (p := 231) (b := 8) (((hF2700.1 231 8 (by decide)).trans hv1))
              have x2722 := HI.eqI hI2699 (p := 231) (b := 9) (e2705)
              have x2723 := HI.eqI hI2699 (p := 231) (b := 10) (e2704)
              have x2724 := HI.eqI hI2699 (p := 231) (b := 11) (e2706)
              have zv2725 : (1 : Int32).toInt = 1 := rfl
              obtain ⟨v2726, hv2726⟩ : ∃ v, gJ g2698 231 12 = v := ⟨_, rfl⟩
              have tv2726 := congrArg Int64.toInt hv2726
              have x2727 := HI.eqJ hI2699 (b := 12) (hv2726)
              exact ⟨_, rfl, hI2699, hF2700, rfl, ⟨by omega, by omega, by omega, by omega, by omega, by show (gI _ 231 11).toInt = 1 → (gI _ 231 10).toInt ≤ (gI _ 231 9).toInt + 1 → (gJ _ 231 12).toInt ≤ 26; omega, NEXT.wo (hF2700.2.1 236 (by decide)) (hF2700.1 231 8 (by decide)) (congrArg Int32.toInt (e2705)) (by omega) (by omega) (show _ ≤ (gI g0 231 8).toInt from by omega) (fun j a b => q2201 j a (by omega)) (fun hz => by show (eA g0 236 x2189.toInt).toInt ≠ 32; rw [show (x2189.toInt : Int) = x2189.toInt from by omega, hv2466]; omega) (show _ < (gI g0 231 8).toInt from by omega) ((congrArg Int32.toInt (e2706)).trans rfl) ((congrArg Int32.toInt (e2704)).trans (show x2697.toInt = x2697.toInt from by omega)) (show wth _ = _ from congrArg Int64.toInt (rfl)) q2714 ⟨by omega, show _ ≤ (gI g0 231 8).toInt from by omega⟩ (fun hz => by first | (have hz2 : x2697.toInt < (gI g0 231 8).toInt := hz; exfalso; omega))⟩⟩
            · have c2719_ : x2697.toInt < v1.toInt := en_i_ge_f c2719
              refine At.enter rfl ?_
              refine r_aload_n e2707 ?_
              refine q_getR (Sh.ref hI2699.1 kx_231 rfl) ?_
              refine r_aload_n e2707 ?_
              refine q_getI (Sh.int hI2699.1 kx_231 rfl) x2697 e2704 ?_
              obtain ⟨v2729, hv2729⟩ : ∃ v, eA g0 236 x2697.toInt = v := ⟨_, rfl⟩
              have tv2729 := congrArg Int32.toInt hv2729
              refine q_iald (Sh.arr hI2699.1 ka_236) x2697.toInt rfl (by omega) v2729 ((eA_c (hF2700.2.1 236 (by decide))).trans hv2729) ?_
              refine q_inlS 180 rfl [.int v2729] [] (Nat.le_of_ble_eq_true rfl) rfl ?_
              refine Ev.mk rfl rfl ⟨Nat.le_of_ble_eq_true rfl, Or.inl rfl⟩ ?_
              show At _ none _ _ (0, [(0, .int v2729)], [], (_, _)) _
              refine At.enter rfl ?_
              refine r_iload_n rfl ?_
              refine r_bipush 97 rfl ?_
              refine r_ics 6 rfl (fun c2730 => ?_) (fun c2730 => ?_)
              · have c2730_ : v2729.toInt < 97 := en_i_lt_t c2730
                refine At.enter rfl ?_
                refine r_iconst 0 rfl ?_
                refine Ar.fall 17 rfl ?_
                refine At.enter rfl ?_
                refine q_iretz (by decide) ?_
                refine At.enter rfl ?_
                refine r_ift (by decide) ?_
                refine At.enter rfl ?_
                refine r_aload_n e2707 ?_
                refine q_getI (Sh.int hI2699.1 kx_231 rfl) 1 e2706 ?_
                refine r_iconst 2 rfl ?_
                refine r_ict (by decide) ?_
                refine At.enter rfl ?_
                refine r_vret ?_
                have x2731 := HI.eqI hI2699 (p := 231) (b := 8) (((hF2700.1 231 8 (by decide)).trans hv1))
                have x2732 := HI.eqI hI2699 (p := 231) (b := 9) (e2705)
                have x2733 := HI.eqI hI2699 (p := 231) (b := 10) (e2704)
                have x2734 := HI.eqI hI2699 (p := 231) (b := 11) (e2706)
                have zv2735 : (1 : Int32).toInt = 1 := rfl
                obtain ⟨v2736, hv2736⟩ : ∃ v, gJ g2698 231 12 = v := ⟨_, rfl⟩
                have tv2736 := congrArg Int64.toInt hv2736
                have x2737 := HI.eqJ hI2699 (b := 12) (hv2736)
                exact ⟨_, rfl, hI2699, hF2700, rfl, ⟨by omega, by omega, by omega, by omega, by omega, by show (gI _ 231 11).toInt = 1 → (gI _ 231 10).toInt ≤ (gI _ 231 9).toInt + 1 → (gJ _ 231 12).toInt ≤ 26; omega, NEXT.wo (hF2700.2.1 236 (by decide)) (hF2700.1 231 8 (by decide)) (congrArg Int32.toInt (e2705)) (by omega) (by omega) (show _ ≤ (gI g0 231 8).toInt from by omega) (fun j a b => q2201 j a (by omega)) (fun hz => by show (eA g0 236 x2189.toInt).toInt ≠ 32; rw [show (x2189.toInt : Int) = x2189.toInt from by omega, hv2466]; omega) (show _ < (gI g0 231 8).toInt from by omega) ((congrArg Int32.toInt (e2706)).trans rfl) ((congrArg Int32.toInt (e2704)).trans (show x2697.toInt = x2697.toInt from by omega)) (show wth _ = _ from congrArg Int64.toInt (rfl)) q2714 ⟨by omega, show _ ≤ (gI g0 231 8).toInt from by omega⟩ (fun hz => by first | (have hz2 : x2697.toInt < (gI g0 231 8).toInt := hz; exfalso; omega) | (unfold smP TM; rw [hv2729]; omega))⟩⟩
              · have c2730_ : v2729.toInt ≥ 97 := en_i_lt_f c2730
                refine At.enter rfl ?_
                refine r_iload_n rfl ?_
                refine r_bipush 122 rfl ?_
                refine r_ics 12 rfl (fun c2739 => ?_) (fun c2739 => ?_)
                · have c2739_ : v2729.toInt > 122 := en_i_gt_t c2739
                  refine At.enter rfl ?_
                  refine r_iconst 0 rfl ?_
                  refine Ar.fall 17 rfl ?_
                  refine At.enter rfl ?_
                  refine q_iretz (by decide) ?_
                  refine At.enter rfl ?_
                  refine r_ift (by decide) ?_
                  refine At.enter rfl ?_
                  refine r_aload_n e2707 ?_
                  refine q_getI (Sh.int hI2699.1 kx_231 rfl) 1 e2706 ?_
                  refine r_iconst 2 rfl ?_
                  refine r_ict (by decide) ?_
                  refine At.enter rfl ?_
                  refine r_vret ?_
                  have x2740 := HI.eqI hI2699 (p := 231) (b := 8) (((hF2700.1 231 8 (by decide)).trans hv1))
                  have x2741 := HI.eqI hI2699 (p := 231) (b := 9) (e2705)
                  have x2742 := HI.eqI hI2699 (p := 231) (b := 10) (e2704)
                  have x2743 := HI.eqI hI2699 (p := 231) (b := 11) (e2706)
                  have zv2744 : (1 : Int32).toInt = 1 := rfl
                  obtain ⟨v2745, hv2745⟩ : ∃ v, gJ g2698 231 12 = v := ⟨_, rfl⟩
                  have tv2745 := congrArg Int64.toInt hv2745
                  have x2746 := HI.eqJ hI2699 (b := 12) (hv2745)
                  exact ⟨_, rfl, hI2699, hF2700, rfl, ⟨by omega, by omega, by omega, by omega, by omega, by show (gI _ 231 11).toInt = 1 → (gI _ 231 10).toInt ≤ (gI _ 231 9).toInt + 1 → (gJ _ 231 12).toInt ≤ 26; omega, NEXT.wo (hF2700.2.1 236 (by decide)) (hF2700.1 231 8 (by decide)) (congrArg Int32.toInt (e2705)) (by omega) (by omega) (show _ ≤ (gI g0 231 8).toInt from by omega) (fun j a b => q2201 j a (by omega)) (fun hz => by show (eA g0 236 x2189.toInt).toInt ≠ 32; rw [show (x2189.toInt : Int) = x2189.toInt from by omega, hv2466]; omega) (show _ < (gI g0 231 8).toInt from by omega) ((congrArg Int32.toInt (e2706)).trans rfl) ((congrArg Int32.toInt (e2704)).trans (show x2697.toInt = x2697.toInt from by omega)) (show wth _ = _ from congrArg Int64.toInt (rfl)) q2714 ⟨by omega, show _ ≤ (gI g0 231 8).toInt from by omega⟩ (fun hz => by first | (have hz2 : x2697.toInt < (gI g0 231 8).toInt := hz; exfalso; omega) | (unfold smP TM; rw [hv2729]; omega))⟩⟩
                · have c2739_ : v2729.toInt ≤ 122 := en_i_gt_f c2739
                  refine At.enter rfl ?_
                  refine r_iconst 1 rfl ?_
                  refine r_goto ?_
                  refine At.enter rfl ?_
                  refine q_iretz (by decide) ?_
                  refine At.enter rfl ?_
                  refine r_iff 183 rfl (by decide) ?_
                  refine At.enter rfl ?_
                  refine r_aload_n e2707 ?_
                  refine r_aload_n e2707 ?_
                  refine q_getI (Sh.int hI2699.1 kx_231 rfl) x2697 e2704 ?_
                  refine r_aload_n e2707 ?_
                  refine q_getI (Sh.int hI2699.1 kx_231 rfl) x2189 e2705 ?_
                  refine q_isub (x2697.toInt - x2189.toInt) rfl (by omega) (fun v2748 hv2748 => ?_)
                  refine r_bipush 10 rfl ?_
                  refine r_ics 198 rfl (fun c2749 => ?_) (fun c2749 => ?_)
                  · have c2749_ : v2748.toInt ≥ 10 := en_i_ge_t c2749
                    refine At.enter rfl ?_
                    refine r_ldc2 (-1) rfl ?_
                    refine Ar.fall 227 rfl ?_
                    refine At.enter rfl ?_
                    refine q_putJ (Sh.long hI2699.1 kx_231 rfl) rfl ?_
                    have hI2750 := HI.wJ hI2699 kx_231 rfl (p := 231) (b := 12) (v := (-1))
                    have hF2751 := Fr.wJ (p := 231) (b := 12) (v := (-1)) hF2700 rfl
                    refine r_aload_n e2707 ?_
                    refine r_dup rfl ?_
                    refine q_getI (Sh.int hI2750.1 kx_231 rfl) x2697 ((gI_sJ_ne (by decide)).trans e2704) ?_
                    refine r_iconst 1 rfl ?_
                    refine q_iadd (x2697.toInt + 1) rfl (by omega) (fun v2752 hv2752 => ?_)
                    refine q_putI (Sh.int hI2750.1 kx_231 rfl) rfl ?_
                    have hI2753 := HI.wI1 hI2750 kx_231 rfl (p := 231) (b := 10) (v := v2752) rfl (by dsimp only; omega)
                    have hF2754 := Fr.wI (p := 231) (b := 10) (v := v2752) hF2751 rfl
                    refine r_goto ?_
                    exact ih2703 (400 - v2752.toInt) _ _ ⟨v2752, by first | rfl | omega, hI2753, hF2754, (gI_sI_eq hI2750.1 kx_231 rfl _), (((gI_sI_ne (by decide)).trans (gI_sJ_ne (by decide))).trans e2705), (((gI_sI_ne (by decide)).trans (gI_sJ_ne (by decide))).trans e2706), e2707, by omega, by omega, by omega, (by have jw := HI.eqJ hI2753 (b := 12) (((gJ_sI_ne (by decide)).trans (gJ_sJ_eq hI2699.1 kx_231 rfl _))); have jz : ((-1) : Int64).toInt = (-1) := rfl; omega), (by have jw := HI.eqJ hI2753 (b := 12) (((gJ_sI_ne (by decide)).trans (gJ_sJ_eq hI2699.1 kx_231 rfl _))); have jz : ((-1) : Int64).toInt = (-1) := rfl; omega), (fun h => absurd h (by omega)), (by rw [show (gJ _ 231 12).toInt = ((-1) : Int64).toInt from congrArg Int64.toInt (((gJ_sI_ne (by decide)).trans (gJ_sJ_eq hI2699.1 kx_231 rfl _)))]; exact WLI.st2 q2714 (show smP (TM g0 x2697.toInt) from by unfold smP TM; rw [hv2729]; omega) (show v2752.toInt = x2697.toInt + 1 from by omega) (by omega) rfl)⟩ ⟨by omega, by omega⟩
                  · have c2749_ : v2748.toInt < 10 := en_i_ge_f c2749
                    refine At.enter rfl ?_
                    refine r_aload_n e2707 ?_
                    obtain ⟨v2755, hv2755⟩ : ∃ v, gJ g2698 231 12 = v := ⟨_, rfl⟩
                    have tv2755 := congrArg Int64.toInt hv2755
                    refine q_getJv (Sh.long hI2699.1 kx_231 rfl) v2755 hv2755 ?_
                    refine r_ldc2 32 rfl ?_
                    refine q_lmulO (fun v2756 lv2756 => ?_)
                    have kv2756 := l_mul lv2756
                    have zv2757 : (32 : Int64).toInt = 32 := rfl
                    refine r_aload_n e2707 ?_
                    refine q_getR (Sh.ref hI2699.1 kx_231 rfl) ?_
                    refine r_aload_n e2707 ?_
                    refine q_getI (Sh.int hI2699.1 kx_231 rfl) x2697 e2704 ?_
                    refine q_iald (Sh.arr hI2699.1 ka_236) x2697.toInt rfl (by omega) v2729 ((eA_c (hF2700.2.1 236 (by decide))).trans hv2729) ?_
                    refine q_i2l (fun v2758 hv2758 => ?_)
                    refine q_laddO (fun v2759 lv2759 => ?_)
                    have kv2759 := l_add lv2759
                    refine r_ldc2 96 rfl ?_
                    refine q_lsubO (fun v2760 lv2760 => ?_)
                    have kv2760 := l_sub lv2760
                    have zv2761 : (96 : Int64).toInt = 96 := rfl
                    refine r_goto ?_
                    refine At.enter rfl ?_
                    refine q_putJ (Sh.long hI2699.1 kx_231 rfl) rfl ?_
                    have hI2762 := HI.wJ hI2699 kx_231 rfl (p := 231) (b := 12) (v := v2760)
                    have hF2763 := Fr.wJ (p := 231) (b := 12) (v := v2760) hF2700 rfl
                    refine r_aload_n e2707 ?_
                    refine r_dup rfl ?_
                    refine q_getI (Sh.int hI2762.1 kx_231 rfl) x2697 ((gI_sJ_ne (by decide)).trans e2704) ?_
                    refine r_iconst 1 rfl ?_
                    refine q_iadd (x2697.toInt + 1) rfl (by omega) (fun v2764 hv2764 => ?_)
                    refine q_putI (Sh.int hI2762.1 kx_231 rfl) rfl ?_
                    have hI2765 := HI.wI1 hI2762 kx_231 rfl (p := 231) (b := 10) (v := v2764) rfl (by dsimp only; omega)
                    have hF2766 := Fr.wI (p := 231) (b := 10) (v := v2764) hF2763 rfl
                    refine r_goto ?_
                    exact ih2703 (400 - v2764.toInt) _ _ ⟨v2764, by first | rfl | omega, hI2765, hF2766, (gI_sI_eq hI2762.1 kx_231 rfl _), (((gI_sI_ne (by decide)).trans (gI_sJ_ne (by decide))).trans e2705), (((gI_sI_ne (by decide)).trans (gI_sJ_ne (by decide))).trans e2706), e2707, by omega, by omega, by omega, (by have jw := HI.eqJ hI2765 (b := 12) (((gJ_sI_ne (by decide)).trans (gJ_sJ_eq hI2699.1 kx_231 rfl _))); omega), (by have jw := HI.eqJ hI2765 (b := 12) (((gJ_sI_ne (by decide)).trans (gJ_sJ_eq hI2699.1 kx_231 rfl _))); omega), (fun h => absurd h (by omega)), (by rw [show (gJ _ 231 12).toInt = v2760.toInt from congrArg Int64.toInt (((gJ_sI_ne (by decide)).trans (gJ_sJ_eq hI2699.1 kx_231 rfl _)))]; exact WLI.st (show WLI g0 _ _ v2755.toInt from by rw [← hv2755]; exact q2714) (by omega) (show smP (TM g0 x2697.toInt) from by unfold smP TM; rw [hv2729]; omega) (show v2764.toInt = x2697.toInt + 1 from by omega) (by omega) rfl lv2756 (hv2758.trans (congrArg Int32.toInt hv2729).symm) lv2759 rfl lv2760)⟩ ⟨by omega, by omega⟩
      · have c2472_ : x2189.toInt = v1.toInt := en_i_ne_f c2472
        refine At.enter rfl ?_
        refine r_iconst 0 rfl ?_
        refine r_goto ?_
        refine At.enter rfl ?_
        refine q_putI (Sh.int hI2470.1 kx_231 rfl) rfl ?_
        have hI2767 := HI.wI0 hI2470 kx_231 rfl (p := 231) (b := 11) (v := 0) rfl
        have hF2768 := Fr.wI (p := 231) (b := 11) (v := 0) hF2471 rfl
        refine r_aload_n e2197 ?_
        refine q_getI (Sh.int hI2767.1 kx_231 rfl) 0 (gI_sI_eq hI2470.1 kx_231 rfl _) ?_
        refine r_iconst 3 rfl ?_
        refine r_ict (by decide) ?_
        refine At.enter rfl ?_
        refine r_aload_n e2197 ?_
        refine q_getI (Sh.int hI2767.1 kx_231 rfl) 0 (gI_sI_eq hI2470.1 kx_231 rfl _) ?_
        refine r_iconst 1 rfl ?_
        refine r_ict (by decide) ?_
        refine At.enter rfl ?_
        refine r_aload_n e2197 ?_
        refine q_getI (Sh.int hI2767.1 kx_231 rfl) 0 (gI_sI_eq hI2470.1 kx_231 rfl _) ?_
        refine r_iconst 2 rfl ?_
        refine r_ict (by decide) ?_
        refine At.enter rfl ?_
        refine r_vret ?_
        have x2769 := HI.eqI hI2767 (p := 231) (b := 8) ((((gI_sI_ne (by decide)).trans ((gI_sJ_ne (by decide)).trans ((gI_sI_ne (by decide)).trans (hF2192.1 231 8 (by decide))))).trans hv1))
        have x2770 := HI.eqI hI2767 (p := 231) (b := 9) ((((gI_sI_ne (by decide)).trans ((gI_sJ_ne (by decide)).trans (gI_sI_ne (by decide)))).trans e2196))
        have x2771 := HI.eqI hI2767 (p := 231) (b := 10) (((gI_sI_ne (by decide)).trans ((gI_sJ_ne (by decide)).trans (gI_sI_eq hI2191.1 kx_231 rfl _))))
        have x2772 := HI.eqI hI2767 (p := 231) (b := 11) ((gI_sI_eq hI2470.1 kx_231 rfl _))
        have zv2773 : (0 : Int32).toInt = 0 := rfl
        have x2774 := HI.eqJ hI2767 (b := 12) (((gJ_sI_ne (by decide)).trans (gJ_sJ_eq hI2468.1 kx_231 rfl _)))
        have zv2775 : (0 : Int64).toInt = 0 := rfl
        exact ⟨_, rfl, hI2767, hF2768, rfl, ⟨by omega, by omega, by omega, by omega, by omega, by show (gI _ 231 11).toInt = 1 → (gI _ 231 10).toInt ≤ (gI _ 231 9).toInt + 1 → (gJ _ 231 12).toInt ≤ 26; omega, NEXT.e ((gA_sI).trans ((gA_sJ).trans ((gA_sI).trans (hF2192.2.1 236 (by decide))))) ((gI_sI_ne (by decide)).trans ((gI_sJ_ne (by decide)).trans ((gI_sI_ne (by decide)).trans (hF2192.1 231 8 (by decide))))) (congrArg Int32.toInt ((((gI_sI_ne (by decide)).trans ((gI_sJ_ne (by decide)).trans (gI_sI_ne (by decide)))).trans e2196))) (by omega) (by omega) (show _ ≤ (gI g0 231 8).toInt from by omega) (fun j a b => q2201 j a (by omega)) (fun hz => by show (eA g0 236 x2189.toInt).toInt ≠ 32; rw [show (x2189.toInt : Int) = x2189.toInt from by omega, hv2466]; omega) (show _ = (gI g0 231 8).toInt from by omega) ((congrArg Int32.toInt ((gI_sI_eq hI2470.1 kx_231 rfl _))).trans rfl) ((congrArg Int32.toInt (((gI_sI_ne (by decide)).trans ((gI_sJ_ne (by decide)).trans (gI_sI_eq hI2191.1 kx_231 rfl _))))).trans (show x2189.toInt = x2189.toInt from by omega))⟩⟩
    · have c2467_ : v2466.toInt = 32 := en_i_ne_f c2467
      refine At.enter rfl ?_
      refine r_aload_n e2197 ?_
      refine r_dup rfl ?_
      refine q_getI (Sh.int hI2191.1 kx_231 rfl) x2189 e2196 ?_
      refine r_iconst 1 rfl ?_
      refine q_iadd (x2189.toInt + 1) rfl (by omega) (fun v2777 hv2777 => ?_)
      refine q_putI (Sh.int hI2191.1 kx_231 rfl) rfl ?_
      have hI2778 := HI.wI1 hI2191 kx_231 rfl (p := 231) (b := 9) (v := v2777) rfl (by dsimp only; omega)
      have hF2779 := Fr.wI (p := 231) (b := 9) (v := v2777) hF2192 rfl
      refine r_goto ?_
      exact ih2195 (400 - v2777.toInt) _ _ ⟨v2777, by first | rfl | omega, hI2778, hF2779, (gI_sI_eq hI2191.1 kx_231 rfl _), e2197, by omega, by omega, by omega, (BLKM.st q2201 (show v2777.toInt = x2189.toInt + 1 from by omega) (by show (eA g0 236 x2189.toInt).toInt = 32; rw [hv2466]; omega))⟩ ⟨by omega, by omega⟩
