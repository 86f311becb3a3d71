def F_X11_next_231 : List (Nat × Nat) := [(231, 9), (231, 10), (231, 11), (231, 12)]
def A_X11_next_231 : List Nat := []
set_option maxRecDepth 100000 in
set_option maxHeartbeats 4000000 in
theorem T_X11_next_231 (d : Nat) {N : Nat} {g0 : List en_E} (hI0 : HI g0) (h1 : (gI g0 231 10).toInt ≤ (gI g0 231 8).toInt) : Ev (d + 2) 190 [.ref 231] (g0, N) (fun w h' => ∃ g', h' = (g', N) ∧ HI g' ∧ Fr F_X11_next_231 A_X11_next_231 g0 g' ∧ w = none ∧ ((gI g' 231 9).toInt ≤ (gI g' 231 10).toInt ∧ (gI g' 231 10).toInt ≤ (gI g' 231 8).toInt ∧ 0 ≤ (gI g' 231 11).toInt ∧ (gI g' 231 11).toInt ≤ 3 * ((gI g' 231 10).toInt - (gI g' 231 9).toInt) ∧ (gI g0 231 10).toInt ≤ (gI g' 231 9).toInt ∧ W26 g')) := by
  have hF0 : Fr F_X11_next_231 A_X11_next_231 g0 g0 := Fr.rf
  obtain ⟨v1, hv1⟩ : ∃ v, gI g0 231 8 = v := ⟨_, rfl⟩
  have rv1 := RgF.at hI0.2.1 (p := 231) (b := 8) rfl
  rw [hv1] at rv1
  dsimp only at rv1
  have tv1 := congrArg Int32.toInt hv1
  obtain ⟨v2, hv2⟩ : ∃ v, gI g0 231 10 = v := ⟨_, rfl⟩
  have rv2 := RgF.at hI0.2.1 (p := 231) (b := 10) rfl
  rw [hv2] at rv2
  dsimp only at rv2
  have tv2 := congrArg Int32.toInt hv2
  refine Ev.mk rfl rfl ⟨Nat.le_of_ble_eq_true rfl, Or.inr (q_rc hI0.1 kx_231 rfl)⟩ ?_
  show At _ none _ _ (0, [(0, .ref 231)], [], (_, _)) _
  refine At.enter rfl ?_
  refine r_aload_n rfl ?_
  refine r_aload_n rfl ?_
  refine q_getI (Sh.int hI0.1 kx_231 rfl) v2 hv2 ?_
  refine q_putI (Sh.int hI0.1 kx_231 rfl) rfl ?_
  have hI1745 := HI.wI1 hI0 kx_231 rfl (p := 231) (b := 9) (v := v2) rfl (by dsimp only; omega)
  have hF1746 := Fr.wI (p := 231) (b := 9) (v := v2) hF0 rfl
  refine Ar.fall 8 rfl ?_
  refine w_loopI (fun n_ l_ g_ => ∃ x2167 : Int32, n_ = 400 - x2167.toInt ∧ HI g_ ∧ Fr F_X11_next_231 A_X11_next_231 g0 g_ ∧ gI g_ 231 9 = x2167 ∧ en_get 0 l_ = some (.ref 231) ∧ (0 ≤ x2167.toInt ∧ x2167.toInt ≤ 400) ∧ (x2167.toInt ≤ (gI g0 231 8).toInt) ∧ ((gI g0 231 10).toInt ≤ x2167.toInt)) ?_ (400 - v2.toInt) ⟨v2, by first | rfl | omega, hI1745, hF1746, (gI_sI_eq hI0.1 kx_231 rfl _), rfl, by omega, by omega, by omega⟩
  rintro n2172 l2171 g2168 ⟨x2167, hm2179, hI2169, hF2170, e2174, e2175, r2176, q2177, q2178⟩ ih2173
  have tv2180 := congrArg Int32.toInt e2174
  refine At.enter rfl ?_
  refine r_aload_n e2175 ?_
  refine q_getI (Sh.int hI2169.1 kx_231 rfl) x2167 e2174 ?_
  refine r_aload_n e2175 ?_
  refine q_getI (Sh.int hI2169.1 kx_231 rfl) v1 ((hF2170.1 231 8 (by decide)).trans hv1) ?_
  have bv2182 := q_bnd x2167
  have bv2183 := q_bnd v1
  refine r_ics 19 rfl (fun c2181 => ?_) (fun c2181 => ?_)
  · have c2181_ : x2167.toInt ≥ v1.toInt := en_i_ge_t c2181
    refine At.enter rfl ?_
    refine r_aload_n e2175 ?_
    refine r_aload_n e2175 ?_
    refine q_getI (Sh.int hI2169.1 kx_231 rfl) x2167 e2174 ?_
    refine q_putI (Sh.int hI2169.1 kx_231 rfl) rfl ?_
    have hI2184 := HI.wI1 hI2169 kx_231 rfl (p := 231) (b := 10) (v := x2167) rfl (by dsimp only; omega)
    have hF2185 := Fr.wI (p := 231) (b := 10) (v := x2167) hF2170 rfl
    refine r_aload_n e2175 ?_
    refine r_lconst 0 rfl ?_
    refine q_putJ (Sh.long hI2184.1 kx_231 rfl) rfl ?_
    have hI2186 := HI.wJ hI2184 kx_231 rfl (p := 231) (b := 12) (v := 0)
    have hF2187 := Fr.wJ (p := 231) (b := 12) (v := 0) hF2185 rfl
    refine r_aload_n e2175 ?_
    refine r_aload_n e2175 ?_
    refine q_getI (Sh.int hI2186.1 kx_231 rfl) x2167 (((gI_sJ_ne (by decide)).trans (gI_sI_ne (by decide))).trans e2174) ?_
    refine r_aload_n e2175 ?_
    refine q_getI (Sh.int hI2186.1 kx_231 rfl) v1 (((gI_sJ_ne (by decide)).trans ((gI_sI_ne (by decide)).trans (hF2170.1 231 8 (by decide)))).trans hv1) ?_
    refine r_ics 71 rfl (fun c2188 => ?_) (fun c2188 => ?_)
    · have c2188_ : x2167.toInt ≠ v1.toInt := en_i_ne_t c2188
      refine At.enter rfl ?_
      refine r_aload_n e2175 ?_
      refine q_getR (Sh.ref hI2186.1 kx_231 rfl) ?_
      refine r_aload_n e2175 ?_
      refine q_getI (Sh.int hI2186.1 kx_231 rfl) x2167 (((gI_sJ_ne (by decide)).trans (gI_sI_ne (by decide))).trans e2174) ?_
      obtain ⟨v2189, hv2189⟩ : ∃ v, eA g0 236 x2167.toInt = v := ⟨_, rfl⟩
      have tv2189 := congrArg Int32.toInt hv2189
      refine q_iald (Sh.arr hI2186.1 ka_236) x2167.toInt rfl (by omega) v2189 ((eA_c ((gA_sJ).trans ((gA_sI).trans (hF2170.2.1 236 (by decide))))).trans hv2189) ?_
      refine q_inlS 87 rfl [.int v2189] [.ref 231] (Nat.le_of_ble_eq_true rfl) rfl ?_
      refine Ev.mk rfl rfl ⟨Nat.le_of_ble_eq_true rfl, Or.inl rfl⟩ ?_
      show At _ none _ _ (0, [(0, .int v2189)], [], (_, _)) _
      refine At.enter rfl ?_
      refine r_iload_n rfl ?_
      refine r_bipush 97 rfl ?_
      refine r_ics 6 rfl (fun c2190 => ?_) (fun c2190 => ?_)
      · have c2190_ : v2189.toInt < 97 := en_i_lt_t c2190
        refine At.enter rfl ?_
        refine r_iconst 0 rfl ?_
        refine Ar.fall 17 rfl ?_
        refine At.enter rfl ?_
        refine q_iretz (by decide) ?_
        refine At.enter rfl ?_
        refine r_ift (by decide) ?_
        refine At.enter rfl ?_
        refine r_aload_n e2175 ?_
        refine q_getR (Sh.ref hI2186.1 kx_231 rfl) ?_
        refine r_aload_n e2175 ?_
        refine q_getI (Sh.int hI2186.1 kx_231 rfl) x2167 (((gI_sJ_ne (by decide)).trans (gI_sI_ne (by decide))).trans e2174) ?_
        refine q_iald (Sh.arr hI2186.1 ka_236) x2167.toInt rfl (by omega) v2189 ((eA_c ((gA_sJ).trans ((gA_sI).trans (hF2170.2.1 236 (by decide))))).trans hv2189) ?_
        refine q_inlS 106 rfl [.int v2189] [.ref 231] (Nat.le_of_ble_eq_true rfl) rfl ?_
        refine Ev.mk rfl rfl ⟨Nat.le_of_ble_eq_true rfl, Or.inl rfl⟩ ?_
        show At _ none _ _ (0, [(0, .int v2189)], [], (_, _)) _
        refine At.enter rfl ?_
        refine r_iload_n rfl ?_
        refine r_bipush 48 rfl ?_
        refine r_ics 6 rfl (fun c2191 => ?_) (fun c2191 => ?_)
        · have c2191_ : v2189.toInt < 48 := en_i_lt_t c2191
          refine At.enter rfl ?_
          refine r_iconst 0 rfl ?_
          refine Ar.fall 17 rfl ?_
          refine At.enter rfl ?_
          refine q_iretz (by decide) ?_
          refine At.enter rfl ?_
          refine r_ift (by decide) ?_
          refine At.enter rfl ?_
          refine r_iconst 3 rfl ?_
          refine Ar.fall 114 rfl ?_
          refine At.enter rfl ?_
          refine q_putI (Sh.int hI2186.1 kx_231 rfl) rfl ?_
          have hI2192 := HI.wI0 hI2186 kx_231 rfl (p := 231) (b := 11) (v := 3) rfl
          have hF2193 := Fr.wI (p := 231) (b := 11) (v := 3) hF2187 rfl
          refine r_aload_n e2175 ?_
          refine q_getI (Sh.int hI2192.1 kx_231 rfl) 3 (gI_sI_eq hI2186.1 kx_231 rfl _) ?_
          refine r_iconst 3 rfl ?_
          refine r_icf 125 rfl (by decide) ?_
          refine At.enter rfl ?_
          refine r_aload_n e2175 ?_
          refine r_aload_n e2175 ?_
          refine q_getR (Sh.ref hI2192.1 kx_231 rfl) ?_
          refine r_aload_n e2175 ?_
          refine q_getI (Sh.int hI2192.1 kx_231 rfl) x2167 (((gI_sI_ne (by decide)).trans ((gI_sJ_ne (by decide)).trans (gI_sI_ne (by decide)))).trans e2174) ?_
          refine q_iald (Sh.arr hI2192.1 ka_236) x2167.toInt rfl (by omega) v2189 ((eA_c ((gA_sI).trans ((gA_sJ).trans ((gA_sI).trans (hF2170.2.1 236 (by decide)))))).trans hv2189) ?_
          refine q_i2l (fun v2194 hv2194 => ?_)
          refine q_putJ (Sh.long hI2192.1 kx_231 rfl) rfl ?_
          have hI2195 := HI.wJ hI2192 kx_231 rfl (p := 231) (b := 12) (v := v2194)
          have hF2196 := Fr.wJ (p := 231) (b := 12) (v := v2194) hF2193 rfl
          refine r_aload_n e2175 ?_
          refine r_dup rfl ?_
          refine q_getI (Sh.int hI2195.1 kx_231 rfl) x2167 ((gI_sJ_ne (by decide)).trans ((gI_sI_ne (by decide)).trans ((gI_sJ_ne (by decide)).trans (gI_sI_eq hI2169.1 kx_231 rfl _)))) ?_
          refine r_iconst 1 rfl ?_
          refine q_iadd (x2167.toInt + 1) rfl (by omega) (fun v2197 hv2197 => ?_)
          refine q_putI (Sh.int hI2195.1 kx_231 rfl) rfl ?_
          have hI2198 := HI.wI1 hI2195 kx_231 rfl (p := 231) (b := 10) (v := v2197) rfl (by dsimp only; omega)
          have hF2199 := Fr.wI (p := 231) (b := 10) (v := v2197) hF2196 rfl
          refine Ar.fall 149 rfl ?_
          refine At.enter rfl ?_
          refine r_aload_n e2175 ?_
          refine q_getI (Sh.int hI2198.1 kx_231 rfl) 3 ((gI_sI_ne (by decide)).trans ((gI_sJ_ne (by decide)).trans (gI_sI_eq hI2186.1 kx_231 rfl _))) ?_
          refine r_iconst 1 rfl ?_
          refine r_ict (by decide) ?_
          refine At.enter rfl ?_
          refine r_aload_n e2175 ?_
          refine q_getI (Sh.int hI2198.1 kx_231 rfl) 3 ((gI_sI_ne (by decide)).trans ((gI_sJ_ne (by decide)).trans (gI_sI_eq hI2186.1 kx_231 rfl _))) ?_
          refine r_iconst 2 rfl ?_
          refine r_ict (by decide) ?_
          refine At.enter rfl ?_
          refine r_vret ?_
          have x2200 := HI.eqI hI2198 (p := 231) (b := 8) ((((gI_sI_ne (by decide)).trans ((gI_sJ_ne (by decide)).trans ((gI_sI_ne (by decide)).trans ((gI_sJ_ne (by decide)).trans ((gI_sI_ne (by decide)).trans (hF2170.1 231 8 (by decide))))))).trans hv1))
          have x2201 := HI.eqI hI2198 (p := 231) (b := 9) ((((gI_sI_ne (by decide)).trans ((gI_sJ_ne (by decide)).trans ((gI_sI_ne (by decide)).trans ((gI_sJ_ne (by decide)).trans (gI_sI_ne (by decide)))))).trans e2174))
          have x2202 := HI.eqI hI2198 (p := 231) (b := 10) ((gI_sI_eq hI2195.1 kx_231 rfl _))
          have x2203 := HI.eqI hI2198 (p := 231) (b := 11) (((gI_sI_ne (by decide)).trans ((gI_sJ_ne (by decide)).trans (gI_sI_eq hI2186.1 kx_231 rfl _))))
          have zv2204 : (3 : Int32).toInt = 3 := rfl
          have x2205 := HI.eqJ hI2198 (b := 12) (((gJ_sI_ne (by decide)).trans (gJ_sJ_eq hI2192.1 kx_231 rfl _)))
          have x2206 := HI.eqI hI0 (p := 231) (b := 10) (hv2)
          exact ⟨_, rfl, hI2198, hF2199, rfl, ⟨by omega, by omega, by omega, by omega, by omega, by show (gI _ 231 11).toInt = 1 → (gI _ 231 10).toInt ≤ (gI _ 231 9).toInt + 1 → (gJ _ 231 12).toInt ≤ 26; omega⟩⟩
        · have c2191_ : v2189.toInt ≥ 48 := en_i_lt_f c2191
          refine At.enter rfl ?_
          refine r_iload_n rfl ?_
          refine r_bipush 57 rfl ?_
          refine r_ics 12 rfl (fun c2207 => ?_) (fun c2207 => ?_)
          · have c2207_ : v2189.toInt > 57 := en_i_gt_t c2207
            refine At.enter rfl ?_
            refine r_iconst 0 rfl ?_
            refine Ar.fall 17 rfl ?_
            refine At.enter rfl ?_
            refine q_iretz (by decide) ?_
            refine At.enter rfl ?_
            refine r_ift (by decide) ?_
            refine At.enter rfl ?_
            refine r_iconst 3 rfl ?_
            refine Ar.fall 114 rfl ?_
            refine At.enter rfl ?_
            refine q_putI (Sh.int hI2186.1 kx_231 rfl) rfl ?_
            have hI2208 := HI.wI0 hI2186 kx_231 rfl (p := 231) (b := 11) (v := 3) rfl
            have hF2209 := Fr.wI (p := 231) (b := 11) (v := 3) hF2187 rfl
            refine r_aload_n e2175 ?_
            refine q_getI (Sh.int hI2208.1 kx_231 rfl) 3 (gI_sI_eq hI2186.1 kx_231 rfl _) ?_
            refine r_iconst 3 rfl ?_
            refine r_icf 125 rfl (by decide) ?_
            refine At.enter rfl ?_
            refine r_aload_n e2175 ?_
            refine r_aload_n e2175 ?_
            refine q_getR (Sh.ref hI2208.1 kx_231 rfl) ?_
            refine r_aload_n e2175 ?_
            refine q_getI (Sh.int hI2208.1 kx_231 rfl) x2167 (((gI_sI_ne (by decide)).trans ((gI_sJ_ne (by decide)).trans (gI_sI_ne (by decide)))).trans e2174) ?_
            refine q_iald (Sh.arr hI2208.1 ka_236) x2167.toInt rfl (by omega) v2189 ((eA_c ((gA_sI).trans ((gA_sJ).trans ((gA_sI).trans (hF2170.2.1 236 (by decide)))))).trans hv2189) ?_
            refine q_i2l (fun v2210 hv2210 => ?_)
            refine q_putJ (Sh.long hI2208.1 kx_231 rfl) rfl ?_
            have hI2211 := HI.wJ hI2208 kx_231 rfl (p := 231) (b := 12) (v := v2210)
            have hF2212 := Fr.wJ (p := 231) (b := 12) (v := v2210) hF2209 rfl
            refine r_aload_n e2175 ?_
            refine r_dup rfl ?_
            refine q_getI (Sh.int hI2211.1 kx_231 rfl) x2167 ((gI_sJ_ne (by decide)).trans ((gI_sI_ne (by decide)).trans ((gI_sJ_ne (by decide)).trans (gI_sI_eq hI2169.1 kx_231 rfl _)))) ?_
            refine r_iconst 1 rfl ?_
            refine q_iadd (x2167.toInt + 1) rfl (by omega) (fun v2213 hv2213 => ?_)
            refine q_putI (Sh.int hI2211.1 kx_231 rfl) rfl ?_
            have hI2214 := HI.wI1 hI2211 kx_231 rfl (p := 231) (b := 10) (v := v2213) rfl (by dsimp only; omega)
            have hF2215 := Fr.wI (p := 231) (b := 10) (v := v2213) hF2212 rfl
            refine Ar.fall 149 rfl ?_
            refine At.enter rfl ?_
            refine r_aload_n e2175 ?_
            refine q_getI (Sh.int hI2214.1 kx_231 rfl) 3 ((gI_sI_ne (by decide)).trans ((gI_sJ_ne (by decide)).trans (gI_sI_eq hI2186.1 kx_231 rfl _))) ?_
            refine r_iconst 1 rfl ?_
            refine r_ict (by decide) ?_
            refine At.enter rfl ?_
            refine r_aload_n e2175 ?_
            refine q_getI (Sh.int hI2214.1 kx_231 rfl) 3 ((gI_sI_ne (by decide)).trans ((gI_sJ_ne (by decide)).trans (gI_sI_eq hI2186.1 kx_231 rfl _))) ?_
            refine r_iconst 2 rfl ?_
            refine r_ict (by decide) ?_
            refine At.enter rfl ?_
            refine r_vret ?_
            have x2216 := HI.eqI hI2214 (p := 231) (b := 8) ((((gI_sI_ne (by decide)).trans ((gI_sJ_ne (by decide)).trans ((gI_sI_ne (by decide)).trans ((gI_sJ_ne (by decide)).trans ((gI_sI_ne (by decide)).trans (hF2170.1 231 8 (by decide))))))).trans hv1))
            have x2217 := HI.eqI hI2214 (p := 231) (b := 9) ((((gI_sI_ne (by decide)).trans ((gI_sJ_ne (by decide)).trans ((gI_sI_ne (by decide)).trans ((gI_sJ_ne (by decide)).trans (gI_sI_ne (by decide)))))).trans e2174))
            have x2218 := HI.eqI hI2214 (p := 231) (b := 10) ((gI_sI_eq hI2211.1 kx_231 rfl _))
            have x2219 := HI.eqI hI2214 (p := 231) (b := 11) (((gI_sI_ne (by decide)).trans ((gI_sJ_ne (by decide)).trans (gI_sI_eq hI2186.1 kx_231 rfl _))))
            have zv2220 : (3 : Int32).toInt = 3 := rfl
            have x2221 := HI.eqJ hI2214 (b := 12) (((gJ_sI_ne (by decide)).trans (gJ_sJ_eq hI2208.1 kx_231 rfl _)))
            have x2222 := HI.eqI hI0 (p := 231) (b := 10) (hv2)
            exact ⟨_, rfl, hI2214, hF2215, rfl, ⟨by omega, by omega, by omega, by omega, by omega, by show (gI _ 231 11).toInt = 1 → (gI _ 231 10).toInt ≤ (gI _ 231 9).toInt + 1 → (gJ _ 231 12).toInt ≤ 26; omega⟩⟩
          · have c2207_ : v2189.toInt ≤ 57 := en_i_gt_f c2207
            refine At.enter rfl ?_
            refine r_iconst 1 rfl ?_
            refine r_goto ?_
            refine At.enter rfl ?_
            refine q_iretz (by decide) ?_
            refine At.enter rfl ?_
            refine r_iff 109 rfl (by decide) ?_
            refine At.enter rfl ?_
            refine r_iconst 2 rfl ?_
            refine r_goto ?_
            refine At.enter rfl ?_
            refine q_putI (Sh.int hI2186.1 kx_231 rfl) rfl ?_
            have hI2223 := HI.wI0 hI2186 kx_231 rfl (p := 231) (b := 11) (v := 2) rfl
            have hF2224 := Fr.wI (p := 231) (b := 11) (v := 2) hF2187 rfl
            refine r_aload_n e2175 ?_
            refine q_getI (Sh.int hI2223.1 kx_231 rfl) 2 (gI_sI_eq hI2186.1 kx_231 rfl _) ?_
            refine r_iconst 3 rfl ?_
            refine r_ict (by decide) ?_
            refine At.enter rfl ?_
            refine r_aload_n e2175 ?_
            refine q_getI (Sh.int hI2223.1 kx_231 rfl) 2 (gI_sI_eq hI2186.1 kx_231 rfl _) ?_
            refine r_iconst 1 rfl ?_
            refine r_ict (by decide) ?_
            refine w_loopI (fun n_ l_ g_ => ∃ x2250 : Int32, n_ = 400 - x2250.toInt ∧ HI g_ ∧ Fr F_X11_next_231 A_X11_next_231 g0 g_ ∧ gI g_ 231 10 = x2250 ∧ gI g_ 231 9 = x2167 ∧ gI g_ 231 11 = 2 ∧ en_get 0 l_ = some (.ref 231) ∧ (0 ≤ x2250.toInt ∧ x2250.toInt ≤ 400) ∧ (x2167.toInt ≤ x2250.toInt) ∧ (x2250.toInt ≤ (gI g0 231 8).toInt) ∧ ((x2250.toInt ≤ x2167.toInt → (eA g0 236 x2250.toInt).toInt = v2189.toInt))) ?_ (400 - x2167.toInt) ⟨x2167, by first | rfl | omega, hI2223, hF2224, ((gI_sI_ne (by decide)).trans ((gI_sJ_ne (by decide)).trans (gI_sI_eq hI2169.1 kx_231 rfl _))), (((gI_sI_ne (by decide)).trans ((gI_sJ_ne (by decide)).trans (gI_sI_ne (by decide)))).trans e2174), (gI_sI_eq hI2186.1 kx_231 rfl _), e2175, by omega, by omega, by omega, (fun _ => congrArg Int32.toInt hv2189)⟩
            rintro n2255 l2254 g2251 ⟨x2250, hm2265, hI2252, hF2253, e2257, e2258, e2259, e2260, r2261, q2262, q2263, q2264⟩ ih2256
            have tv2266 := congrArg Int32.toInt e2258
            have tv2267 := congrArg Int32.toInt e2259
            have tv2268 := congrArg Int32.toInt e2257
            refine At.enter rfl ?_
            refine r_aload_n e2260 ?_
            refine q_getI (Sh.int hI2252.1 kx_231 rfl) 2 e2259 ?_
            refine r_iconst 2 rfl ?_
            refine r_icf 251 rfl (by decide) ?_
            refine At.enter rfl ?_
            refine r_aload_n e2260 ?_
            refine q_getI (Sh.int hI2252.1 kx_231 rfl) x2250 e2257 ?_
            refine r_aload_n e2260 ?_
            refine q_getI (Sh.int hI2252.1 kx_231 rfl) v1 ((hF2253.1 231 8 (by decide)).trans hv1) ?_
            have bv2270 := q_bnd x2250
            refine r_ics 262 rfl (fun c2269 => ?_) (fun c2269 => ?_)
            · have c2269_ : x2250.toInt ≥ v1.toInt := en_i_ge_t c2269
              refine At.enter rfl ?_
              refine r_vret ?_
              have x2271 := HI.eqI hI2252 (p := 231) (b := 8) (((hF2253.1 231 8 (by decide)).trans hv1))
              have x2272 := HI.eqI hI2252 (p := 231) (b := 9) (e2258)
              have x2273 := HI.eqI hI2252 (p := 231) (b := 10) (e2257)
              have x2274 := HI.eqI hI2252 (p := 231) (b := 11) (e2259)
              have zv2275 : (2 : Int32).toInt = 2 := rfl
              obtain ⟨v2276, hv2276⟩ : ∃ v, gJ g2251 231 12 = v := ⟨_, rfl⟩
              have tv2276 := congrArg Int64.toInt hv2276
              have x2277 := HI.eqJ hI2252 (b := 12) (hv2276)
              have x2278 := HI.eqI hI0 (p := 231) (b := 10) (hv2)
              exact ⟨_, rfl, hI2252, hF2253, rfl, ⟨by omega, by omega, by omega, by omega, by omega, by show (gI _ 231 11).toInt = 1 → (gI _ 231 10).toInt ≤ (gI _ 231 9).toInt + 1 → (gJ _ 231 12).toInt ≤ 26; omega⟩⟩
            · have c2269_ : x2250.toInt < v1.toInt := en_i_ge_f c2269
              refine At.enter rfl ?_
              refine r_aload_n e2260 ?_
              refine q_getR (Sh.ref hI2252.1 kx_231 rfl) ?_
              refine r_aload_n e2260 ?_
              refine q_getI (Sh.int hI2252.1 kx_231 rfl) x2250 e2257 ?_
              obtain ⟨v2279, hv2279⟩ : ∃ v, eA g0 236 x2250.toInt = v := ⟨_, rfl⟩
              have tv2279 := congrArg Int32.toInt hv2279
              refine q_iald (Sh.arr hI2252.1 ka_236) x2250.toInt rfl (by omega) v2279 ((eA_c (hF2253.2.1 236 (by decide))).trans hv2279) ?_
              refine q_inlS 274 rfl [.int v2279] [] (Nat.le_of_ble_eq_true rfl) rfl ?_
              refine Ev.mk rfl rfl ⟨Nat.le_of_ble_eq_true rfl, Or.inl rfl⟩ ?_
              show At _ none _ _ (0, [(0, .int v2279)], [], (_, _)) _
              refine At.enter rfl ?_
              refine r_iload_n rfl ?_
              refine r_bipush 48 rfl ?_
              refine r_ics 6 rfl (fun c2280 => ?_) (fun c2280 => ?_)
              · have c2280_ : v2279.toInt < 48 := en_i_lt_t c2280
                refine At.enter rfl ?_
                refine r_iconst 0 rfl ?_
                refine Ar.fall 17 rfl ?_
                refine At.enter rfl ?_
                refine q_iretz (by decide) ?_
                refine At.enter rfl ?_
                refine r_ift (by decide) ?_
                refine At.enter rfl ?_
                refine r_vret ?_
                have x2281 := HI.eqI hI2252 (p := 231) (b := 8) (((hF2253.1 231 8 (by decide)).trans hv1))
                have x2282 := HI.eqI hI2252 (p := 231) (b := 9) (e2258)
                have x2283 := HI.eqI hI2252 (p := 231) (b := 10) (e2257)
                have x2284 := HI.eqI hI2252 (p := 231) (b := 11) (e2259)
                have zv2285 : (2 : Int32).toInt = 2 := rfl
                obtain ⟨v2286, hv2286⟩ : ∃ v, gJ g2251 231 12 = v := ⟨_, rfl⟩
                have tv2286 := congrArg Int64.toInt hv2286
                have x2287 := HI.eqJ hI2252 (b := 12) (hv2286)
                have x2288 := HI.eqI hI0 (p := 231) (b := 10) (hv2)
                exact ⟨_, rfl, hI2252, hF2253, rfl, ⟨by omega, by omega, by omega, by omega, by omega, by show (gI _ 231 11).toInt = 1 → (gI _ 231 10).toInt ≤ (gI _ 231 9).toInt + 1 → (gJ _ 231 12).toInt ≤ 26; omega⟩⟩
              · have c2280_ : v2279.toInt ≥ 48 := en_i_lt_f c2280
                refine At.enter rfl ?_
                refine r_iload_n rfl ?_
                refine r_bipush 57 rfl ?_
                refine r_ics 12 rfl (fun c2289 => ?_) (fun c2289 => ?_)
                · have c2289_ : v2279.toInt > 57 := en_i_gt_t c2289
                  refine At.enter rfl ?_
                  refine r_iconst 0 rfl ?_
                  refine Ar.fall 17 rfl ?_
                  refine At.enter rfl ?_
                  refine q_iretz (by decide) ?_
                  refine At.enter rfl ?_
                  refine r_ift (by decide) ?_
                  refine At.enter rfl ?_
                  refine r_vret ?_
                  have x2290 := HI.eqI hI2252 (p := 231) (b := 8) (((hF2253.1 231 8 (by decide)).trans hv1))
                  have x2291 := HI.eqI hI2252 (p := 231) (b := 9) (e2258)
                  have x2292 := HI.eqI hI2252 (p := 231) (b := 10) (e2257)
                  have x2293 := HI.eqI hI2252 (p := 231) (b := 11) (e2259)
                  have zv2294 : (2 : Int32).toInt = 2 := rfl
                  obtain ⟨v2295, hv2295⟩ : ∃ v, gJ g2251 231 12 = v := ⟨_, rfl⟩
                  have tv2295 := congrArg Int64.toInt hv2295
                  have x2296 := HI.eqJ hI2252 (b := 12) (hv2295)
                  have x2297 := HI.eqI hI0 (p := 231) (b := 10) (hv2)
                  exact ⟨_, rfl, hI2252, hF2253, rfl, ⟨by omega, by omega, by omega, by omega, by omega, by show (gI _ 231 11).toInt = 1 → (gI _ 231 10).toInt ≤ (gI _ 231 9).toInt + 1 → (gJ _ 231 12).toInt ≤ 26; omega⟩⟩
                · have c2289_ : v2279.toInt ≤ 57 := en_i_gt_f c2289
                  refine At.enter rfl ?_
                  refine r_iconst 1 rfl ?_
                  refine r_goto ?_
                  refine At.enter rfl ?_
                  refine q_iretz (by decide) ?_
                  refine At.enter rfl ?_
                  refine r_iff 277 rfl (by decide) ?_
                  refine At.enter rfl ?_
                  refine r_aload_n e2260 ?_
                  refine r_aload_n e2260 ?_
                  obtain ⟨v2298, hv2298⟩ : ∃ v, gJ g2251 231 12 = v := ⟨_, rfl⟩
                  have tv2298 := congrArg Int64.toInt hv2298
                  refine q_getJv (Sh.long hI2252.1 kx_231 rfl) v2298 hv2298 ?_
                  refine r_ldc2 1000000 rfl ?_
                  refine r_lcmp _ rfl ?_
                  refine r_ifs 289 rfl (fun c2299 => ?_) (fun c2299 => ?_)
                  · have c2299_ : v2298.toInt ≤ 1000000 := en_j_le_t c2299
                    refine At.enter rfl ?_
                    refine r_aload_n e2260 ?_
                    refine q_getJv (Sh.long hI2252.1 kx_231 rfl) v2298 hv2298 ?_
                    refine r_ldc2 10 rfl ?_
                    refine q_lmulO (fun v2300 lv2300 => ?_)
                    have kv2300 := l_mul lv2300
                    have zv2301 : (10 : Int64).toInt = 10 := rfl
                    refine r_aload_n e2260 ?_
                    refine q_getR (Sh.ref hI2252.1 kx_231 rfl) ?_
                    refine r_aload_n e2260 ?_
                    refine q_getI (Sh.int hI2252.1 kx_231 rfl) x2250 e2257 ?_
                    refine q_iald (Sh.arr hI2252.1 ka_236) x2250.toInt rfl (by omega) v2279 ((eA_c (hF2253.2.1 236 (by decide))).trans hv2279) ?_
                    refine q_i2l (fun v2302 hv2302 => ?_)
                    refine q_laddO (fun v2303 lv2303 => ?_)
                    have kv2303 := l_add lv2303
                    refine r_ldc2 48 rfl ?_
                    refine q_lsubO (fun v2304 lv2304 => ?_)
                    have kv2304 := l_sub lv2304
                    have zv2305 : (48 : Int64).toInt = 48 := rfl
                    refine Ar.fall 319 rfl ?_
                    refine At.enter rfl ?_
                    refine q_putJ (Sh.long hI2252.1 kx_231 rfl) rfl ?_
                    have hI2306 := HI.wJ hI2252 kx_231 rfl (p := 231) (b := 12) (v := v2304)
                    have hF2307 := Fr.wJ (p := 231) (b := 12) (v := v2304) hF2253 rfl
                    refine r_aload_n e2260 ?_
                    refine r_dup rfl ?_
                    refine q_getI (Sh.int hI2306.1 kx_231 rfl) x2250 ((gI_sJ_ne (by decide)).trans e2257) ?_
                    refine r_iconst 1 rfl ?_
                    refine q_iadd (x2250.toInt + 1) rfl (by omega) (fun v2308 hv2308 => ?_)
                    refine q_putI (Sh.int hI2306.1 kx_231 rfl) rfl ?_
                    have hI2309 := HI.wI1 hI2306 kx_231 rfl (p := 231) (b := 10) (v := v2308) rfl (by dsimp only; omega)
                    have hF2310 := Fr.wI (p := 231) (b := 10) (v := v2308) hF2307 rfl
                    refine r_goto ?_
                    exact ih2256 (400 - v2308.toInt) _ _ ⟨v2308, by first | rfl | omega, hI2309, hF2310, (gI_sI_eq hI2306.1 kx_231 rfl _), (((gI_sI_ne (by decide)).trans (gI_sJ_ne (by decide))).trans e2258), (((gI_sI_ne (by decide)).trans (gI_sJ_ne (by decide))).trans e2259), e2260, by omega, by omega, by omega, (fun h => absurd h (by omega))⟩ ⟨by omega, by omega⟩
                  · have c2299_ : v2298.toInt > 1000000 := en_j_le_f c2299
                    refine At.enter rfl ?_
                    refine r_aload_n e2260 ?_
                    refine q_getJv (Sh.long hI2252.1 kx_231 rfl) v2298 hv2298 ?_
                    refine r_goto ?_
                    refine At.enter rfl ?_
                    refine q_putJ (Sh.long hI2252.1 kx_231 rfl) rfl ?_
                    have hI2311 := HI.wJ hI2252 kx_231 rfl (p := 231) (b := 12) (v := v2298)
                    have hF2312 := Fr.wJ (p := 231) (b := 12) (v := v2298) hF2253 rfl
                    refine r_aload_n e2260 ?_
                    refine r_dup rfl ?_
                    refine q_getI (Sh.int hI2311.1 kx_231 rfl) x2250 ((gI_sJ_ne (by decide)).trans e2257) ?_
                    refine r_iconst 1 rfl ?_
                    refine q_iadd (x2250.toInt + 1) rfl (by omega) (fun v2313 hv2313 => ?_)
                    refine q_putI (Sh.int hI2311.1 kx_231 rfl) rfl ?_
                    have hI2314 := HI.wI1 hI2311 kx_231 rfl (p := 231) (b := 10) (v := v2313) rfl (by dsimp only; omega)
                    have hF2315 := Fr.wI (p := 231) (b := 10) (v := v2313) hF2312 rfl
                    refine r_goto ?_
                    exact ih2256 (400 - v2313.toInt) _ _ ⟨v2313, by first | rfl | omega, hI2314, hF2315, (gI_sI_eq hI2311.1 kx_231 rfl _), (((gI_sI_ne (by decide)).trans (gI_sJ_ne (by decide))).trans e2258), (((gI_sI_ne (by decide)).trans (gI_sJ_ne (by decide))).trans e2259), e2260, by omega, by omega, by omega, (fun h => absurd h (by omega))⟩ ⟨by omega, by omega⟩
      · have c2190_ : v2189.toInt ≥ 97 := en_i_lt_f c2190
        refine At.enter rfl ?_
        refine r_iload_n rfl ?_
        refine r_bipush 122 rfl ?_
        refine r_ics 12 rfl (fun c2316 => ?_) (fun c2316 => ?_)
        · have c2316_ : v2189.toInt > 122 := en_i_gt_t c2316
          refine At.enter rfl ?_
          refine r_iconst 0 rfl ?_
          refine Ar.fall 17 rfl ?_
          refine At.enter rfl ?_
          refine q_iretz (by decide) ?_
          refine At.enter rfl ?_
          refine r_ift (by decide) ?_
          refine At.enter rfl ?_
          refine r_aload_n e2175 ?_
          refine q_getR (Sh.ref hI2186.1 kx_231 rfl) ?_
          refine r_aload_n e2175 ?_
          refine q_getI (Sh.int hI2186.1 kx_231 rfl) x2167 (((gI_sJ_ne (by decide)).trans (gI_sI_ne (by decide))).trans e2174) ?_
          refine q_iald (Sh.arr hI2186.1 ka_236) x2167.toInt rfl (by omega) v2189 ((eA_c ((gA_sJ).trans ((gA_sI).trans (hF2170.2.1 236 (by decide))))).trans hv2189) ?_
          refine q_inlS 106 rfl [.int v2189] [.ref 231] (Nat.le_of_ble_eq_true rfl) rfl ?_
          refine Ev.mk rfl rfl ⟨Nat.le_of_ble_eq_true rfl, Or.inl rfl⟩ ?_
          show At _ none _ _ (0, [(0, .int v2189)], [], (_, _)) _
          refine At.enter rfl ?_
          refine r_iload_n rfl ?_
          refine r_bipush 48 rfl ?_
          refine r_ics 6 rfl (fun c2317 => ?_) (fun c2317 => ?_)
          · have c2317_ : v2189.toInt < 48 := en_i_lt_t c2317
            exfalso; omega
          · have c2317_ : v2189.toInt ≥ 48 := en_i_lt_f c2317
            refine At.enter rfl ?_
            refine r_iload_n rfl ?_
            refine r_bipush 57 rfl ?_
            refine r_ics 12 rfl (fun c2318 => ?_) (fun c2318 => ?_)
            · have c2318_ : v2189.toInt > 57 := en_i_gt_t c2318
              refine At.enter rfl ?_
              refine r_iconst 0 rfl ?_
              refine Ar.fall 17 rfl ?_
              refine At.enter rfl ?_
              refine q_iretz (by decide) ?_
              refine At.enter rfl ?_
              refine r_ift (by decide) ?_
              refine At.enter rfl ?_
              refine r_iconst 3 rfl ?_
              refine Ar.fall 114 rfl ?_
              refine At.enter rfl ?_
              refine q_putI (Sh.int hI2186.1 kx_231 rfl) rfl ?_
              have hI2319 := HI.wI0 hI2186 kx_231 rfl (p := 231) (b := 11) (v := 3) rfl
              have hF2320 := Fr.wI (p := 231) (b := 11) (v := 3) hF2187 rfl
              refine r_aload_n e2175 ?_
              refine q_getI (Sh.int hI2319.1 kx_231 rfl) 3 (gI_sI_eq hI2186.1 kx_231 rfl _) ?_
              refine r_iconst 3 rfl ?_
              refine r_icf 125 rfl (by decide) ?_
              refine At.enter rfl ?_
              refine r_aload_n e2175 ?_
              refine r_aload_n e2175 ?_
              refine q_getR (Sh.ref hI2319.1 kx_231 rfl) ?_
              refine r_aload_n e2175 ?_
              refine q_getI (Sh.int hI2319.1 kx_231 rfl) x2167 (((gI_sI_ne (by decide)).trans ((gI_sJ_ne (by decide)).trans (gI_sI_ne (by decide)))).trans e2174) ?_
              refine q_iald (Sh.arr hI2319.1 ka_236) x2167.toInt rfl (by omega) v2189 ((eA_c ((gA_sI).trans ((gA_sJ).trans ((gA_sI).trans (hF2170.2.1 236 (by decide)))))).trans hv2189) ?_
              refine q_i2l (fun v2321 hv2321 => ?_)
              refine q_putJ (Sh.long hI2319.1 kx_231 rfl) rfl ?_
              have hI2322 := HI.wJ hI2319 kx_231 rfl (p := 231) (b := 12) (v := v2321)
              have hF2323 := Fr.wJ (p := 231) (b := 12) (v := v2321) hF2320 rfl
              refine r_aload_n e2175 ?_
              refine r_dup rfl ?_
              refine q_getI (Sh.int hI2322.1 kx_231 rfl) x2167 ((gI_sJ_ne (by decide)).trans ((gI_sI_ne (by decide)).trans ((gI_sJ_ne (by decide)).trans (gI_sI_eq hI2169.1 kx_231 rfl _)))) ?_
              refine r_iconst 1 rfl ?_
              refine q_iadd (x2167.toInt + 1) rfl (by omega) (fun v2324 hv2324 => ?_)
              refine q_putI (Sh.int hI2322.1 kx_231 rfl) rfl ?_
              have hI2325 := HI.wI1 hI2322 kx_231 rfl (p := 231) (b := 10) (v := v2324) rfl (by dsimp only; omega)
              have hF2326 := Fr.wI (p := 231) (b := 10) (v := v2324) hF2323 rfl
              refine Ar.fall 149 rfl ?_
              refine At.enter rfl ?_
              refine r_aload_n e2175 ?_
              refine q_getI (Sh.int hI2325.1 kx_231 rfl) 3 ((gI_sI_ne (by decide)).trans ((gI_sJ_ne (by decide)).trans (gI_sI_eq hI2186.1 kx_231 rfl _))) ?_
              refine r_iconst 1 rfl ?_
              refine r_ict (by decide) ?_
              refine At.enter rfl ?_
              refine r_aload_n e2175 ?_
              refine q_getI (Sh.int hI2325.1 kx_231 rfl) 3 ((gI_sI_ne (by decide)).trans ((gI_sJ_ne (by decide)).trans (gI_sI_eq hI2186.1 kx_231 rfl _))) ?_
              refine r_iconst 2 rfl ?_
              refine r_ict (by decide) ?_
              refine At.enter rfl ?_
              refine r_vret ?_
              have x2327 := HI.eqI hI2325 (p := 231) (b := 8) ((((gI_sI_ne (by decide)).trans ((gI_sJ_ne (by decide)).trans ((gI_sI_ne (by decide)).trans ((gI_sJ_ne (by decide)).trans ((gI_sI_ne (by decide)).trans (hF2170.1 231 8 (by decide))))))).trans hv1))
              have x2328 := HI.eqI hI2325 (p := 231) (b := 9) ((((gI_sI_ne (by decide)).trans ((gI_sJ_ne (by decide)).trans ((gI_sI_ne (by decide)).trans ((gI_sJ_ne (by decide)).trans (gI_sI_ne (by decide)))))).trans e2174))
              have x2329 := HI.eqI hI2325 (p := 231) (b := 10) ((gI_sI_eq hI2322.1 kx_231 rfl _))
              have x2330 := HI.eqI hI2325 (p := 231) (b := 11) (((gI_sI_ne (by decide)).trans ((gI_sJ_ne (by decide)).trans (gI_sI_eq hI2186.1 kx_231 rfl _))))
              have zv2331 : (3 : Int32).toInt = 3 := rfl
              have x2332 := HI.eqJ hI2325 (b := 12) (((gJ_sI_ne (by decide)).trans (gJ_sJ_eq hI2319.1 kx_231 rfl _)))
              have x2333 := HI.eqI hI0 (p := 231) (b := 10) (hv2)
              exact ⟨_, rfl, hI2325, hF2326, rfl, ⟨by omega, by omega, by omega, by omega, by omega, by show (gI _ 231 11).toInt = 1 → (gI _ 231 10).toInt ≤ (gI _ 231 9).toInt + 1 → (gJ _ 231 12).toInt ≤ 26; omega⟩⟩
            · have c2318_ : v2189.toInt ≤ 57 := en_i_gt_f c2318
              exfalso; omega
        · have c2316_ : v2189.toInt ≤ 122 := en_i_gt_f c2316
          refine At.enter rfl ?_
          refine r_iconst 1 rfl ?_
          refine r_goto ?_
          refine At.enter rfl ?_
          refine q_iretz (by decide) ?_
          refine At.enter rfl ?_
          refine r_iff 90 rfl (by decide) ?_
          refine At.enter rfl ?_
          refine r_iconst 1 rfl ?_
          refine r_goto ?_
          refine At.enter rfl ?_
          refine q_putI (Sh.int hI2186.1 kx_231 rfl) rfl ?_
          have hI2334 := HI.wI0 hI2186 kx_231 rfl (p := 231) (b := 11) (v := 1) rfl
          have hF2335 := Fr.wI (p := 231) (b := 11) (v := 1) hF2187 rfl
          refine r_aload_n e2175 ?_
          refine q_getI (Sh.int hI2334.1 kx_231 rfl) 1 (gI_sI_eq hI2186.1 kx_231 rfl _) ?_
          refine r_iconst 3 rfl ?_
          refine r_ict (by decide) ?_
          refine w_loopI (fun n_ l_ g_ => ∃ x2362 : Int32, n_ = 400 - x2362.toInt ∧ HI g_ ∧ Fr F_X11_next_231 A_X11_next_231 g0 g_ ∧ gI g_ 231 10 = x2362 ∧ gI g_ 231 9 = x2167 ∧ gI g_ 231 11 = 1 ∧ en_get 0 l_ = some (.ref 231) ∧ (0 ≤ x2362.toInt ∧ x2362.toInt ≤ 400) ∧ (x2167.toInt ≤ x2362.toInt) ∧ (x2362.toInt ≤ (gI g0 231 8).toInt) ∧ ((x2362.toInt ≤ x2167.toInt → (gJ g_ 231 12).toInt = 0)) ∧ ((x2362.toInt ≤ x2167.toInt + 1 → (gJ g_ 231 12).toInt ≤ 26)) ∧ ((x2362.toInt ≤ x2167.toInt → (eA g0 236 x2362.toInt).toInt = v2189.toInt))) ?_ (400 - x2167.toInt) ⟨x2167, by first | rfl | omega, hI2334, hF2335, ((gI_sI_ne (by decide)).trans ((gI_sJ_ne (by decide)).trans (gI_sI_eq hI2169.1 kx_231 rfl _))), (((gI_sI_ne (by decide)).trans ((gI_sJ_ne (by decide)).trans (gI_sI_ne (by decide)))).trans e2174), (gI_sI_eq hI2186.1 kx_231 rfl _), e2175, by omega, by omega, by omega, (by have jw := HI.eqJ hI2334 (b := 12) (((gJ_sI_ne (by decide)).trans (gJ_sJ_eq hI2184.1 kx_231 rfl _))); have jz : (0 : Int64).toInt = 0 := rfl; omega), (by have jw := HI.eqJ hI2334 (b := 12) (((gJ_sI_ne (by decide)).trans (gJ_sJ_eq hI2184.1 kx_231 rfl _))); have jz : (0 : Int64).toInt = 0 := rfl; omega), (fun _ => congrArg Int32.toInt hv2189)⟩
          rintro n2367 l2366 g2363 ⟨x2362, hm2379, hI2364, hF2365, e2369, e2370, e2371, e2372, r2373, q2374, q2375, q2376, q2377, q2378⟩ ih2368
          have tv2380 := congrArg Int32.toInt e2370
          have tv2381 := congrArg Int32.toInt e2371
          have tv2382 := congrArg Int32.toInt e2369
          refine At.enter rfl ?_
          refine r_aload_n e2372 ?_
          refine q_getI (Sh.int hI2364.1 kx_231 rfl) 1 e2371 ?_
          refine r_iconst 1 rfl ?_
          refine r_icf 157 rfl (by decide) ?_
          refine At.enter rfl ?_
          refine r_aload_n e2372 ?_
          refine q_getI (Sh.int hI2364.1 kx_231 rfl) x2362 e2369 ?_
          refine r_aload_n e2372 ?_
          refine q_getI (Sh.int hI2364.1 kx_231 rfl) v1 ((hF2365.1 231 8 (by decide)).trans hv1) ?_
          have bv2384 := q_bnd x2362
          refine r_ics 168 rfl (fun c2383 => ?_) (fun c2383 => ?_)
          · have c2383_ : x2362.toInt ≥ v1.toInt := en_i_ge_t c2383
            refine At.enter rfl ?_
            refine r_aload_n e2372 ?_
            refine q_getI (Sh.int hI2364.1 kx_231 rfl) 1 e2371 ?_
            refine r_iconst 2 rfl ?_
            refine r_ict (by decide) ?_
            refine At.enter rfl ?_
            refine r_vret ?_
            have x2385 := HI.eqI hI2364 (p := 231) (b := 8) (((hF2365.1 231 8 (by decide)).trans hv1))
            have x2386 := HI.eqI hI2364 (p := 231) (b := 9) (e2370)
            have x2387 := HI.eqI hI2364 (p := 231) (b := 10) (e2369)
            have x2388 := HI.eqI hI2364 (p := 231) (b := 11) (e2371)
            have zv2389 : (1 : Int32).toInt = 1 := rfl
            obtain ⟨v2390, hv2390⟩ : ∃ v, gJ g2363 231 12 = v := ⟨_, rfl⟩
            have tv2390 := congrArg Int64.toInt hv2390
            have x2391 := HI.eqJ hI2364 (b := 12) (hv2390)
            have x2392 := HI.eqI hI0 (p := 231) (b := 10) (hv2)
            exact ⟨_, rfl, hI2364, hF2365, rfl, ⟨by omega, by omega, by omega, by omega, by omega, by show (gI _ 231 11).toInt = 1 → (gI _ 231 10).toInt ≤ (gI _ 231 9).toInt + 1 → (gJ _ 231 12).toInt ≤ 26; omega⟩⟩
          · have c2383_ : x2362.toInt < v1.toInt := en_i_ge_f c2383
            refine At.enter rfl ?_
            refine r_aload_n e2372 ?_
            refine q_getR (Sh.ref hI2364.1 kx_231 rfl) ?_
            refine r_aload_n e2372 ?_
            refine q_getI (Sh.int hI2364.1 kx_231 rfl) x2362 e2369 ?_
            obtain ⟨v2393, hv2393⟩ : ∃ v, eA g0 236 x2362.toInt = v := ⟨_, rfl⟩
            have tv2393 := congrArg Int32.toInt hv2393
            refine q_iald (Sh.arr hI2364.1 ka_236) x2362.toInt rfl (by omega) v2393 ((eA_c (hF2365.2.1 236 (by decide))).trans hv2393) ?_
            refine q_inlS 180 rfl [.int v2393] [] (Nat.le_of_ble_eq_true rfl) rfl ?_
            refine Ev.mk rfl rfl ⟨Nat.le_of_ble_eq_true rfl, Or.inl rfl⟩ ?_
            show At _ none _ _ (0, [(0, .int v2393)], [], (_, _)) _
            refine At.enter rfl ?_
            refine r_iload_n rfl ?_
            refine r_bipush 97 rfl ?_
            refine r_ics 6 rfl (fun c2394 => ?_) (fun c2394 => ?_)
            · have c2394_ : v2393.toInt < 97 := en_i_lt_t c2394
              refine At.enter rfl ?_
              refine r_iconst 0 rfl ?_
              refine Ar.fall 17 rfl ?_
              refine At.enter rfl ?_
              refine q_iretz (by decide) ?_
              refine At.enter rfl ?_
              refine r_ift (by decide) ?_
              refine At.enter rfl ?_
              refine r_aload_n e2372 ?_
              refine q_getI (Sh.int hI2364.1 kx_231 rfl) 1 e2371 ?_
              refine r_iconst 2 rfl ?_
              refine r_ict (by decide) ?_
              refine At.enter rfl ?_
              refine r_vret ?_
              have x2395 := HI.eqI hI2364 (p := 231) (b := 8) (((hF2365.1 231 8 (by decide)).trans hv1))
              have x2396 := HI.eqI hI2364 (p := 231) (b := 9) (e2370)
              have x2397 := HI.eqI hI2364 (p := 231) (b := 10) (e2369)
              have x2398 := HI.eqI hI2364 (p := 231) (b := 11) (e2371)
              have zv2399 : (1 : Int32).toInt = 1 := rfl
              obtain ⟨v2400, hv2400⟩ : ∃ v, gJ g2363 231 12 = v := ⟨_, rfl⟩
              have tv2400 := congrArg Int64.toInt hv2400
              have x2401 := HI.eqJ hI2364 (b := 12) (hv2400)
              have x2402 := HI.eqI hI0 (p := 231) (b := 10) (hv2)
              exact ⟨_, rfl, hI2364, hF2365, rfl, ⟨by omega, by omega, by omega, by omega, by omega, by show (gI _ 231 11).toInt = 1 → (gI _ 231 10).toInt ≤ (gI _ 231 9).toInt + 1 → (gJ _ 231 12).toInt ≤ 26; omega⟩⟩
            · have c2394_ : v2393.toInt ≥ 97 := en_i_lt_f c2394
              refine At.enter rfl ?_
              refine r_iload_n rfl ?_
              refine r_bipush 122 rfl ?_
              refine r_ics 12 rfl (fun c2403 => ?_) (fun c2403 => ?_)
              · have c2403_ : v2393.toInt > 122 := en_i_gt_t c2403
                refine At.enter rfl ?_
                refine r_iconst 0 rfl ?_
                refine Ar.fall 17 rfl ?_
                refine At.enter rfl ?_
                refine q_iretz (by decide) ?_
                refine At.enter rfl ?_
                refine r_ift (by decide) ?_
                refine At.enter rfl ?_
                refine r_aload_n e2372 ?_
                refine q_getI (Sh.int hI2364.1 kx_231 rfl) 1 e2371 ?_
                refine r_iconst 2 rfl ?_
                refine r_ict (by decide) ?_
                refine At.enter rfl ?_
                refine r_vret ?_
                have x2404 := HI.eqI hI2364 (p := 231) (b := 8) (((hF2365.1 231 8 (by decide)).trans hv1))
                have x2405 := HI.eqI hI2364 (p := 231) (b := 9) (e2370)
                have x2406 := HI.eqI hI2364 (p := 231) (b := 10) (e2369)
                have x2407 := HI.eqI hI2364 (p := 231) (b := 11) (e2371)
                have zv2408 : (1 : Int32).toInt = 1 := rfl
                obtain ⟨v2409, hv2409⟩ : ∃ v, gJ g2363 231 12 = v := ⟨_, rfl⟩
                have tv2409 := congrArg Int64.toInt hv2409
                have x2410 := HI.eqJ hI2364 (b := 12) (hv2409)
                have x2411 := HI.eqI hI0 (p := 231) (b := 10) (hv2)
                exact ⟨_, rfl, hI2364, hF2365, rfl, ⟨by omega, by omega, by omega, by omega, by omega, by show (gI _ 231 11).toInt = 1 → (gI _ 231 10).toInt ≤ (gI _ 231 9).toInt + 1 → (gJ _ 231 12).toInt ≤ 26; omega⟩⟩
              · have c2403_ : v2393.toInt ≤ 122 := en_i_gt_f c2403
                refine At.enter rfl ?_
                refine r_iconst 1 rfl ?_
                refine r_goto ?_
                refine At.enter rfl ?_
                refine q_iretz (by decide) ?_
                refine At.enter rfl ?_
                refine r_iff 183 rfl (by decide) ?_
                refine At.enter rfl ?_
                refine r_aload_n e2372 ?_
                refine r_aload_n e2372 ?_
                refine q_getI (Sh.int hI2364.1 kx_231 rfl) x2362 e2369 ?_
                refine r_aload_n e2372 ?_
                refine q_getI (Sh.int hI2364.1 kx_231 rfl) x2167 e2370 ?_
                refine q_isub (x2362.toInt - x2167.toInt) rfl (by omega) (fun v2412 hv2412 => ?_)
                refine r_bipush 10 rfl ?_
                refine r_ics 198 rfl (fun c2413 => ?_) (fun c2413 => ?_)
                · have c2413_ : v2412.toInt ≥ 10 := en_i_ge_t c2413
                  refine At.enter rfl ?_
                  refine r_ldc2 (-1) rfl ?_
                  refine Ar.fall 227 rfl ?_
                  refine At.enter rfl ?_
                  refine q_putJ (Sh.long hI2364.1 kx_231 rfl) rfl ?_
                  have hI2414 := HI.wJ hI2364 kx_231 rfl (p := 231) (b := 12) (v := (-1))
                  have hF2415 := Fr.wJ (p := 231) (b := 12) (v := (-1)) hF2365 rfl
                  refine r_aload_n e2372 ?_
                  refine r_dup rfl ?_
                  refine q_getI (Sh.int hI2414.1 kx_231 rfl) x2362 ((gI_sJ_ne (by decide)).trans e2369) ?_
                  refine r_iconst 1 rfl ?_
                  refine q_iadd (x2362.toInt + 1) rfl (by omega) (fun v2416 hv2416 => ?_)
                  refine q_putI (Sh.int hI2414.1 kx_231 rfl) rfl ?_
                  have hI2417 := HI.wI1 hI2414 kx_231 rfl (p := 231) (b := 10) (v := v2416) rfl (by dsimp only; omega)
                  have hF2418 := Fr.wI (p := 231) (b := 10) (v := v2416) hF2415 rfl
                  refine r_goto ?_
                  exact ih2368 (400 - v2416.toInt) _ _ ⟨v2416, by first | rfl | omega, hI2417, hF2418, (gI_sI_eq hI2414.1 kx_231 rfl _), (((gI_sI_ne (by decide)).trans (gI_sJ_ne (by decide))).trans e2370), (((gI_sI_ne (by decide)).trans (gI_sJ_ne (by decide))).trans e2371), e2372, by omega, by omega, by omega, (by have jw := HI.eqJ hI2417 (b := 12) (((gJ_sI_ne (by decide)).trans (gJ_sJ_eq hI2364.1 kx_231 rfl _))); have jz : ((-1) : Int64).toInt = (-1) := rfl; omega), (by have jw := HI.eqJ hI2417 (b := 12) (((gJ_sI_ne (by decide)).trans (gJ_sJ_eq hI2364.1 kx_231 rfl _))); have jz : ((-1) : Int64).toInt = (-1) := rfl; omega), (fun h => absurd h (by omega))⟩ ⟨by omega, by omega⟩
                · have c2413_ : v2412.toInt < 10 := en_i_ge_f c2413
                  refine At.enter rfl ?_
                  refine r_aload_n e2372 ?_
                  obtain ⟨v2419, hv2419⟩ : ∃ v, gJ g2363 231 12 = v := ⟨_, rfl⟩
                  have tv2419 := congrArg Int64.toInt hv2419
                  refine q_getJv (Sh.long hI2364.1 kx_231 rfl) v2419 hv2419 ?_
                  refine r_ldc2 32 rfl ?_
                  refine q_lmulO (fun v2420 lv2420 => ?_)
                  have kv2420 := l_mul lv2420
                  have zv2421 : (32 : Int64).toInt = 32 := rfl
                  refine r_aload_n e2372 ?_
                  refine q_getR (Sh.ref hI2364.1 kx_231 rfl) ?_
                  refine r_aload_n e2372 ?_
                  refine q_getI (Sh.int hI2364.1 kx_231 rfl) x2362 e2369 ?_
                  refine q_iald (Sh.arr hI2364.1 ka_236) x2362.toInt rfl (by omega) v2393 ((eA_c (hF2365.2.1 236 (by decide))).trans hv2393) ?_
                  refine q_i2l (fun v2422 hv2422 => ?_)
                  refine q_laddO (fun v2423 lv2423 => ?_)
                  have kv2423 := l_add lv2423
                  refine r_ldc2 96 rfl ?_
                  refine q_lsubO (fun v2424 lv2424 => ?_)
                  have kv2424 := l_sub lv2424
                  have zv2425 : (96 : Int64).toInt = 96 := rfl
                  refine r_goto ?_
                  refine At.enter rfl ?_
                  refine q_putJ (Sh.long hI2364.1 kx_231 rfl) rfl ?_
                  have hI2426 := HI.wJ hI2364 kx_231 rfl (p := 231) (b := 12) (v := v2424)
                  have hF2427 := Fr.wJ (p := 231) (b := 12) (v := v2424) hF2365 rfl
                  refine r_aload_n e2372 ?_
                  refine r_dup rfl ?_
                  refine q_getI (Sh.int hI2426.1 kx_231 rfl) x2362 ((gI_sJ_ne (by decide)).trans e2369) ?_
                  refine r_iconst 1 rfl ?_
                  refine q_iadd (x2362.toInt + 1) rfl (by omega) (fun v2428 hv2428 => ?_)
                  refine q_putI (Sh.int hI2426.1 kx_231 rfl) rfl ?_
                  have hI2429 := HI.wI1 hI2426 kx_231 rfl (p := 231) (b := 10) (v := v2428) rfl (by dsimp only; omega)
                  have hF2430 := Fr.wI (p := 231) (b := 10) (v := v2428) hF2427 rfl
                  refine r_goto ?_
                  exact ih2368 (400 - v2428.toInt) _ _ ⟨v2428, by first | rfl | omega, hI2429, hF2430, (gI_sI_eq hI2426.1 kx_231 rfl _), (((gI_sI_ne (by decide)).trans (gI_sJ_ne (by decide))).trans e2370), (((gI_sI_ne (by decide)).trans (gI_sJ_ne (by decide))).trans e2371), e2372, by omega, by omega, by omega, (by have jw := HI.eqJ hI2429 (b := 12) (((gJ_sI_ne (by decide)).trans (gJ_sJ_eq hI2364.1 kx_231 rfl _))); omega), (by have jw := HI.eqJ hI2429 (b := 12) (((gJ_sI_ne (by decide)).trans (gJ_sJ_eq hI2364.1 kx_231 rfl _))); omega), (fun h => absurd h (by omega))⟩ ⟨by omega, by omega⟩
    · have c2188_ : x2167.toInt = v1.toInt := en_i_ne_f c2188
      refine At.enter rfl ?_
      refine r_iconst 0 rfl ?_
      refine r_goto ?_
      refine At.enter rfl ?_
      refine q_putI (Sh.int hI2186.1 kx_231 rfl) rfl ?_
      have hI2431 := HI.wI0 hI2186 kx_231 rfl (p := 231) (b := 11) (v := 0) rfl
      have hF2432 := Fr.wI (p := 231) (b := 11) (v := 0) hF2187 rfl
      refine r_aload_n e2175 ?_
      refine q_getI (Sh.int hI2431.1 kx_231 rfl) 0 (gI_sI_eq hI2186.1 kx_231 rfl _) ?_
      refine r_iconst 3 rfl ?_
      refine r_ict (by decide) ?_
      refine At.enter rfl ?_
      refine r_aload_n e2175 ?_
      refine q_getI (Sh.int hI2431.1 kx_231 rfl) 0 (gI_sI_eq hI2186.1 kx_231 rfl _) ?_
      refine r_iconst 1 rfl ?_
      refine r_ict (by decide) ?_
      refine At.enter rfl ?_
      refine r_aload_n e2175 ?_
      refine q_getI (Sh.int hI2431.1 kx_231 rfl) 0 (gI_sI_eq hI2186.1 kx_231 rfl _) ?_
      refine r_iconst 2 rfl ?_
      refine r_ict (by decide) ?_
      refine At.enter rfl ?_
      refine r_vret ?_
      have x2433 := HI.eqI hI2431 (p := 231) (b := 8) ((((gI_sI_ne (by decide)).trans ((gI_sJ_ne (by decide)).trans ((gI_sI_ne (by decide)).trans (hF2170.1 231 8 (by decide))))).trans hv1))
      have x2434 := HI.eqI hI2431 (p := 231) (b := 9) ((((gI_sI_ne (by decide)).trans ((gI_sJ_ne (by decide)).trans (gI_sI_ne (by decide)))).trans e2174))
      have x2435 := HI.eqI hI2431 (p := 231) (b := 10) (((gI_sI_ne (by decide)).trans ((gI_sJ_ne (by decide)).trans (gI_sI_eq hI2169.1 kx_231 rfl _))))
      have x2436 := HI.eqI hI2431 (p := 231) (b := 11) ((gI_sI_eq hI2186.1 kx_231 rfl _))
      have zv2437 : (0 : Int32).toInt = 0 := rfl
      have x2438 := HI.eqJ hI2431 (b := 12) (((gJ_sI_ne (by decide)).trans (gJ_sJ_eq hI2184.1 kx_231 rfl _)))
      have zv2439 : (0 : Int64).toInt = 0 := rfl
      have x2440 := HI.eqI hI0 (p := 231) (b := 10) (hv2)
      exact ⟨_, rfl, hI2431, hF2432, rfl, ⟨by omega, by omega, by omega, by omega, by omega, by show (gI _ 231 11).toInt = 1 → (gI _ 231 10).toInt ≤ (gI _ 231 9).toInt + 1 → (gJ _ 231 12).toInt ≤ 26; omega⟩⟩
  · have c2181_ : x2167.toInt < v1.toInt := en_i_ge_f c2181
    refine At.enter rfl ?_
    refine r_aload_n e2175 ?_
    refine q_getR (Sh.ref hI2169.1 kx_231 rfl) ?_
    refine r_aload_n e2175 ?_
    refine q_getI (Sh.int hI2169.1 kx_231 rfl) x2167 e2174 ?_
    obtain ⟨v2441, hv2441⟩ : ∃ v, eA g0 236 x2167.toInt = v := ⟨_, rfl⟩
    have tv2441 := congrArg Int32.toInt hv2441
    refine q_iald (Sh.arr hI2169.1 ka_236) x2167.toInt rfl (by omega) v2441 ((eA_c (hF2170.2.1 236 (by decide))).trans hv2441) ?_
    refine r_bipush 32 rfl ?_
    refine r_ics 33 rfl (fun c2442 => ?_) (fun c2442 => ?_)
    · have c2442_ : v2441.toInt ≠ 32 := en_i_ne_t c2442
      refine At.enter rfl ?_
      refine r_aload_n e2175 ?_
      refine r_aload_n e2175 ?_
      refine q_getI (Sh.int hI2169.1 kx_231 rfl) x2167 e2174 ?_
      refine q_putI (Sh.int hI2169.1 kx_231 rfl) rfl ?_
      have hI2443 := HI.wI1 hI2169 kx_231 rfl (p := 231) (b := 10) (v := x2167) rfl (by dsimp only; omega)
      have hF2444 := Fr.wI (p := 231) (b := 10) (v := x2167) hF2170 rfl
      refine r_aload_n e2175 ?_
      refine r_lconst 0 rfl ?_
      refine q_putJ (Sh.long hI2443.1 kx_231 rfl) rfl ?_
      have hI2445 := HI.wJ hI2443 kx_231 rfl (p := 231) (b := 12) (v := 0)
      have hF2446 := Fr.wJ (p := 231) (b := 12) (v := 0) hF2444 rfl
      refine r_aload_n e2175 ?_
      refine r_aload_n e2175 ?_
      refine q_getI (Sh.int hI2445.1 kx_231 rfl) x2167 (((gI_sJ_ne (by decide)).trans (gI_sI_ne (by decide))).trans e2174) ?_
      refine r_aload_n e2175 ?_
      refine q_getI (Sh.int hI2445.1 kx_231 rfl) v1 (((gI_sJ_ne (by decide)).trans ((gI_sI_ne (by decide)).trans (hF2170.1 231 8 (by decide)))).trans hv1) ?_
      refine r_ics 71 rfl (fun c2447 => ?_) (fun c2447 => ?_)
      · have c2447_ : x2167.toInt ≠ v1.toInt := en_i_ne_t c2447
        refine At.enter rfl ?_
        refine r_aload_n e2175 ?_
        refine q_getR (Sh.ref hI2445.1 kx_231 rfl) ?_
        refine r_aload_n e2175 ?_
        refine q_getI (Sh.int hI2445.1 kx_231 rfl) x2167 (((gI_sJ_ne (by decide)).trans (gI_sI_ne (by decide))).trans e2174) ?_
        refine q_iald (Sh.arr hI2445.1 ka_236) x2167.toInt rfl (by omega) v2441 ((eA_c ((gA_sJ).trans ((gA_sI).trans (hF2170.2.1 236 (by decide))))).trans hv2441) ?_
        refine q_inlS 87 rfl [.int v2441] [.ref 231] (Nat.le_of_ble_eq_true rfl) rfl ?_
        refine Ev.mk rfl rfl ⟨Nat.le_of_ble_eq_true rfl, Or.inl rfl⟩ ?_
        show At _ none _ _ (0, [(0, .int v2441)], [], (_, _)) _
        refine At.enter rfl ?_
        refine r_iload_n rfl ?_
        refine r_bipush 97 rfl ?_
        refine r_ics 6 rfl (fun c2448 => ?_) (fun c2448 => ?_)
        · have c2448_ : v2441.toInt < 97 := en_i_lt_t c2448
          refine At.enter rfl ?_
          refine r_iconst 0 rfl ?_
          refine Ar.fall 17 rfl ?_
          refine At.enter rfl ?_
          refine q_iretz (by decide) ?_
          refine At.enter rfl ?_
          refine r_ift (by decide) ?_
          refine At.enter rfl ?_
          refine r_aload_n e2175 ?_
          refine q_getR (Sh.ref hI2445.1 kx_231 rfl) ?_
          refine r_aload_n e2175 ?_
          refine q_getI (Sh.int hI2445.1 kx_231 rfl) x2167 (((gI_sJ_ne (by decide)).trans (gI_sI_ne (by decide))).trans e2174) ?_
          refine q_iald (Sh.arr hI2445.1 ka_236) x2167.toInt rfl (by omega) v2441 ((eA_c ((gA_sJ).trans ((gA_sI).trans (hF2170.2.1 236 (by decide))))).trans hv2441) ?_
          refine q_inlS 106 rfl [.int v2441] [.ref 231] (Nat.le_of_ble_eq_true rfl) rfl ?_
          refine Ev.mk rfl rfl ⟨Nat.le_of_ble_eq_true rfl, Or.inl rfl⟩ ?_
          show At _ none _ _ (0, [(0, .int v2441)], [], (_, _)) _
          refine At.enter rfl ?_
          refine r_iload_n rfl ?_
          refine r_bipush 48 rfl ?_
          refine r_ics 6 rfl (fun c2449 => ?_) (fun c2449 => ?_)
          · have c2449_ : v2441.toInt < 48 := en_i_lt_t c2449
            refine At.enter rfl ?_
            refine r_iconst 0 rfl ?_
            refine Ar.fall 17 rfl ?_
            refine At.enter rfl ?_
            refine q_iretz (by decide) ?_
            refine At.enter rfl ?_
            refine r_ift (by decide) ?_
            refine At.enter rfl ?_
            refine r_iconst 3 rfl ?_
            refine Ar.fall 114 rfl ?_
            refine At.enter rfl ?_
            refine q_putI (Sh.int hI2445.1 kx_231 rfl) rfl ?_
            have hI2450 := HI.wI0 hI2445 kx_231 rfl (p := 231) (b := 11) (v := 3) rfl
            have hF2451 := Fr.wI (p := 231) (b := 11) (v := 3) hF2446 rfl
            refine r_aload_n e2175 ?_
            refine q_getI (Sh.int hI2450.1 kx_231 rfl) 3 (gI_sI_eq hI2445.1 kx_231 rfl _) ?_
            refine r_iconst 3 rfl ?_
            refine r_icf 125 rfl (by decide) ?_
            refine At.enter rfl ?_
            refine r_aload_n e2175 ?_
            refine r_aload_n e2175 ?_
            refine q_getR (Sh.ref hI2450.1 kx_231 rfl) ?_
            refine r_aload_n e2175 ?_
            refine q_getI (Sh.int hI2450.1 kx_231 rfl) x2167 (((gI_sI_ne (by decide)).trans ((gI_sJ_ne (by decide)).trans (gI_sI_ne (by decide)))).trans e2174) ?_
            refine q_iald (Sh.arr hI2450.1 ka_236) x2167.toInt rfl (by omega) v2441 ((eA_c ((gA_sI).trans ((gA_sJ).trans ((gA_sI).trans (hF2170.2.1 236 (by decide)))))).trans hv2441) ?_
            refine q_i2l (fun v2452 hv2452 => ?_)
            refine q_putJ (Sh.long hI2450.1 kx_231 rfl) rfl ?_
            have hI2453 := HI.wJ hI2450 kx_231 rfl (p := 231) (b := 12) (v := v2452)
            have hF2454 := Fr.wJ (p := 231) (b := 12) (v := v2452) hF2451 rfl
            refine r_aload_n e2175 ?_
            refine r_dup rfl ?_
            refine q_getI (Sh.int hI2453.1 kx_231 rfl) x2167 ((gI_sJ_ne (by decide)).trans ((gI_sI_ne (by decide)).trans ((gI_sJ_ne (by decide)).trans (gI_sI_eq hI2169.1 kx_231 rfl _)))) ?_
            refine r_iconst 1 rfl ?_
            refine q_iadd (x2167.toInt + 1) rfl (by omega) (fun v2455 hv2455 => ?_)
            refine q_putI (Sh.int hI2453.1 kx_231 rfl) rfl ?_
            have hI2456 := HI.wI1 hI2453 kx_231 rfl (p := 231) (b := 10) (v := v2455) rfl (by dsimp only; omega)
            have hF2457 := Fr.wI (p := 231) (b := 10) (v := v2455) hF2454 rfl
            refine Ar.fall 149 rfl ?_
            refine At.enter rfl ?_
            refine r_aload_n e2175 ?_
            refine q_getI (Sh.int hI2456.1 kx_231 rfl) 3 ((gI_sI_ne (by decide)).trans ((gI_sJ_ne (by decide)).trans (gI_sI_eq hI2445.1 kx_231 rfl _))) ?_
            refine r_iconst 1 rfl ?_
            refine r_ict (by decide) ?_
            refine At.enter rfl ?_
            refine r_aload_n e2175 ?_
            refine q_getI (Sh.int hI2456.1 kx_231 rfl) 3 ((gI_sI_ne (by decide)).trans ((gI_sJ_ne (by decide)).trans (gI_sI_eq hI2445.1 kx_231 rfl _))) ?_
            refine r_iconst 2 rfl ?_
            refine r_ict (by decide) ?_
            refine At.enter rfl ?_
            refine r_vret ?_
            have x2458 := HI.eqI hI2456 (p := 231) (b := 8) ((((gI_sI_ne (by decide)).trans ((gI_sJ_ne (by decide)).trans ((gI_sI_ne (by decide)).trans ((gI_sJ_ne (by decide)).trans ((gI_sI_ne (by decide)).trans (hF2170.1 231 8 (by decide))))))).trans hv1))
            have x2459 := HI.eqI hI2456 (p := 231) (b := 9) ((((gI_sI_ne (by decide)).trans ((gI_sJ_ne (by decide)).trans ((gI_sI_ne (by decide)).trans ((gI_sJ_ne (by decide)).trans (gI_sI_ne (by decide)))))).trans e2174))
            have x2460 := HI.eqI hI2456 (p := 231) (b := 10) ((gI_sI_eq hI2453.1 kx_231 rfl _))
            have x2461 := HI.eqI hI2456 (p := 231) (b := 11) (((gI_sI_ne (by decide)).trans ((gI_sJ_ne (by decide)).trans (gI_sI_eq hI2445.1 kx_231 rfl _))))
            have zv2462 : (3 : Int32).toInt = 3 := rfl
            have x2463 := HI.eqJ hI2456 (b := 12) (((gJ_sI_ne (by decide)).trans (gJ_sJ_eq hI2450.1 kx_231 rfl _)))
            have x2464 := HI.eqI hI0 (p := 231) (b := 10) (hv2)
            exact ⟨_, rfl, hI2456, hF2457, rfl, ⟨by omega, by omega, by omega, by omega, by omega, by show (gI _ 231 11).toInt = 1 → (gI _ 231 10).toInt ≤ (gI _ 231 9).toInt + 1 → (gJ _ 231 12).toInt ≤ 26; omega⟩⟩
          · have c2449_ : v2441.toInt ≥ 48 := en_i_lt_f c2449
            refine At.enter rfl ?_
            refine r_iload_n rfl ?_
            refine r_bipush 57 rfl ?_
            refine r_ics 12 rfl (fun c2465 => ?_) (fun c2465 => ?_)
            · have c2465_ : v2441.toInt > 57 := en_i_gt_t c2465
              refine At.enter rfl ?_
              refine r_iconst 0 rfl ?_
              refine Ar.fall 17 rfl ?_
              refine At.enter rfl ?_
              refine q_iretz (by decide) ?_
              refine At.enter rfl ?_
              refine r_ift (by decide) ?_
              refine At.enter rfl ?_
              refine r_iconst 3 rfl ?_
              refine Ar.fall 114 rfl ?_
              refine At.enter rfl ?_
              refine q_putI (Sh.int hI2445.1 kx_231 rfl) rfl ?_
              have hI2466 := HI.wI0 hI2445 kx_231 rfl (p := 231) (b := 11) (v := 3) rfl
              have hF2467 := Fr.wI (p := 231) (b := 11) (v := 3) hF2446 rfl
              refine r_aload_n e2175 ?_
              refine q_getI (Sh.int hI2466.1 kx_231 rfl) 3 (gI_sI_eq hI2445.1 kx_231 rfl _) ?_
              refine r_iconst 3 rfl ?_
              refine r_icf 125 rfl (by decide) ?_
              refine At.enter rfl ?_
              refine r_aload_n e2175 ?_
              refine r_aload_n e2175 ?_
              refine q_getR (Sh.ref hI2466.1 kx_231 rfl) ?_
              refine r_aload_n e2175 ?_
              refine q_getI (Sh.int hI2466.1 kx_231 rfl) x2167 (((gI_sI_ne (by decide)).trans ((gI_sJ_ne (by decide)).trans (gI_sI_ne (by decide)))).trans e2174) ?_
              refine q_iald (Sh.arr hI2466.1 ka_236) x2167.toInt rfl (by omega) v2441 ((eA_c ((gA_sI).trans ((gA_sJ).trans ((gA_sI).trans (hF2170.2.1 236 (by decide)))))).trans hv2441) ?_
              refine q_i2l (fun v2468 hv2468 => ?_)
              refine q_putJ (Sh.long hI2466.1 kx_231 rfl) rfl ?_
              have hI2469 := HI.wJ hI2466 kx_231 rfl (p := 231) (b := 12) (v := v2468)
              have hF2470 := Fr.wJ (p := 231) (b := 12) (v := v2468) hF2467 rfl
              refine r_aload_n e2175 ?_
              refine r_dup rfl ?_
              refine q_getI (Sh.int hI2469.1 kx_231 rfl) x2167 ((gI_sJ_ne (by decide)).trans ((gI_sI_ne (by decide)).trans ((gI_sJ_ne (by decide)).trans (gI_sI_eq hI2169.1 kx_231 rfl _)))) ?_
              refine r_iconst 1 rfl ?_
              refine q_iadd (x2167.toInt + 1) rfl (by omega) (fun v2471 hv2471 => ?_)
              refine q_putI (Sh.int hI2469.1 kx_231 rfl) rfl ?_
              have hI2472 := HI.wI1 hI2469 kx_231 rfl (p := 231) (b := 10) (v := v2471) rfl (by dsimp only; omega)
              have hF2473 := Fr.wI (p := 231) (b := 10) (v := v2471) hF2470 rfl
              refine Ar.fall 149 rfl ?_
              refine At.enter rfl ?_
              refine r_aload_n e2175 ?_
              refine q_getI (Sh.int hI2472.1 kx_231 rfl) 3 ((gI_sI_ne (by decide)).trans ((gI_sJ_ne (by decide)).trans (gI_sI_eq hI2445.1 kx_231 rfl _))) ?_
              refine r_iconst 1 rfl ?_
              refine r_ict (by decide) ?_
              refine At.enter rfl ?_
              refine r_aload_n e2175 ?_
              refine q_getI (Sh.int hI2472.1 kx_231 rfl) 3 ((gI_sI_ne (by decide)).trans ((gI_sJ_ne (by decide)).trans (gI_sI_eq hI2445.1 kx_231 rfl _))) ?_
              refine r_iconst 2 rfl ?_
              refine r_ict (by decide) ?_
              refine At.enter rfl ?_
              refine r_vret ?_
              have x2474 := HI.eqI hI2472 (p := 231) (b := 8) ((((gI_sI_ne (by decide)).trans ((gI_sJ_ne (by decide)).trans ((gI_sI_ne (by decide)).trans ((gI_sJ_ne (by decide)).trans ((gI_sI_ne (by decide)).trans (hF2170.1 231 8 (by decide))))))).trans hv1))
              have x2475 := HI.eqI hI2472 (p := 231) (b := 9) ((((gI_sI_ne (by decide)).trans ((gI_sJ_ne (by decide)).trans ((gI_sI_ne (by decide)).trans ((gI_sJ_ne (by decide)).trans (gI_sI_ne (by decide)))))).trans e2174))
              have x2476 := HI.eqI hI2472 (p := 231) (b := 10) ((gI_sI_eq hI2469.1 kx_231 rfl _))
              have x2477 := HI.eqI hI2472 (p := 231) (b := 11) (((gI_sI_ne (by decide)).trans ((gI_sJ_ne (by decide)).trans (gI_sI_eq hI2445.1 kx_231 rfl _))))
              have zv2478 : (3 : Int32).toInt = 3 := rfl
              have x2479 := HI.eqJ hI2472 (b := 12) (((gJ_sI_ne (by decide)).trans (gJ_sJ_eq hI2466.1 kx_231 rfl _)))
              have x2480 := HI.eqI hI0 (p := 231) (b := 10) (hv2)
              exact ⟨_, rfl, hI2472, hF2473, rfl, ⟨by omega, by omega, by omega, by omega, by omega, by show (gI _ 231 11).toInt = 1 → (gI _ 231 10).toInt ≤ (gI _ 231 9).toInt + 1 → (gJ _ 231 12).toInt ≤ 26; omega⟩⟩
            · have c2465_ : v2441.toInt ≤ 57 := en_i_gt_f c2465
              refine At.enter rfl ?_
              refine r_iconst 1 rfl ?_
              refine r_goto ?_
              refine At.enter rfl ?_
              refine q_iretz (by decide) ?_
              refine At.enter rfl ?_
              refine r_iff 109 rfl (by decide) ?_
              refine At.enter rfl ?_
              refine r_iconst 2 rfl ?_
              refine r_goto ?_
              refine At.enter rfl ?_
              refine q_putI (Sh.int hI2445.1 kx_231 rfl) rfl ?_
              have hI2481 := HI.wI0 hI2445 kx_231 rfl (p := 231) (b := 11) (v := 2) rfl
              have hF2482 := Fr.wI (p := 231) (b := 11) (v := 2) hF2446 rfl
              refine r_aload_n e2175 ?_
              refine q_getI (Sh.int hI2481.1 kx_231 rfl) 2 (gI_sI_eq hI2445.1 kx_231 rfl _) ?_
              refine r_iconst 3 rfl ?_
              refine r_ict (by decide) ?_
              refine At.enter rfl ?_
              refine r_aload_n e2175 ?_
              refine q_getI (Sh.int hI2481.1 kx_231 rfl) 2 (gI_sI_eq hI2445.1 kx_231 rfl _) ?_
              refine r_iconst 1 rfl ?_
              refine r_ict (by decide) ?_
              refine w_loopI (fun n_ l_ g_ => ∃ x2533 : Int32, n_ = 400 - x2533.toInt ∧ HI g_ ∧ Fr F_X11_next_231 A_X11_next_231 g0 g_ ∧ gI g_ 231 10 = x2533 ∧ gI g_ 231 9 = x2167 ∧ gI g_ 231 11 = 2 ∧ en_get 0 l_ = some (.ref 231) ∧ (0 ≤ x2533.toInt ∧ x2533.toInt ≤ 400) ∧ (x2167.toInt ≤ x2533.toInt) ∧ (x2533.toInt ≤ (gI g0 231 8).toInt) ∧ ((x2533.toInt ≤ x2167.toInt → (eA g0 236 x2533.toInt).toInt = v2441.toInt))) ?_ (400 - x2167.toInt) ⟨x2167, by first | rfl | omega, hI2481, hF2482, ((gI_sI_ne (by decide)).trans ((gI_sJ_ne (by decide)).trans (gI_sI_eq hI2169.1 kx_231 rfl _))), (((gI_sI_ne (by decide)).trans ((gI_sJ_ne (by decide)).trans (gI_sI_ne (by decide)))).trans e2174), (gI_sI_eq hI2445.1 kx_231 rfl _), e2175, by omega, by omega, by omega, (fun _ => congrArg Int32.toInt hv2441)⟩
              rintro n2538 l2537 g2534 ⟨x2533, hm2548, hI2535, hF2536, e2540, e2541, e2542, e2543, r2544, q2545, q2546, q2547⟩ ih2539
              have tv2549 := congrArg Int32.toInt e2541
              have tv2550 := congrArg Int32.toInt e2542
              have tv2551 := congrArg Int32.toInt e2540
              refine At.enter rfl ?_
              refine r_aload_n e2543 ?_
              refine q_getI (Sh.int hI2535.1 kx_231 rfl) 2 e2542 ?_
              refine r_iconst 2 rfl ?_
              refine r_icf 251 rfl (by decide) ?_
              refine At.enter rfl ?_
              refine r_aload_n e2543 ?_
              refine q_getI (Sh.int hI2535.1 kx_231 rfl) x2533 e2540 ?_
              refine r_aload_n e2543 ?_
              refine q_getI (Sh.int hI2535.1 kx_231 rfl) v1 ((hF2536.1 231 8 (by decide)).trans hv1) ?_
              have bv2553 := q_bnd x2533
              refine r_ics 262 rfl (fun c2552 => ?_) (fun c2552 => ?_)
              · have c2552_ : x2533.toInt ≥ v1.toInt := en_i_ge_t c2552
                refine At.enter rfl ?_
                refine r_vret ?_
                have x2554 := HI.eqI hI2535 (p := 231) (b := 8) (((hF2536.1 231 8 (by decide)).trans hv1))
                have x2555 := HI.eqI hI2535 (p := 231) (b := 9) (e2541)
                have x2556 := HI.eqI hI2535 (p := 231) (b := 10) (e2540)
                have x2557 := HI.eqI hI2535 (p := 231) (b := 11) (e2542)
                have zv2558 : (2 : Int32).toInt = 2 := rfl
                obtain ⟨v2559, hv2559⟩ : ∃ v, gJ g2534 231 12 = v := ⟨_, rfl⟩
                have tv2559 := congrArg Int64.toInt hv2559
                have x2560 := HI.eqJ hI2535 (b := 12) (hv2559)
                have x2561 := HI.eqI hI0 (p := 231) (b := 10) (hv2)
                exact ⟨_, rfl, hI2535, hF2536, rfl, ⟨by omega, by omega, by omega, by omega, by omega, by show (gI _ 231 11).toInt = 1 → (gI _ 231 10).toInt ≤ (gI _ 231 9).toInt + 1 → (gJ _ 231 12).toInt ≤ 26; omega⟩⟩
              · have c2552_ : x2533.toInt < v1.toInt := en_i_ge_f c2552
                refine At.enter rfl ?_
                refine r_aload_n e2543 ?_
                refine q_getR (Sh.ref hI2535.1 kx_231 rfl) ?_
                refine r_aload_n e2543 ?_
                refine q_getI (Sh.int hI2535.1 kx_231 rfl) x2533 e2540 ?_
                obtain ⟨v2562, hv2562⟩ : ∃ v, eA g0 236 x2533.toInt = v := ⟨_, rfl⟩
                have tv2562 := congrArg Int32.toInt hv2562
                refine q_iald (Sh.arr hI2535.1 ka_236) x2533.toInt rfl (by omega) v2562 ((eA_c (hF2536.2.1 236 (by decide))).trans hv2562) ?_
                refine q_inlS 274 rfl [.int v2562] [] (Nat.le_of_ble_eq_true rfl) rfl ?_
                refine Ev.mk rfl rfl ⟨Nat.le_of_ble_eq_true rfl, Or.inl rfl⟩ ?_
                show At _ none _ _ (0, [(0, .int v2562)], [], (_, _)) _
                refine At.enter rfl ?_
                refine r_iload_n rfl ?_
                refine r_bipush 48 rfl ?_
                refine r_ics 6 rfl (fun c2563 => ?_) (fun c2563 => ?_)
                · have c2563_ : v2562.toInt < 48 := en_i_lt_t c2563
                  refine At.enter rfl ?_
                  refine r_iconst 0 rfl ?_
                  refine Ar.fall 17 rfl ?_
                  refine At.enter rfl ?_
                  refine q_iretz (by decide) ?_
                  refine At.enter rfl ?_
                  refine r_ift (by decide) ?_
                  refine At.enter rfl ?_
                  refine r_vret ?_
                  have x2564 := HI.eqI hI2535 (p := 231) (b := 8) (((hF2536.1 231 8 (by decide)).trans hv1))
                  have x2565 := HI.eqI hI2535 (p := 231) (b := 9) (e2541)
                  have x2566 := HI.eqI hI2535 (p := 231) (b := 10) (e2540)
                  have x2567 := HI.eqI hI2535 (p := 231) (b := 11) (e2542)
                  have zv2568 : (2 : Int32).toInt = 2 := rfl
                  obtain ⟨v2569, hv2569⟩ : ∃ v, gJ g2534 231 12 = v := ⟨_, rfl⟩
                  have tv2569 := congrArg Int64.toInt hv2569
                  have x2570 := HI.eqJ hI2535 (b := 12) (hv2569)
                  have x2571 := HI.eqI hI0 (p := 231) (b := 10) (hv2)
                  exact ⟨_, rfl, hI2535, hF2536, rfl, ⟨by omega, by omega, by omega, by omega, by omega, by show (gI _ 231 11).toInt = 1 → (gI _ 231 10).toInt ≤ (gI _ 231 9).toInt + 1 → (gJ _ 231 12).toInt ≤ 26; omega⟩⟩
                · have c2563_ : v2562.toInt ≥ 48 := en_i_lt_f c2563
                  refine At.enter rfl ?_
                  refine r_iload_n rfl ?_
                  refine r_bipush 57 rfl ?_
                  refine r_ics 12 rfl (fun c2572 => ?_) (fun c2572 => ?_)
                  · have c2572_ : v2562.toInt > 57 := en_i_gt_t c2572
                    refine At.enter rfl ?_
                    refine r_iconst 0 rfl ?_
                    refine Ar.fall 17 rfl ?_
                    refine At.enter rfl ?_
                    refine q_iretz (by decide) ?_
                    refine At.enter rfl ?_
                    refine r_ift (by decide) ?_
                    refine At.enter rfl ?_
                    refine r_vret ?_
                    have x2573 := HI.eqI hI2535 (p := 231) (b := 8) (((hF2536.1 231 8 (by decide)).trans hv1))
                    have x2574 := HI.eqI hI2535 (p := 231) (b := 9) (e2541)
                    have x2575 := HI.eqI hI2535 (p := 231) (b := 10) (e2540)
                    have x2576 := HI.eqI hI2535 (p := 231) (b := 11) (e2542)
                    have zv2577 : (2 : Int32).toInt = 2 := rfl
                    obtain ⟨v2578, hv2578⟩ : ∃ v, gJ g2534 231 12 = v := ⟨_, rfl⟩
                    have tv2578 := congrArg Int64.toInt hv2578
                    have x2579 := HI.eqJ hI2535 (b := 12) (hv2578)
                    have x2580 := HI.eqI hI0 (p := 231) (b := 10) (hv2)
                    exact ⟨_, rfl, hI2535, hF2536, rfl, ⟨by omega, by omega, by omega, by omega, by omega, by show (gI _ 231 11).toInt = 1 → (gI _ 231 10).toInt ≤ (gI _ 231 9).toInt + 1 → (gJ _ 231 12).toInt ≤ 26; omega⟩⟩
                  · have c2572_ : v2562.toInt ≤ 57 := en_i_gt_f c2572
                    refine At.enter rfl ?_
                    refine r_iconst 1 rfl ?_
                    refine r_goto ?_
                    refine At.enter rfl ?_
                    refine q_iretz (by decide) ?_
                    refine At.enter rfl ?_
                    refine r_iff 277 rfl (by decide) ?_
                    refine At.enter rfl ?_
                    refine r_aload_n e2543 ?_
                    refine r_aload_n e2543 ?_
                    obtain ⟨v2581, hv2581⟩ : ∃ v, gJ g2534 231 12 = v := ⟨_, rfl⟩
                    have tv2581 := congrArg Int64.toInt hv2581
                    refine q_getJv (Sh.long hI2535.1 kx_231 rfl) v2581 hv2581 ?_
                    refine r_ldc2 1000000 rfl ?_
                    refine r_lcmp _ rfl ?_
                    refine r_ifs 289 rfl (fun c2582 => ?_) (fun c2582 => ?_)
                    · have c2582_ : v2581.toInt ≤ 1000000 := en_j_le_t c2582
                      refine At.enter rfl ?_
                      refine r_aload_n e2543 ?_
                      refine q_getJv (Sh.long hI2535.1 kx_231 rfl) v2581 hv2581 ?_
                      refine r_ldc2 10 rfl ?_
                      refine q_lmulO (fun v2583 lv2583 => ?_)
                      have kv2583 := l_mul lv2583
                      have zv2584 : (10 : Int64).toInt = 10 := rfl
                      refine r_aload_n e2543 ?_
                      refine q_getR (Sh.ref hI2535.1 kx_231 rfl) ?_
                      refine r_aload_n e2543 ?_
                      refine q_getI (Sh.int hI2535.1 kx_231 rfl) x2533 e2540 ?_
                      refine q_iald (Sh.arr hI2535.1 ka_236) x2533.toInt rfl (by omega) v2562 ((eA_c (hF2536.2.1 236 (by decide))).trans hv2562) ?_
                      refine q_i2l (fun v2585 hv2585 => ?_)
                      refine q_laddO (fun v2586 lv2586 => ?_)
                      have kv2586 := l_add lv2586
                      refine r_ldc2 48 rfl ?_
                      refine q_lsubO (fun v2587 lv2587 => ?_)
                      have kv2587 := l_sub lv2587
                      have zv2588 : (48 : Int64).toInt = 48 := rfl
                      refine Ar.fall 319 rfl ?_
                      refine At.enter rfl ?_
                      refine q_putJ (Sh.long hI2535.1 kx_231 rfl) rfl ?_
                      have hI2589 := HI.wJ hI2535 kx_231 rfl (p := 231) (b := 12) (v := v2587)
                      have hF2590 := Fr.wJ (p := 231) (b := 12) (v := v2587) hF2536 rfl
                      refine r_aload_n e2543 ?_
                      refine r_dup rfl ?_
                      refine q_getI (Sh.int hI2589.1 kx_231 rfl) x2533 ((gI_sJ_ne (by decide)).trans e2540) ?_
                      refine r_iconst 1 rfl ?_
                      refine q_iadd (x2533.toInt + 1) rfl (by omega) (fun v2591 hv2591 => ?_)
                      refine q_putI (Sh.int hI2589.1 kx_231 rfl) rfl ?_
                      have hI2592 := HI.wI1 hI2589 kx_231 rfl (p := 231) (b := 10) (v := v2591) rfl (by dsimp only; omega)
                      have hF2593 := Fr.wI (p := 231) (b := 10) (v := v2591) hF2590 rfl
                      refine r_goto ?_
                      exact ih2539 (400 - v2591.toInt) _ _ ⟨v2591, by first | rfl | omega, hI2592, hF2593, (gI_sI_eq hI2589.1 kx_231 rfl _), (((gI_sI_ne (by decide)).trans (gI_sJ_ne (by decide))).trans e2541), (((gI_sI_ne (by decide)).trans (gI_sJ_ne (by decide))).trans e2542), e2543, by omega, by omega, by omega, (fun h => absurd h (by omega))⟩ ⟨by omega, by omega⟩
                    · have c2582_ : v2581.toInt > 1000000 := en_j_le_f c2582
                      refine At.enter rfl ?_
                      refine r_aload_n e2543 ?_
                      refine q_getJv (Sh.long hI2535.1 kx_231 rfl) v2581 hv2581 ?_
                      refine r_goto ?_
                      refine At.enter rfl ?_
                      refine q_putJ (Sh.long hI2535.1 kx_231 rfl) rfl ?_
                      have hI2594 := HI.wJ hI2535 kx_231 rfl (p := 231) (b := 12) (v := v2581)
                      have hF2595 := Fr.wJ (p := 231) (b := 12) (v := v2581) hF2536 rfl
                      refine r_aload_n e2543 ?_
                      refine r_dup rfl ?_
                      refine q_getI (Sh.int hI2594.1 kx_231 rfl) x2533 ((gI_sJ_ne (by decide)).trans e2540) ?_
                      refine r_iconst 1 rfl ?_
                      refine q_iadd (x2533.toInt + 1) rfl (by omega) (fun v2596 hv2596 => ?_)
                      refine q_putI (Sh.int hI2594.1 kx_231 rfl) rfl ?_
                      have hI2597 := HI.wI1 hI2594 kx_231 rfl (p := 231) (b := 10) (v := v2596) rfl (by dsimp only; omega)
                      have hF2598 := Fr.wI (p := 231) (b := 10) (v := v2596) hF2595 rfl
                      refine r_goto ?_
                      exact ih2539 (400 - v2596.toInt) _ _ ⟨v2596, by first | rfl | omega, hI2597, hF2598, (gI_sI_eq hI2594.1 kx_231 rfl _), (((gI_sI_ne (by decide)).trans (gI_sJ_ne (by decide))).trans e2541), (((gI_sI_ne (by decide)).trans (gI_sJ_ne (by decide))).trans e2542), e2543, by omega, by omega, by omega, (fun h => absurd h (by omega))⟩ ⟨by omega, by omega⟩
        · have c2448_ : v2441.toInt ≥ 97 := en_i_lt_f c2448
          refine At.enter rfl ?_
          refine r_iload_n rfl ?_
          refine r_bipush 122 rfl ?_
          refine r_ics 12 rfl (fun c2599 => ?_) (fun c2599 => ?_)
          · have c2599_ : v2441.toInt > 122 := en_i_gt_t c2599
            refine At.enter rfl ?_
            refine r_iconst 0 rfl ?_
            refine Ar.fall 17 rfl ?_
            refine At.enter rfl ?_
            refine q_iretz (by decide) ?_
            refine At.enter rfl ?_
            refine r_ift (by decide) ?_
            refine At.enter rfl ?_
            refine r_aload_n e2175 ?_
            refine q_getR (Sh.ref hI2445.1 kx_231 rfl) ?_
            refine r_aload_n e2175 ?_
            refine q_getI (Sh.int hI2445.1 kx_231 rfl) x2167 (((gI_sJ_ne (by decide)).trans (gI_sI_ne (by decide))).trans e2174) ?_
            refine q_iald (Sh.arr hI2445.1 ka_236) x2167.toInt rfl (by omega) v2441 ((eA_c ((gA_sJ).trans ((gA_sI).trans (hF2170.2.1 236 (by decide))))).trans hv2441) ?_
            refine q_inlS 106 rfl [.int v2441] [.ref 231] (Nat.le_of_ble_eq_true rfl) rfl ?_
            refine Ev.mk rfl rfl ⟨Nat.le_of_ble_eq_true rfl, Or.inl rfl⟩ ?_
            show At _ none _ _ (0, [(0, .int v2441)], [], (_, _)) _
            refine At.enter rfl ?_
            refine r_iload_n rfl ?_
            refine r_bipush 48 rfl ?_
            refine r_ics 6 rfl (fun c2600 => ?_) (fun c2600 => ?_)
            · have c2600_ : v2441.toInt < 48 := en_i_lt_t c2600
              exfalso; omega
            · have c2600_ : v2441.toInt ≥ 48 := en_i_lt_f c2600
              refine At.enter rfl ?_
              refine r_iload_n rfl ?_
              refine r_bipush 57 rfl ?_
              refine r_ics 12 rfl (fun c2601 => ?_) (fun c2601 => ?_)
              · have c2601_ : v2441.toInt > 57 := en_i_gt_t c2601
                refine At.enter rfl ?_
                refine r_iconst 0 rfl ?_
                refine Ar.fall 17 rfl ?_
                refine At.enter rfl ?_
                refine q_iretz (by decide) ?_
                refine At.enter rfl ?_
                refine r_ift (by decide) ?_
                refine At.enter rfl ?_
                refine r_iconst 3 rfl ?_
                refine Ar.fall 114 rfl ?_
                refine At.enter rfl ?_
                refine q_putI (Sh.int hI2445.1 kx_231 rfl) rfl ?_
                have hI2602 := HI.wI0 hI2445 kx_231 rfl (p := 231) (b := 11) (v := 3) rfl
                have hF2603 := Fr.wI (p := 231) (b := 11) (v := 3) hF2446 rfl
                refine r_aload_n e2175 ?_
                refine q_getI (Sh.int hI2602.1 kx_231 rfl) 3 (gI_sI_eq hI2445.1 kx_231 rfl _) ?_
                refine r_iconst 3 rfl ?_
                refine r_icf 125 rfl (by decide) ?_
                refine At.enter rfl ?_
                refine r_aload_n e2175 ?_
                refine r_aload_n e2175 ?_
                refine q_getR (Sh.ref hI2602.1 kx_231 rfl) ?_
                refine r_aload_n e2175 ?_
                refine q_getI (Sh.int hI2602.1 kx_231 rfl) x2167 (((gI_sI_ne (by decide)).trans ((gI_sJ_ne (by decide)).trans (gI_sI_ne (by decide)))).trans e2174) ?_
                refine q_iald (Sh.arr hI2602.1 ka_236) x2167.toInt rfl (by omega) v2441 ((eA_c ((gA_sI).trans ((gA_sJ).trans ((gA_sI).trans (hF2170.2.1 236 (by decide)))))).trans hv2441) ?_
                refine q_i2l (fun v2604 hv2604 => ?_)
                refine q_putJ (Sh.long hI2602.1 kx_231 rfl) rfl ?_
                have hI2605 := HI.wJ hI2602 kx_231 rfl (p := 231) (b := 12) (v := v2604)
                have hF2606 := Fr.wJ (p := 231) (b := 12) (v := v2604) hF2603 rfl
                refine r_aload_n e2175 ?_
                refine r_dup rfl ?_
                refine q_getI (Sh.int hI2605.1 kx_231 rfl) x2167 ((gI_sJ_ne (by decide)).trans ((gI_sI_ne (by decide)).trans ((gI_sJ_ne (by decide)).trans (gI_sI_eq hI2169.1 kx_231 rfl _)))) ?_
                refine r_iconst 1 rfl ?_
                refine q_iadd (x2167.toInt + 1) rfl (by omega) (fun v2607 hv2607 => ?_)
                refine q_putI (Sh.int hI2605.1 kx_231 rfl) rfl ?_
                have hI2608 := HI.wI1 hI2605 kx_231 rfl (p := 231) (b := 10) (v := v2607) rfl (by dsimp only; omega)
                have hF2609 := Fr.wI (p := 231) (b := 10) (v := v2607) hF2606 rfl
                refine Ar.fall 149 rfl ?_
                refine At.enter rfl ?_
                refine r_aload_n e2175 ?_
                refine q_getI (Sh.int hI2608.1 kx_231 rfl) 3 ((gI_sI_ne (by decide)).trans ((gI_sJ_ne (by decide)).trans (gI_sI_eq hI2445.1 kx_231 rfl _))) ?_
                refine r_iconst 1 rfl ?_
                refine r_ict (by decide) ?_
                refine At.enter rfl ?_
                refine r_aload_n e2175 ?_
                refine q_getI (Sh.int hI2608.1 kx_231 rfl) 3 ((gI_sI_ne (by decide)).trans ((gI_sJ_ne (by decide)).trans (gI_sI_eq hI2445.1 kx_231 rfl _))) ?_
                refine r_iconst 2 rfl ?_
                refine r_ict (by decide) ?_
                refine At.enter rfl ?_
                refine r_vret ?_
                have x2610 := HI.eqI hI2608 (p := 231) (b := 8) ((((gI_sI_ne (by decide)).trans ((gI_sJ_ne (by decide)).trans ((gI_sI_ne (by decide)).trans ((gI_sJ_ne (by decide)).trans ((gI_sI_ne (by decide)).trans (hF2170.1 231 8 (by decide))))))).trans hv1))
                have x2611 := HI.eqI hI2608 (p := 231) (b := 9) ((((gI_sI_ne (by decide)).trans ((gI_sJ_ne (by decide)).trans ((gI_sI_ne (by decide)).trans ((gI_sJ_ne (by decide)).trans (gI_sI_ne (by decide)))))).trans e2174))
                have x2612 := HI.eqI hI2608 (p := 231) (b := 10) ((gI_sI_eq hI2605.1 kx_231 rfl _))
                have x2613 := HI.eqI hI2608 (p := 231) (b := 11) (((gI_sI_ne (by decide)).trans ((gI_sJ_ne (by decide)).trans (gI_sI_eq hI2445.1 kx_231 rfl _))))
                have zv2614 : (3 : Int32).toInt = 3 := rfl
                have x2615 := HI.eqJ hI2608 (b := 12) (((gJ_sI_ne (by decide)).trans (gJ_sJ_eq hI2602.1 kx_231 rfl _)))
                have x2616 := HI.eqI hI0 (p := 231) (b := 10) (hv2)
                exact ⟨_, rfl, hI2608, hF2609, rfl, ⟨by omega, by omega, by omega, by omega, by omega, by show (gI _ 231 11).toInt = 1 → (gI _ 231 10).toInt ≤ (gI _ 231 9).toInt + 1 → (gJ _ 231 12).toInt ≤ 26; omega⟩⟩
              · have c2601_ : v2441.toInt ≤ 57 := en_i_gt_f c2601
                exfalso; omega
          · have c2599_ : v2441.toInt ≤ 122 := en_i_gt_f c2599
            refine At.enter rfl ?_
            refine r_iconst 1 rfl ?_
            refine r_goto ?_
            refine At.enter rfl ?_
            refine q_iretz (by decide) ?_
            refine At.enter rfl ?_
            refine r_iff 90 rfl (by decide) ?_
            refine At.enter rfl ?_
            refine r_iconst 1 rfl ?_
            refine r_goto ?_
            refine At.enter rfl ?_
            refine q_putI (Sh.int hI2445.1 kx_231 rfl) rfl ?_
            have hI2617 := HI.wI0 hI2445 kx_231 rfl (p := 231) (b := 11) (v := 1) rfl
            have hF2618 := Fr.wI (p := 231) (b := 11) (v := 1) hF2446 rfl
            refine r_aload_n e2175 ?_
            refine q_getI (Sh.int hI2617.1 kx_231 rfl) 1 (gI_sI_eq hI2445.1 kx_231 rfl _) ?_
            refine r_iconst 3 rfl ?_
            refine r_ict (by decide) ?_
            refine w_loopI (fun n_ l_ g_ => ∃ x2671 : Int32, n_ = 400 - x2671.toInt ∧ HI g_ ∧ Fr F_X11_next_231 A_X11_next_231 g0 g_ ∧ gI g_ 231 10 = x2671 ∧ gI g_ 231 9 = x2167 ∧ gI g_ 231 11 = 1 ∧ en_get 0 l_ = some (.ref 231) ∧ (0 ≤ x2671.toInt ∧ x2671.toInt ≤ 400) ∧ (x2167.toInt ≤ x2671.toInt) ∧ (x2671.toInt ≤ (gI g0 231 8).toInt) ∧ ((x2671.toInt ≤ x2167.toInt → (gJ g_ 231 12).toInt = 0)) ∧ ((x2671.toInt ≤ x2167.toInt + 1 → (gJ g_ 231 12).toInt ≤ 26)) ∧ ((x2671.toInt ≤ x2167.toInt → (eA g0 236 x2671.toInt).toInt = v2441.toInt))) ?_ (400 - x2167.toInt) ⟨x2167, by first | rfl | omega, hI2617, hF2618, ((gI_sI_ne (by decide)).trans ((gI_sJ_ne (by decide)).trans (gI_sI_eq hI2169.1 kx_231 rfl _))), (((gI_sI_ne (by decide)).trans ((gI_sJ_ne (by decide)).trans (gI_sI_ne (by decide)))).trans e2174), (gI_sI_eq hI2445.1 kx_231 rfl _), e2175, by omega, by omega, by omega, (by have jw := HI.eqJ hI2617 (b := 12) (((gJ_sI_ne (by decide)).trans (gJ_sJ_eq hI2443.1 kx_231 rfl _))); have jz : (0 : Int64).toInt = 0 := rfl; omega), (by have jw := HI.eqJ hI2617 (b := 12) (((gJ_sI_ne (by decide)).trans (gJ_sJ_eq hI2443.1 kx_231 rfl _))); have jz : (0 : Int64).toInt = 0 := rfl; omega), (fun _ => congrArg Int32.toInt hv2441)⟩
            rintro n2676 l2675 g2672 ⟨x2671, hm2688, hI2673, hF2674, e2678, e2679, e2680, e2681, r2682, q2683, q2684, q2685, q2686, q2687⟩ ih2677
            have tv2689 := congrArg Int32.toInt e2679
            have tv2690 := congrArg Int32.toInt e2680
            have tv2691 := congrArg Int32.toInt e2678
            refine At.enter rfl ?_
            refine r_aload_n e2681 ?_
            refine q_getI (Sh.int hI2673.1 kx_231 rfl) 1 e2680 ?_
            refine r_iconst 1 rfl ?_
            refine r_icf 157 rfl (by decide) ?_
            refine At.enter rfl ?_
            refine r_aload_n e2681 ?_
            refine q_getI (Sh.int hI2673.1 kx_231 rfl) x2671 e2678 ?_
            refine r_aload_n e2681 ?_
            refine q_getI (Sh.int hI2673.1 kx_231 rfl) v1 ((hF2674.1 231 8 (by decide)).trans hv1) ?_
            have bv2693 := q_bnd x2671
            refine r_ics 168 rfl (fun c2692 => ?_) (fun c2692 => ?_)
            · have c2692_ : x2671.toInt ≥ v1.toInt := en_i_ge_t c2692
              refine At.enter rfl ?_
              refine r_aload_n e2681 ?_
              refine q_getI (Sh.int hI2673.1 kx_231 rfl) 1 e2680 ?_
              refine r_iconst 2 rfl ?_
              refine r_ict (by decide) ?_
              refine At.enter rfl ?_
              refine r_vret ?_
              have x2694 := HI.eqI hI2673 (p := 231) (b := 8) (((hF2674.1 231 8 (by decide)).trans hv1))
              have x2695 := HI.eqI hI2673 (p := 231) (b := 9) (e2679)
              have x2696 := HI.eqI hI2673 (p := 231) (b := 10) (e2678)
              have x2697 := HI.eqI hI2673 (p := 231) (b := 11) (e2680)
              have zv2698 : (1 : Int32).toInt = 1 := rfl
              obtain ⟨v2699, hv2699⟩ : ∃ v, gJ g2672 231 12 = v := ⟨_, rfl⟩
              have tv2699 := congrArg Int64.toInt hv2699
              have x2700 := HI.eqJ hI2673 (b := 12) (hv2699)
              have x2701 := HI.eqI hI0 (p := 231) (b := 10) (hv2)
              exact ⟨_, rfl, hI2673, hF2674, rfl, ⟨by omega, by omega, by omega, by omega, by omega, by show (gI _ 231 11).toInt = 1 → (gI _ 231 10).toInt ≤ (gI _ 231 9).toInt + 1 → (gJ _ 231 12).toInt ≤ 26; omega⟩⟩
            · have c2692_ : x2671.toInt < v1.toInt := en_i_ge_f c2692
              refine At.enter rfl ?_
              refine r_aload_n e2681 ?_
              refine q_getR (Sh.ref hI2673.1 kx_231 rfl) ?_
              refine r_aload_n e2681 ?_
              refine q_getI (Sh.int hI2673.1 kx_231 rfl) x2671 e2678 ?_
              obtain ⟨v2702, hv2702⟩ : ∃ v, eA g0 236 x2671.toInt = v := ⟨_, rfl⟩
              have tv2702 := congrArg Int32.toInt hv2702
              refine q_iald (Sh.arr hI2673.1 ka_236) x2671.toInt rfl (by omega) v2702 ((eA_c (hF2674.2.1 236 (by decide))).trans hv2702) ?_
              refine q_inlS 180 rfl [.int v2702] [] (Nat.le_of_ble_eq_true rfl) rfl ?_
              refine Ev.mk rfl rfl ⟨Nat.le_of_ble_eq_true rfl, Or.inl rfl⟩ ?_
              show At _ none _ _ (0, [(0, .int v2702)], [], (_, _)) _
              refine At.enter rfl ?_
              refine r_iload_n rfl ?_
              refine r_bipush 97 rfl ?_
              refine r_ics 6 rfl (fun c2703 => ?_) (fun c2703 => ?_)
              · have c2703_ : v2702.toInt < 97 := en_i_lt_t c2703
                refine At.enter rfl ?_
                refine r_iconst 0 rfl ?_
                refine Ar.fall 17 rfl ?_
                refine At.enter rfl ?_
                refine q_iretz (by decide) ?_
                refine At.enter rfl ?_
                refine r_ift (by decide) ?_
                refine At.enter rfl ?_
                refine r_aload_n e2681 ?_
                refine q_getI (Sh.int hI2673.1 kx_231 rfl) 1 e2680 ?_
                refine r_iconst 2 rfl ?_
                refine r_ict (by decide) ?_
                refine At.enter rfl ?_
                refine r_vret ?_
                have x2704 := HI.eqI hI2673 (p := 231) (b := 8) (((hF2674.1 231 8 (by decide)).trans hv1))
                have x2705 := HI.eqI hI2673 (p := 231) (b := 9) (e2679)
                have x2706 := HI.eqI hI2673 (p := 231) (b := 10) (e2678)
                have x2707 := HI.eqI hI2673 (p := 231) (b := 11) (e2680)
                have zv2708 : (1 : Int32).toInt = 1 := rfl
                obtain ⟨v2709, hv2709⟩ : ∃ v, gJ g2672 231 12 = v := ⟨_, rfl⟩
                have tv2709 := congrArg Int64.toInt hv2709
                have x2710 := HI.eqJ hI2673 (b := 12) (hv2709)
                have x2711 := HI.eqI hI0 (p := 231) (b := 10) (hv2)
                exact ⟨_, rfl, hI2673, hF2674, rfl, ⟨by omega, by omega, by omega, by omega, by omega, by show (gI _ 231 11).toInt = 1 → (gI _ 231 10).toInt ≤ (gI _ 231 9).toInt + 1 → (gJ _ 231 12).toInt ≤ 26; omega⟩⟩
              · have c2703_ : v2702.toInt ≥ 97 := en_i_lt_f c2703
                refine At.enter rfl ?_
                refine r_iload_n rfl ?_
                refine r_bipush 122 rfl ?_
                refine r_ics 12 rfl (fun c2712 => ?_) (fun c2712 => ?_)
                · have c2712_ : v2702.toInt > 122 := en_i_gt_t c2712
                  refine At.enter rfl ?_
                  refine r_iconst 0 rfl ?_
                  refine Ar.fall 17 rfl ?_
                  refine At.enter rfl ?_
                  refine q_iretz (by decide) ?_
                  refine At.enter rfl ?_
                  refine r_ift (by decide) ?_
                  refine At.enter rfl ?_
                  refine r_aload_n e2681 ?_
                  refine q_getI (Sh.int hI2673.1 kx_231 rfl) 1 e2680 ?_
                  refine r_iconst 2 rfl ?_
                  refine r_ict (by decide) ?_
                  refine At.enter rfl ?_
                  refine r_vret ?_
                  have x2713 := HI.eqI hI2673 (p := 231) (b := 8) (((hF2674.1 231 8 (by decide)).trans hv1))
                  have x2714 := HI.eqI hI2673 (p := 231) (b := 9) (e2679)
                  have x2715 := HI.eqI hI2673 (p := 231) (b := 10) (e2678)
                  have x2716 := HI.eqI hI2673 (p := 231) (b := 11) (e2680)
                  have zv2717 : (1 : Int32).toInt = 1 := rfl
                  obtain ⟨v2718, hv2718⟩ : ∃ v, gJ g2672 231 12 = v := ⟨_, rfl⟩
                  have tv2718 := congrArg Int64.toInt hv2718
                  have x2719 := HI.eqJ hI2673 (b := 12) (hv2718)
                  have x2720 := HI.eqI hI0 (p := 231) (b := 10) (hv2)
                  exact ⟨_, rfl, hI2673, hF2674, rfl, ⟨by omega, by omega, by omega, by omega, by omega, by show (gI _ 231 11).toInt = 1 → (gI _ 231 10).toInt ≤ (gI _ 231 9).toInt + 1 → (gJ _ 231 12).toInt ≤ 26; omega⟩⟩
                · have c2712_ : v2702.toInt ≤ 122 := en_i_gt_f c2712
                  refine At.enter rfl ?_
                  refine r_iconst 1 rfl ?_
                  refine r_goto ?_
                  refine At.enter rfl ?_
                  refine q_iretz (by decide) ?_
                  refine At.enter rfl ?_
                  refine r_iff 183 rfl (by decide) ?_
                  refine At.enter rfl ?_
                  refine r_aload_n e2681 ?_
                  refine r_aload_n e2681 ?_
                  refine q_getI (Sh.int hI2673.1 kx_231 rfl) x2671 e2678 ?_
                  refine r_aload_n e2681 ?_
                  refine q_getI (Sh.int hI2673.1 kx_231 rfl) x2167 e2679 ?_
                  refine q_isub (x2671.toInt - x2167.toInt) rfl (by omega) (fun v2721 hv2721 => ?_)
                  refine r_bipush 10 rfl ?_
                  refine r_ics 198 rfl (fun c2722 => ?_) (fun c2722 => ?_)
                  · have c2722_ : v2721.toInt ≥ 10 := en_i_ge_t c2722
                    refine At.enter rfl ?_
                    refine r_ldc2 (-1) rfl ?_
                    refine Ar.fall 227 rfl ?_
                    refine At.enter rfl ?_
                    refine q_putJ (Sh.long hI2673.1 kx_231 rfl) rfl ?_
                    have hI2723 := HI.wJ hI2673 kx_231 rfl (p := 231) (b := 12) (v := (-1))
                    have hF2724 := Fr.wJ (p := 231) (b := 12) (v := (-1)) hF2674 rfl
                    refine r_aload_n e2681 ?_
                    refine r_dup rfl ?_
                    refine q_getI (Sh.int hI2723.1 kx_231 rfl) x2671 ((gI_sJ_ne (by decide)).trans e2678) ?_
                    refine r_iconst 1 rfl ?_
                    refine q_iadd (x2671.toInt + 1) rfl (by omega) (fun v2725 hv2725 => ?_)
                    refine q_putI (Sh.int hI2723.1 kx_231 rfl) rfl ?_
                    have hI2726 := HI.wI1 hI2723 kx_231 rfl (p := 231) (b := 10) (v := v2725) rfl (by dsimp only; omega)
                    have hF2727 := Fr.wI (p := 231) (b := 10) (v := v2725) hF2724 rfl
                    refine r_goto ?_
                    exact ih2677 (400 - v2725.toInt) _ _ ⟨v2725, by first | rfl | omega, hI2726, hF2727, (gI_sI_eq hI2723.1 kx_231 rfl _), (((gI_sI_ne (by decide)).trans (gI_sJ_ne (by decide))).trans e2679), (((gI_sI_ne (by decide)).trans (gI_sJ_ne (by decide))).trans e2680), e2681, by omega, by omega, by omega, (by have jw := HI.eqJ hI2726 (b := 12) (((gJ_sI_ne (by decide)).trans (gJ_sJ_eq hI2673.1 kx_231 rfl _))); have jz : ((-1) : Int64).toInt = (-1) := rfl; omega), (by have jw := HI.eqJ hI2726 (b := 12) (((gJ_sI_ne (by decide)).trans (gJ_sJ_eq hI2673.1 kx_231 rfl _))); have jz : ((-1) : Int64).toInt = (-1) := rfl; omega), (fun h => absurd h (by omega))⟩ ⟨by omega, by omega⟩
                  · have c2722_ : v2721.toInt < 10 := en_i_ge_f c2722
                    refine At.enter rfl ?_
                    refine r_aload_n e2681 ?_
                    obtain ⟨v2728, hv2728⟩ : ∃ v, gJ g2672 231 12 = v := ⟨_, rfl⟩
                    have tv2728 := congrArg Int64.toInt hv2728
                    refine q_getJv (Sh.long hI2673.1 kx_231 rfl) v2728 hv2728 ?_
                    refine r_ldc2 32 rfl ?_
                    refine q_lmulO (fun v2729 lv2729 => ?_)
                    have kv2729 := l_mul lv2729
                    have zv2730 : (32 : Int64).toInt = 32 := rfl
                    refine r_aload_n e2681 ?_
                    refine q_getR (Sh.ref hI2673.1 kx_231 rfl) ?_
                    refine r_aload_n e2681 ?_
                    refine q_getI (Sh.int hI2673.1 kx_231 rfl) x2671 e2678 ?_
                    refine q_iald (Sh.arr hI2673.1 ka_236) x2671.toInt rfl (by omega) v2702 ((eA_c (hF2674.2.1 236 (by decide))).trans hv2702) ?_
                    refine q_i2l (fun v2731 hv2731 => ?_)
                    refine q_laddO (fun v2732 lv2732 => ?_)
                    have kv2732 := l_add lv2732
                    refine r_ldc2 96 rfl ?_
                    refine q_lsubO (fun v2733 lv2733 => ?_)
                    have kv2733 := l_sub lv2733
                    have zv2734 : (96 : Int64).toInt = 96 := rfl
                    refine r_goto ?_
                    refine At.enter rfl ?_
                    refine q_putJ (Sh.long hI2673.1 kx_231 rfl) rfl ?_
                    have hI2735 := HI.wJ hI2673 kx_231 rfl (p := 231) (b := 12) (v := v2733)
                    have hF2736 := Fr.wJ (p := 231) (b := 12) (v := v2733) hF2674 rfl
                    refine r_aload_n e2681 ?_
                    refine r_dup rfl ?_
                    refine q_getI (Sh.int hI2735.1 kx_231 rfl) x2671 ((gI_sJ_ne (by decide)).trans e2678) ?_
                    refine r_iconst 1 rfl ?_
                    refine q_iadd (x2671.toInt + 1) rfl (by omega) (fun v2737 hv2737 => ?_)
                    refine q_putI (Sh.int hI2735.1 kx_231 rfl) rfl ?_
                    have hI2738 := HI.wI1 hI2735 kx_231 rfl (p := 231) (b := 10) (v := v2737) rfl (by dsimp only; omega)
                    have hF2739 := Fr.wI (p := 231) (b := 10) (v := v2737) hF2736 rfl
                    refine r_goto ?_
                    exact ih2677 (400 - v2737.toInt) _ _ ⟨v2737, by first | rfl | omega, hI2738, hF2739, (gI_sI_eq hI2735.1 kx_231 rfl _), (((gI_sI_ne (by decide)).trans (gI_sJ_ne (by decide))).trans e2679), (((gI_sI_ne (by decide)).trans (gI_sJ_ne (by decide))).trans e2680), e2681, by omega, by omega, by omega, (by have jw := HI.eqJ hI2738 (b := 12) (((gJ_sI_ne (by decide)).trans (gJ_sJ_eq hI2673.1 kx_231 rfl _))); omega), (by have jw := HI.eqJ hI2738 (b := 12) (((gJ_sI_ne (by decide)).trans (gJ_sJ_eq hI2673.1 kx_231 rfl _))); omega), (fun h => absurd h (by omega))⟩ ⟨by omega, by omega⟩
      · have c2447_ : x2167.toInt = v1.toInt := en_i_ne_f c2447
        refine At.enter rfl ?_
        refine r_iconst 0 rfl ?_
        refine r_goto ?_
        refine At.enter rfl ?_
        refine q_putI (Sh.int hI2445.1 kx_231 rfl) rfl ?_
        have hI2740 := HI.wI0 hI2445 kx_231 rfl (p := 231) (b := 11) (v := 0) rfl
        have hF2741 := Fr.wI (p := 231) (b := 11) (v := 0) hF2446 rfl
        refine r_aload_n e2175 ?_
        refine q_getI (Sh.int hI2740.1 kx_231 rfl) 0 (gI_sI_eq hI2445.1 kx_231 rfl _) ?_
        refine r_iconst 3 rfl ?_
        refine r_ict (by decide) ?_
        refine At.enter rfl ?_
        refine r_aload_n e2175 ?_
        refine q_getI (Sh.int hI2740.1 kx_231 rfl) 0 (gI_sI_eq hI2445.1 kx_231 rfl _) ?_
        refine r_iconst 1 rfl ?_
        refine r_ict (by decide) ?_
        refine At.enter rfl ?_
        refine r_aload_n e2175 ?_
        refine q_getI (Sh.int hI2740.1 kx_231 rfl) 0 (gI_sI_eq hI2445.1 kx_231 rfl _) ?_
        refine r_iconst 2 rfl ?_
        refine r_ict (by decide) ?_
        refine At.enter rfl ?_
        refine r_vret ?_
        have x2742 := HI.eqI hI2740 (p := 231) (b := 8) ((((gI_sI_ne (by decide)).trans ((gI_sJ_ne (by decide)).trans ((gI_sI_ne (by decide)).trans (hF2170.1 231 8 (by decide))))).trans hv1))
        have x2743 := HI.eqI hI2740 (p := 231) (b := 9) ((((gI_sI_ne (by decide)).trans ((gI_sJ_ne (by decide)).trans (gI_sI_ne (by decide)))).trans e2174))
        have x2744 := HI.eqI hI2740 (p := 231) (b := 10) (((gI_sI_ne (by decide)).trans ((gI_sJ_ne (by decide)).trans (gI_sI_eq hI2169.1 kx_231 rfl _))))
        have x2745 := HI.eqI hI2740 (p := 231) (b := 11) ((gI_sI_eq hI2445.1 kx_231 rfl _))
        have zv2746 : (0 : Int32).toInt = 0 := rfl
        have x2747 := HI.eqJ hI2740 (b := 12) (((gJ_sI_ne (by decide)).trans (gJ_sJ_eq hI2443.1 kx_231 rfl _)))
        have zv2748 : (0 : Int64).toInt = 0 := rfl
        have x2749 := HI.eqI hI0 (p := 231) (b := 10) (hv2)
        exact ⟨_, rfl, hI2740, hF2741, rfl, ⟨by omega, by omega, by omega, by omega, by omega, by show (gI _ 231 11).toInt = 1 → (gI _ 231 10).toInt ≤ (gI _ 231 9).toInt + 1 → (gJ _ 231 12).toInt ≤ 26; omega⟩⟩
    · have c2442_ : v2441.toInt = 32 := en_i_ne_f c2442
      refine At.enter rfl ?_
      refine r_aload_n e2175 ?_
      refine r_dup rfl ?_
      refine q_getI (Sh.int hI2169.1 kx_231 rfl) x2167 e2174 ?_
      refine r_iconst 1 rfl ?_
      refine q_iadd (x2167.toInt + 1) rfl (by omega) (fun v2750 hv2750 => ?_)
      refine q_putI (Sh.int hI2169.1 kx_231 rfl) rfl ?_
      have hI2751 := HI.wI1 hI2169 kx_231 rfl (p := 231) (b := 9) (v := v2750) rfl (by dsimp only; omega)
      have hF2752 := Fr.wI (p := 231) (b := 9) (v := v2750) hF2170 rfl
      refine r_goto ?_
      exact ih2173 (400 - v2750.toInt) _ _ ⟨v2750, by first | rfl | omega, hI2751, hF2752, (gI_sI_eq hI2169.1 kx_231 rfl _), e2175, by omega, by omega, by omega⟩ ⟨by omega, by omega⟩

def F_X11_must_231 : List (Nat × Nat) := [(231, 9), (231, 10), (231, 11), (231, 12), (231, 13), (231, 14)]
def A_X11_must_231 : List Nat := []
set_option maxRecDepth 100000 in
set_option maxHeartbeats 4000000 in
theorem T_X11_must_231 (d : Nat) {N : Nat} {g0 : List en_E} (hI0 : HI g0) (a1 : Int32) (h_a1 : 0 ≤ a1.toInt ∧ a1.toInt ≤ 1) (h1 : ((gI g0 231 9).toInt ≤ (gI g0 231 10).toInt ∧ (gI g0 231 10).toInt ≤ (gI g0 231 8).toInt ∧ 0 ≤ (gI g0 231 11).toInt ∧ (gI g0 231 11).toInt ≤ 3 * ((gI g0 231 10).toInt - (gI g0 231 9).toInt))) (hW : W26 g0) : Ev (d + 3) 193 [.ref 231, .int a1] (g0, N) (fun w h' => ∃ g', h' = (g', N) ∧ HI g' ∧ Fr F_X11_must_231 A_X11_must_231 g0 g' ∧ w = none ∧ ((gI g' 231 9).toInt ≤ (gI g' 231 10).toInt ∧ (gI g' 231 10).toInt ≤ (gI g' 231 8).toInt ∧ 0 ≤ (gI g' 231 11).toInt ∧ (gI g' 231 11).toInt ≤ 3 * ((gI g' 231 10).toInt - (gI g' 231 9).toInt) ∧ (gI g0 231 9).toInt ≤ (gI g' 231 9).toInt ∧ W26 g' ∧ ((gI g' 231 14).toInt = 0 → (gI g0 231 14).toInt = 0 ∧ a1.toInt ≠ 0 ∧ (gI g0 231 10).toInt ≤ (gI g' 231 9).toInt))) := by
  have hF0 : Fr F_X11_must_231 A_X11_must_231 g0 g0 := Fr.rf
  obtain ⟨v1, hv1⟩ : ∃ v, gI g0 231 8 = v := ⟨_, rfl⟩
  have rv1 := RgF.at hI0.2.1 (p := 231) (b := 8) rfl
  rw [hv1] at rv1
  dsimp only at rv1
  have tv1 := congrArg Int32.toInt hv1
  obtain ⟨v2, hv2⟩ : ∃ v, gI g0 231 9 = v := ⟨_, rfl⟩
  have rv2 := RgF.at hI0.2.1 (p := 231) (b := 9) rfl
  rw [hv2] at rv2
  dsimp only at rv2
  have tv2 := congrArg Int32.toInt hv2
  obtain ⟨v3, hv3⟩ : ∃ v, gI g0 231 10 = v := ⟨_, rfl⟩
  have rv3 := RgF.at hI0.2.1 (p := 231) (b := 10) rfl
  rw [hv3] at rv3
  dsimp only at rv3
  have tv3 := congrArg Int32.toInt hv3
  obtain ⟨v4, hv4⟩ : ∃ v, gI g0 231 11 = v := ⟨_, rfl⟩
  have tv4 := congrArg Int32.toInt hv4
  obtain ⟨v5, hv5⟩ : ∃ v, gI g0 231 14 = v := ⟨_, rfl⟩
  have tv5 := congrArg Int32.toInt hv5
  refine Ev.mk rfl rfl ⟨Nat.le_of_ble_eq_true rfl, Or.inr (q_rc hI0.1 kx_231 rfl)⟩ ?_
  show At _ none _ _ (0, [(0, .ref 231), (1, .int a1)], [], (_, _)) _
  refine At.enter rfl ?_
  refine r_aload_n rfl ?_
  refine q_getI (Sh.int hI0.1 kx_231 rfl) v5 hv5 ?_
  refine r_ifs 7 rfl (fun c114 => ?_) (fun c114 => ?_)
  · have c114_ : v5.toInt ≠ 0 := en_k_ne_t c114
    refine At.enter rfl ?_
    refine r_aload_n rfl ?_
    refine q_getI (Sh.int hI0.1 kx_231 rfl) v5 hv5 ?_
    refine r_ifs 31 rfl (fun c115 => ?_) (fun c115 => ?_)
    · have c115_ : v5.toInt ≠ 0 := en_k_ne_t c115
      refine At.enter rfl ?_
      refine r_vret ?_
      have x116 := HI.eqI hI0 (p := 231) (b := 8) (hv1)
      have x117 := HI.eqI hI0 (p := 231) (b := 9) (hv2)
      have x118 := HI.eqI hI0 (p := 231) (b := 10) (hv3)
      have x119 := HI.eqI hI0 (p := 231) (b := 11) (hv4)
      have x120 := HI.eqI hI0 (p := 231) (b := 14) (hv5)
      have x121 := HI.eqI hI0 (p := 231) (b := 8) (hv1)
      have x122 := HI.eqI hI0 (p := 231) (b := 9) (hv2)
      have x123 := HI.eqI hI0 (p := 231) (b := 10) (hv3)
      have x124 := HI.eqI hI0 (p := 231) (b := 11) (hv4)
      have x125 := HI.eqI hI0 (p := 231) (b := 14) (hv5)
      exact ⟨_, rfl, hI0, hF0, rfl, ⟨by omega, by omega, by omega, by omega, by omega, hW, by omega⟩⟩
    · have c115_ : v5.toInt = 0 := en_k_ne_f c115
      refine At.enter rfl ?_
      refine r_aload_n rfl ?_
      have x126 := HI.eqI hI0 (p := 231) (b := 8) (hv1)
      have x127 := HI.eqI hI0 (p := 231) (b := 10) (hv3)
      refine r_callV 35 rfl [.ref 231] [] (Nat.le_of_ble_eq_true rfl) rfl (T_X11_next_231 _ hI0 (by omega)) ?_
      rintro _ _ ⟨g128, rfl, hI129, hF130, rfl, hr132⟩
      refine At.stn ?_
      have hF133 := Fr.tr hF0 hF130 rfl rfl
      have x134 := HI.eqI hI0 (p := 231) (b := 8) (hv1)
      have x135 := HI.eqI hI0 (p := 231) (b := 10) (hv3)
      have x136 := HI.eqI hI129 (p := 231) (b := 8) (((hF130.1 231 8 (by decide)).trans hv1))
      obtain ⟨v137, hv137⟩ : ∃ v, gI g128 231 9 = v := ⟨_, rfl⟩
      have rv137 := RgF.at hI129.2.1 (p := 231) (b := 9) rfl
      rw [hv137] at rv137
      dsimp only at rv137
      have tv137 := congrArg Int32.toInt hv137
      have x138 := HI.eqI hI129 (p := 231) (b := 9) (hv137)
      obtain ⟨v139, hv139⟩ : ∃ v, gI g128 231 10 = v := ⟨_, rfl⟩
      have rv139 := RgF.at hI129.2.1 (p := 231) (b := 10) rfl
      rw [hv139] at rv139
      dsimp only at rv139
      have tv139 := congrArg Int32.toInt hv139
      have x140 := HI.eqI hI129 (p := 231) (b := 10) (hv139)
      obtain ⟨v141, hv141⟩ : ∃ v, gI g128 231 11 = v := ⟨_, rfl⟩
      have tv141 := congrArg Int32.toInt hv141
      have x142 := HI.eqI hI129 (p := 231) (b := 11) (hv141)
      obtain ⟨c143, c144, c145, c146, c147, c148⟩ := hr132
      refine At.enter rfl ?_
      refine r_vret ?_
      have x149 := HI.eqI hI129 (p := 231) (b := 8) (((hF130.1 231 8 (by decide)).trans hv1))
      have x150 := HI.eqI hI129 (p := 231) (b := 9) (hv137)
      have x151 := HI.eqI hI129 (p := 231) (b := 10) (hv139)
      have x152 := HI.eqI hI129 (p := 231) (b := 11) (hv141)
      have x153 := HI.eqI hI129 (p := 231) (b := 14) (((hF130.1 231 14 (by decide)).trans hv5))
      have x154 := HI.eqI hI0 (p := 231) (b := 8) (hv1)
      have x155 := HI.eqI hI0 (p := 231) (b := 9) (hv2)
      have x156 := HI.eqI hI0 (p := 231) (b := 10) (hv3)
      have x157 := HI.eqI hI0 (p := 231) (b := 11) (hv4)
      have x158 := HI.eqI hI0 (p := 231) (b := 14) (hv5)
      exact ⟨_, rfl, hI129, hF133, rfl, ⟨by omega, by omega, by omega, by omega, by omega, c148, by omega⟩⟩
  · have c114_ : v5.toInt = 0 := en_k_ne_f c114
    refine At.enter rfl ?_
    refine r_iload_n rfl ?_
    refine r_ifs 11 rfl (fun c159 => ?_) (fun c159 => ?_)
    · have c159_ : a1.toInt ≠ 0 := en_k_ne_t c159
      refine At.enter rfl ?_
      refine r_aload_n rfl ?_
      refine q_getI (Sh.int hI0.1 kx_231 rfl) v5 hv5 ?_
      refine r_ifs 31 rfl (fun c160 => ?_) (fun c160 => ?_)
      · have c160_ : v5.toInt ≠ 0 := en_k_ne_t c160
        exfalso; omega
      · have c160_ : v5.toInt = 0 := en_k_ne_f c160
        refine At.enter rfl ?_
        refine r_aload_n rfl ?_
        have x161 := HI.eqI hI0 (p := 231) (b := 8) (hv1)
        have x162 := HI.eqI hI0 (p := 231) (b := 10) (hv3)
        refine r_callV 35 rfl [.ref 231] [] (Nat.le_of_ble_eq_true rfl) rfl (T_X11_next_231 _ hI0 (by omega)) ?_
        rintro _ _ ⟨g163, rfl, hI164, hF165, rfl, hr167⟩
        refine At.stn ?_
        have hF168 := Fr.tr hF0 hF165 rfl rfl
        have x169 := HI.eqI hI0 (p := 231) (b := 8) (hv1)
        have x170 := HI.eqI hI0 (p := 231) (b := 10) (hv3)
        have x171 := HI.eqI hI164 (p := 231) (b := 8) (((hF165.1 231 8 (by decide)).trans hv1))
        obtain ⟨v172, hv172⟩ : ∃ v, gI g163 231 9 = v := ⟨_, rfl⟩
        have rv172 := RgF.at hI164.2.1 (p := 231) (b := 9) rfl
        rw [hv172] at rv172
        dsimp only at rv172
        have tv172 := congrArg Int32.toInt hv172
        have x173 := HI.eqI hI164 (p := 231) (b := 9) (hv172)
        obtain ⟨v174, hv174⟩ : ∃ v, gI g163 231 10 = v := ⟨_, rfl⟩
        have rv174 := RgF.at hI164.2.1 (p := 231) (b := 10) rfl
        rw [hv174] at rv174
        dsimp only at rv174
        have tv174 := congrArg Int32.toInt hv174
        have x175 := HI.eqI hI164 (p := 231) (b := 10) (hv174)
        obtain ⟨v176, hv176⟩ : ∃ v, gI g163 231 11 = v := ⟨_, rfl⟩
        have tv176 := congrArg Int32.toInt hv176
        have x177 := HI.eqI hI164 (p := 231) (b := 11) (hv176)
        obtain ⟨c178, c179, c180, c181, c182, c183⟩ := hr167
        refine At.enter rfl ?_
        refine r_vret ?_
        have x184 := HI.eqI hI164 (p := 231) (b := 8) (((hF165.1 231 8 (by decide)).trans hv1))
        have x185 := HI.eqI hI164 (p := 231) (b := 9) (hv172)
        have x186 := HI.eqI hI164 (p := 231) (b := 10) (hv174)
        have x187 := HI.eqI hI164 (p := 231) (b := 11) (hv176)
        have x188 := HI.eqI hI164 (p := 231) (b := 14) (((hF165.1 231 14 (by decide)).trans hv5))
        have x189 := HI.eqI hI0 (p := 231) (b := 8) (hv1)
        have x190 := HI.eqI hI0 (p := 231) (b := 9) (hv2)
        have x191 := HI.eqI hI0 (p := 231) (b := 10) (hv3)
        have x192 := HI.eqI hI0 (p := 231) (b := 11) (hv4)
        have x193 := HI.eqI hI0 (p := 231) (b := 14) (hv5)
        exact ⟨_, rfl, hI164, hF168, rfl, ⟨by omega, by omega, by omega, by omega, by omega, c183, by omega⟩⟩
    · have c159_ : a1.toInt = 0 := en_k_ne_f c159
      refine At.enter rfl ?_
      refine r_aload_n rfl ?_
      refine r_iconst 1 rfl ?_
      refine q_putI (Sh.int hI0.1 kx_231 rfl) rfl ?_
      have hI194 := HI.wI0 hI0 kx_231 rfl (p := 231) (b := 14) (v := 1) rfl
      have hF195 := Fr.wI (p := 231) (b := 14) (v := 1) hF0 rfl
      refine r_aload_n rfl ?_
      refine r_aload_n rfl ?_
      refine q_getI (Sh.int hI194.1 kx_231 rfl) v2 ((gI_sI_ne (by decide)).trans hv2) ?_
      refine q_putI (Sh.int hI194.1 kx_231 rfl) rfl ?_
      have hI196 := HI.wI0 hI194 kx_231 rfl (p := 231) (b := 13) (v := v2) rfl
      have hF197 := Fr.wI (p := 231) (b := 13) (v := v2) hF195 rfl
      refine Ar.fall 24 rfl ?_
      refine At.enter rfl ?_
      refine r_aload_n rfl ?_
      refine q_getI (Sh.int hI196.1 kx_231 rfl) 1 ((gI_sI_ne (by decide)).trans (gI_sI_eq hI0.1 kx_231 rfl _)) ?_
      refine r_ift (by decide) ?_
      refine At.enter rfl ?_
      refine r_vret ?_
      have x198 := HI.eqI hI196 (p := 231) (b := 8) ((((gI_sI_ne (by decide)).trans (gI_sI_ne (by decide))).trans hv1))
      have x199 := HI.eqI hI196 (p := 231) (b := 9) ((((gI_sI_ne (by decide)).trans (gI_sI_ne (by decide))).trans hv2))
      have x200 := HI.eqI hI196 (p := 231) (b := 10) ((((gI_sI_ne (by decide)).trans (gI_sI_ne (by decide))).trans hv3))
      have x201 := HI.eqI hI196 (p := 231) (b := 11) ((((gI_sI_ne (by decide)).trans (gI_sI_ne (by decide))).trans hv4))
      have x202 := HI.eqI hI196 (p := 231) (b := 14) (((gI_sI_ne (by decide)).trans (gI_sI_eq hI0.1 kx_231 rfl _)))
      have zv203 : (1 : Int32).toInt = 1 := rfl
      have x204 := HI.eqI hI0 (p := 231) (b := 8) (hv1)
      have x205 := HI.eqI hI0 (p := 231) (b := 9) (hv2)
      have x206 := HI.eqI hI0 (p := 231) (b := 10) (hv3)
      have x207 := HI.eqI hI0 (p := 231) (b := 11) (hv4)
      have x208 := HI.eqI hI0 (p := 231) (b := 14) (hv5)
      have w26209 := W26.cong hW hI196 (((gI_sI_ne (by decide)).trans (gI_sI_ne (by decide)))) (((gI_sI_ne (by decide)).trans (gI_sI_ne (by decide)))) (((gI_sI_ne (by decide)).trans (gI_sI_ne (by decide)))) (((gJ_sI_ne (by decide)).trans (gJ_sI_ne (by decide))))
      exact ⟨_, rfl, hI196, hF197, rfl, ⟨by omega, by omega, by omega, by omega, by omega, w26209, by omega⟩⟩

def F_X11_isSign_231 : List (Nat × Nat) := []
def A_X11_isSign_231 : List Nat := []
set_option maxRecDepth 100000 in
set_option maxHeartbeats 4000000 in
theorem T_X11_isSign_231 (d : Nat) {N : Nat} {g0 : List en_E} (hI0 : HI g0) (a1 : Int32) (h1 : 0 ≤ (gI g0 231 11).toInt) : Ev (d + 1) 192 [.ref 231, .int a1] (g0, N) (fun w h' => ∃ g', h' = (g', N) ∧ HI g' ∧ Fr F_X11_isSign_231 A_X11_isSign_231 g0 g' ∧ ∃ r : Int32, w = some (.int r) ∧ (0 ≤ r.toInt ∧ r.toInt ≤ 1) ∧ (3 * r.toInt ≤ (gI g0 231 11).toInt)) := by
  have hF0 : Fr F_X11_isSign_231 A_X11_isSign_231 g0 g0 := Fr.rf
  obtain ⟨v1, hv1⟩ : ∃ v, gI g0 231 11 = v := ⟨_, rfl⟩
  have tv1 := congrArg Int32.toInt hv1
  refine Ev.mk rfl rfl ⟨Nat.le_of_ble_eq_true rfl, Or.inr (q_rc hI0.1 kx_231 rfl)⟩ ?_
  show At _ none _ _ (0, [(0, .ref 231), (1, .int a1)], [], (_, _)) _
  refine At.enter rfl ?_
  refine r_aload_n rfl ?_
  refine q_getI (Sh.int hI0.1 kx_231 rfl) v1 hv1 ?_
  refine r_iconst 3 rfl ?_
  refine r_ics 8 rfl (fun c10 => ?_) (fun c10 => ?_)
  · have c10_ : v1.toInt ≠ 3 := en_i_ne_t c10
    refine At.enter rfl ?_
    refine r_iconst 0 rfl ?_
    refine Ar.fall 23 rfl ?_
    refine At.enter rfl ?_
    refine r_iretz (by decide) ?_
    have x11 := HI.eqI hI0 (p := 231) (b := 11) (hv1)
    have x12 := HI.eqI hI0 (p := 231) (b := 11) (hv1)
    have zv13 : (0 : Int32).toInt = 0 := rfl
    exact ⟨_, rfl, hI0, hF0, _, rfl, by decide, (by omega)⟩
  · have c10_ : v1.toInt = 3 := en_i_ne_f c10
    refine At.enter rfl ?_
    refine r_aload_n rfl ?_
    obtain ⟨v14, hv14⟩ : ∃ v, gJ g0 231 12 = v := ⟨_, rfl⟩
    refine q_getJv (Sh.long hI0.1 kx_231 rfl) v14 hv14 ?_
    refine r_iload_n rfl ?_
    refine q_i2l (fun v15 hv15 => ?_)
    refine r_lcmp _ rfl ?_
    refine r_ifs 18 rfl (fun c16 => ?_) (fun c16 => ?_)
    · have c16_ : v14.toInt ≠ v15.toInt := en_j_ne_t c16
      refine At.enter rfl ?_
      refine r_iconst 0 rfl ?_
      refine Ar.fall 23 rfl ?_
      refine At.enter rfl ?_
      refine r_iretz (by decide) ?_
      have x17 := HI.eqI hI0 (p := 231) (b := 11) (hv1)
      have x18 := HI.eqI hI0 (p := 231) (b := 11) (hv1)
      have zv19 : (0 : Int32).toInt = 0 := rfl
      exact ⟨_, rfl, hI0, hF0, _, rfl, by decide, (by omega)⟩
    · have c16_ : v14.toInt = v15.toInt := en_j_ne_f c16
      refine At.enter rfl ?_
      refine r_iconst 1 rfl ?_
      refine r_goto ?_
      refine At.enter rfl ?_
      refine r_iretz (by decide) ?_
      have x20 := HI.eqI hI0 (p := 231) (b := 11) (hv1)
      have x21 := HI.eqI hI0 (p := 231) (b := 11) (hv1)
      have zv22 : (1 : Int32).toInt = 1 := rfl
      exact ⟨_, rfl, hI0, hF0, _, rfl, by decide, (by omega)⟩

def F_X11_isWord_231 : List (Nat × Nat) := []
def A_X11_isWord_231 : List Nat := []
set_option maxRecDepth 100000 in
set_option maxHeartbeats 4000000 in
theorem T_X11_isWord_231 (d : Nat) {N : Nat} {g0 : List en_E} (hI0 : HI g0) (a1 : Int64) (h1 : 0 ≤ (gI g0 231 11).toInt) : Ev (d + 1) 191 [.ref 231, .long a1] (g0, N) (fun w h' => ∃ g', h' = (g', N) ∧ HI g' ∧ Fr F_X11_isWord_231 A_X11_isWord_231 g0 g' ∧ ∃ r : Int32, w = some (.int r) ∧ (0 ≤ r.toInt ∧ r.toInt ≤ 1) ∧ (r.toInt ≤ (gI g0 231 11).toInt ∧ ISW g0 r.toInt a1.toInt)) := by
  have hF0 : Fr F_X11_isWord_231 A_X11_isWord_231 g0 g0 := Fr.rf
  obtain ⟨v1, hv1⟩ : ∃ v, gI g0 231 11 = v := ⟨_, rfl⟩
  have tv1 := congrArg Int32.toInt hv1
  refine Ev.mk rfl rfl ⟨Nat.le_of_ble_eq_true rfl, Or.inr (q_rc hI0.1 kx_231 rfl)⟩ ?_
  show At _ none _ _ (0, [(0, .ref 231), (1, .long a1)], [], (_, _)) _
  refine At.enter rfl ?_
  refine r_aload_n rfl ?_
  refine q_getI (Sh.int hI0.1 kx_231 rfl) v1 hv1 ?_
  refine r_iconst 1 rfl ?_
  refine r_ics 8 rfl (fun c8 => ?_) (fun c8 => ?_)
  · have c8_ : v1.toInt ≠ 1 := en_i_ne_t c8
    refine At.enter rfl ?_
    refine r_iconst 0 rfl ?_
    refine Ar.fall 22 rfl ?_
    refine At.enter rfl ?_
    refine r_iretz (by decide) ?_
    have x9 := HI.eqI hI0 (p := 231) (b := 11) (hv1)
    have x10 := HI.eqI hI0 (p := 231) (b := 11) (hv1)
    have zv11 : (0 : Int32).toInt = 0 := rfl
    obtain ⟨v12, hv12⟩ : ∃ v, gJ g0 231 12 = v := ⟨_, rfl⟩
    have x13 := HI.eqJ hI0 (b := 12) (hv12)
    exact ⟨_, rfl, hI0, hF0, _, rfl, by decide, ⟨by omega, by show _ → (gI _ 231 11).toInt = 1 ∧ _; omega⟩⟩
  · have c8_ : v1.toInt = 1 := en_i_ne_f c8
    refine At.enter rfl ?_
    refine r_aload_n rfl ?_
    obtain ⟨v14, hv14⟩ : ∃ v, gJ g0 231 12 = v := ⟨_, rfl⟩
    refine q_getJv (Sh.long hI0.1 kx_231 rfl) v14 hv14 ?_
    refine r_lload_n rfl ?_
    refine r_lcmp _ rfl ?_
    refine r_ifs 17 rfl (fun c15 => ?_) (fun c15 => ?_)
    · have c15_ : v14.toInt ≠ a1.toInt := en_j_ne_t c15
      refine At.enter rfl ?_
      refine r_iconst 0 rfl ?_
      refine Ar.fall 22 rfl ?_
      refine At.enter rfl ?_
      refine r_iretz (by decide) ?_
      have x16 := HI.eqI hI0 (p := 231) (b := 11) (hv1)
      have x17 := HI.eqI hI0 (p := 231) (b := 11) (hv1)
      have zv18 : (0 : Int32).toInt = 0 := rfl
      have x19 := HI.eqJ hI0 (b := 12) (hv14)
      exact ⟨_, rfl, hI0, hF0, _, rfl, by decide, ⟨by omega, by show _ → (gI _ 231 11).toInt = 1 ∧ _; omega⟩⟩
    · have c15_ : v14.toInt = a1.toInt := en_j_ne_f c15
      refine At.enter rfl ?_
      refine r_iconst 1 rfl ?_
      refine r_goto ?_
      refine At.enter rfl ?_
      refine r_iretz (by decide) ?_
      have x20 := HI.eqI hI0 (p := 231) (b := 11) (hv1)
      have x21 := HI.eqI hI0 (p := 231) (b := 11) (hv1)
      have zv22 : (1 : Int32).toInt = 1 := rfl
      have x23 := HI.eqJ hI0 (b := 12) (hv14)
      exact ⟨_, rfl, hI0, hF0, _, rfl, by decide, ⟨by omega, by show _ → (gI _ 231 11).toInt = 1 ∧ _; omega⟩⟩

def F_X11_emit_231 : List (Nat × Nat) := [(231, 17)]
def A_X11_emit_231 : List Nat := [238, 239]
set_option maxRecDepth 100000 in
set_option maxHeartbeats 4000000 in
theorem T_X11_emit_231 (d : Nat) {N : Nat} {g0 : List en_E} (hI0 : HI g0) (a1 : Int32) (a2 : Int32) (h1 : (gI g0 231 17).toInt ≤ 399) : Ev (d + 1) 195 [.ref 231, .int a1, .int a2] (g0, N) (fun w h' => ∃ g', h' = (g', N) ∧ HI g' ∧ Fr F_X11_emit_231 A_X11_emit_231 g0 g' ∧ w = none ∧ EMIT g0 g' a1.toInt) := by
  have hF0 : Fr F_X11_emit_231 A_X11_emit_231 g0 g0 := Fr.rf
  obtain ⟨v1, hv1⟩ : ∃ v, gI g0 231 17 = v := ⟨_, rfl⟩
  have rv1 := RgF.at hI0.2.1 (p := 231) (b := 17) rfl
  rw [hv1] at rv1
  dsimp only at rv1
  have tv1 := congrArg Int32.toInt hv1
  refine Ev.mk rfl rfl ⟨Nat.le_of_ble_eq_true rfl, Or.inr (q_rc hI0.1 kx_231 rfl)⟩ ?_
  show At _ none _ _ (0, [(0, .ref 231), (1, .int a1), (2, .int a2)], [], (_, _)) _
  refine At.enter rfl ?_
  refine r_aload_n rfl ?_
  refine q_getR (Sh.ref hI0.1 kx_231 rfl) ?_
  refine r_aload_n rfl ?_
  refine q_getI (Sh.int hI0.1 kx_231 rfl) v1 hv1 ?_
  refine r_iload_n rfl ?_
  refine q_iast (Sh.arr hI0.1 ka_238) (v1.toInt) rfl (by omega) ?_
  have hI16 := HI.wA0 hI0 ka_238 (p := 238) rfl rfl (v1.toInt) (a1)
  have hF17 := Fr.wA (p := 238) (j := v1.toInt) (v := a1) hF0 rfl
  refine r_aload_n rfl ?_
  refine q_getR (Sh.ref hI16.1 kx_231 rfl) ?_
  refine r_aload_n rfl ?_
  refine q_getI (Sh.int hI16.1 kx_231 rfl) v1 ((gI_sW).trans hv1) ?_
  refine r_iload_n rfl ?_
  refine q_iast (Sh.arr hI16.1 ka_239) (v1.toInt) rfl (by omega) ?_
  have hI18 := HI.wA0 hI16 ka_239 (p := 239) rfl rfl (v1.toInt) (a2)
  have hF19 := Fr.wA (p := 239) (j := v1.toInt) (v := a2) hF17 rfl
  refine r_aload_n rfl ?_
  refine r_dup rfl ?_
  refine q_getI (Sh.int hI18.1 kx_231 rfl) v1 (((gI_sW).trans (gI_sW)).trans hv1) ?_
  refine r_iconst 1 rfl ?_
  refine q_iadd (v1.toInt + 1) rfl (by omega) (fun v20 hv20 => ?_)
  refine q_putI (Sh.int hI18.1 kx_231 rfl) rfl ?_
  have hI21 := HI.wI1 hI18 kx_231 rfl (p := 231) (b := 17) (v := v20) rfl (by dsimp only; omega)
  have hF22 := Fr.wI (p := 231) (b := 17) (v := v20) hF19 rfl
  refine r_vret ?_
  have x23 := HI.eqI hI21 (p := 231) (b := 17) ((gI_sI_eq hI18.1 kx_231 rfl _))
  have x24 := HI.eqI hI0 (p := 231) (b := 17) (hv1)
  exact ⟨_, rfl, hI21, hF22, rfl, ⟨by show (gI _ 231 17).toInt = (gI _ 231 17).toInt + 1; omega, (fun i i0 hne => by have hne : i ≠ (gI g0 231 17).toInt := hne; exact ((eA_c gA_sI).trans ((eA_c (gA_sA_ne (by decide))).trans (eA_sA_ne (i := i) hI0.1 ka_238 (by omega) (by omega) (by omega))))), (fun i i0 hne => by have hne : i ≠ (gI g0 231 17).toInt := hne; exact ((eA_c gA_sI).trans ((eA_sA_ne (i := i) hI16.1 ka_239 (by omega) (by omega) (by omega)).trans (eA_c (gA_sA_ne (by decide)))))), (by show (eA _ 238 (gI g0 231 17).toInt).toInt = _; rw [hv1]; exact congrArg Int32.toInt (((eA_c gA_sI).trans ((eA_c (gA_sA_ne (by decide))).trans (eA_sA_eq hI0.1 ka_238 (by first | rfl | omega) (by first | decide | omega) (by first | decide | omega))))))⟩⟩

def F_X11_push_231 : List (Nat × Nat) := [(231, 23)]
def A_X11_push_231 : List Nat := [240, 241]
set_option maxRecDepth 100000 in
set_option maxHeartbeats 4000000 in
theorem T_X11_push_231 (d : Nat) {N : Nat} {g0 : List en_E} (hI0 : HI g0) (a1 : Int32) (h_a1 : 0 ≤ a1.toInt ∧ a1.toInt ≤ 31) (a2 : Int32) (h_a2 : 0 ≤ a2.toInt ∧ a2.toInt ≤ 399) (h1 : (gI g0 231 23).toInt ≤ 399) : Ev (d + 1) 196 [.ref 231, .int a1, .int a2] (g0, N) (fun w h' => ∃ g', h' = (g', N) ∧ HI g' ∧ Fr F_X11_push_231 A_X11_push_231 g0 g' ∧ w = none ∧ PUSH g0 g' a1.toInt a2.toInt) := by
  have hF0 : Fr F_X11_push_231 A_X11_push_231 g0 g0 := Fr.rf
  obtain ⟨v1, hv1⟩ : ∃ v, gI g0 231 23 = v := ⟨_, rfl⟩
  have rv1 := RgF.at hI0.2.1 (p := 231) (b := 23) rfl
  rw [hv1] at rv1
  dsimp only at rv1
  have tv1 := congrArg Int32.toInt hv1
  refine Ev.mk rfl rfl ⟨Nat.le_of_ble_eq_true rfl, Or.inr (q_rc hI0.1 kx_231 rfl)⟩ ?_
  show At _ none _ _ (0, [(0, .ref 231), (1, .int a1), (2, .int a2)], [], (_, _)) _
  refine At.enter rfl ?_
  refine r_aload_n rfl ?_
  refine q_getR (Sh.ref hI0.1 kx_231 rfl) ?_
  refine r_aload_n rfl ?_
  refine q_getI (Sh.int hI0.1 kx_231 rfl) v1 hv1 ?_
  refine r_iload_n rfl ?_
  refine q_iast (Sh.arr hI0.1 ka_240) (v1.toInt) rfl (by omega) ?_
  have hI16 := HI.wA1 hI0 ka_240 (p := 240) rfl rfl (v1.toInt) (v := a1) (by dsimp only; omega)
  have hF17 := Fr.wA (p := 240) (j := v1.toInt) (v := a1) hF0 rfl
  refine r_aload_n rfl ?_
  refine q_getR (Sh.ref hI16.1 kx_231 rfl) ?_
  refine r_aload_n rfl ?_
  refine q_getI (Sh.int hI16.1 kx_231 rfl) v1 ((gI_sW).trans hv1) ?_
  refine r_iload_n rfl ?_
  refine q_iast (Sh.arr hI16.1 ka_241) (v1.toInt) rfl (by omega) ?_
  have hI18 := HI.wA1 hI16 ka_241 (p := 241) rfl rfl (v1.toInt) (v := a2) (by dsimp only; omega)
  have hF19 := Fr.wA (p := 241) (j := v1.toInt) (v := a2) hF17 rfl
  refine r_aload_n rfl ?_
  refine r_dup rfl ?_
  refine q_getI (Sh.int hI18.1 kx_231 rfl) v1 (((gI_sW).trans (gI_sW)).trans hv1) ?_
  refine r_iconst 1 rfl ?_
  refine q_iadd (v1.toInt + 1) rfl (by omega) (fun v20 hv20 => ?_)
  refine q_putI (Sh.int hI18.1 kx_231 rfl) rfl ?_
  have hI21 := HI.wI1 hI18 kx_231 rfl (p := 231) (b := 23) (v := v20) rfl (by dsimp only; omega)
  have hF22 := Fr.wI (p := 231) (b := 23) (v := v20) hF19 rfl
  refine r_vret ?_
  have x23 := HI.eqI hI21 (p := 231) (b := 23) ((gI_sI_eq hI18.1 kx_231 rfl _))
  have x24 := HI.eqI hI0 (p := 231) (b := 23) (hv1)
  exact ⟨_, rfl, hI21, hF22, rfl, ⟨by show (gI _ 231 23).toInt = (gI _ 231 23).toInt + 1; omega, (fun i i0 hne => by have hne : i ≠ (gI g0 231 23).toInt := hne; exact ((eA_c gA_sI).trans ((eA_c (gA_sA_ne (by decide))).trans (eA_sA_ne (i := i) hI0.1 ka_240 (by omega) (by omega) (by omega))))), (fun i i0 hne => by have hne : i ≠ (gI g0 231 23).toInt := hne; exact ((eA_c gA_sI).trans ((eA_sA_ne (i := i) hI16.1 ka_241 (by omega) (by omega) (by omega)).trans (eA_c (gA_sA_ne (by decide)))))), (by show (eA _ 240 (gI g0 231 23).toInt).toInt = _; rw [hv1]; exact congrArg Int32.toInt (((eA_c gA_sI).trans ((eA_c (gA_sA_ne (by decide))).trans (eA_sA_eq hI0.1 ka_240 (by first | rfl | omega) (by first | decide | omega) (by first | decide | omega)))))), (by show (eA _ 241 (gI g0 231 23).toInt).toInt = _; rw [hv1]; exact congrArg Int32.toInt (((eA_c gA_sI).trans (eA_sA_eq hI16.1 ka_241 (by first | rfl | omega) (by first | decide | omega) (by first | decide | omega)))))⟩⟩

def F_X11_settle_231 : List (Nat × Nat) := [(231, 17), (231, 23)]
def A_X11_settle_231 : List Nat := [238, 239]
set_option maxRecDepth 100000 in
set_option maxHeartbeats 4000000 in
theorem T_X11_settle_231 (d : Nat) {N : Nat} {g0 : List en_E} (hI0 : HI g0) (a1 : Int32) (h_a1 : 1 ≤ a1.toInt ∧ a1.toInt ≤ 6) (h1 : (gI g0 231 17).toInt + (gI g0 231 23).toInt ≤ 400) : Ev (d + 2) 198 [.ref 231, .int a1] (g0, N) (fun w h' => ∃ g', h' = (g', N) ∧ HI g' ∧ Fr F_X11_settle_231 A_X11_settle_231 g0 g' ∧ w = none ∧ SETP g0 g' a1.toInt) := by
  have hF0 : Fr F_X11_settle_231 A_X11_settle_231 g0 g0 := Fr.rf
  obtain ⟨v1, hv1⟩ : ∃ v, gI g0 231 17 = v := ⟨_, rfl⟩
  have rv1 := RgF.at hI0.2.1 (p := 231) (b := 17) rfl
  rw [hv1] at rv1
  dsimp only at rv1
  have tv1 := congrArg Int32.toInt hv1
  obtain ⟨v2, hv2⟩ : ∃ v, gI g0 231 23 = v := ⟨_, rfl⟩
  have rv2 := RgF.at hI0.2.1 (p := 231) (b := 23) rfl
  rw [hv2] at rv2
  dsimp only at rv2
  have tv2 := congrArg Int32.toInt hv2
  refine Ev.mk rfl rfl ⟨Nat.le_of_ble_eq_true rfl, Or.inr (q_rc hI0.1 kx_231 rfl)⟩ ?_
  show At _ none _ _ (0, [(0, .ref 231), (1, .int a1)], [], (_, _)) _
  refine w_loopI (fun n_ l_ g_ => ∃ x919 : Int32, ∃ x920 : Int32, n_ = x920.toInt ∧ HI g_ ∧ Fr F_X11_settle_231 A_X11_settle_231 g0 g_ ∧ gI g_ 231 17 = x919 ∧ gI g_ 231 23 = x920 ∧ en_get 0 l_ = some (.ref 231) ∧ en_get 1 l_ = some (.int a1) ∧ (0 ≤ x919.toInt ∧ x919.toInt ≤ 400) ∧ (0 ≤ x920.toInt ∧ x920.toInt ≤ 400) ∧ (x919.toInt + x920.toInt ≤ (gI g0 231 17).toInt + (gI g0 231 23).toInt) ∧ (∀ (b : Int) (o0 a0 : Int → Int), PG g0 b 1 o0 a0 → PG g_ b 1 o0 a0) ∧ (∀ j : Int, x920.toInt ≤ j → j < (gI g0 231 23).toInt → (eA g0 240 j).toInt < 30) ∧ (x920.toInt ≤ (gI g0 231 23).toInt)) ?_ (v2.toInt) ⟨v1, v2, by first | rfl | omega, hI0, hF0, hv1, hv2, rfl, rfl, by omega, by omega, by omega, (fun _ _ _ h => h), (fun j h0 h1 => absurd h1 (by omega)), by omega⟩
  rintro n925 l924 g921 ⟨x919, x920, hm937, hI922, hF923, e927, e928, e929, e930, r931, r932, q933, q934, q935, q936⟩ ih926
  have tv938 := congrArg Int32.toInt e927
  have tv939 := congrArg Int32.toInt e928
  refine At.enter rfl ?_
  refine r_aload_n e929 ?_
  refine q_getI (Sh.int hI922.1 kx_231 rfl) x920 e928 ?_
  refine r_ifs 7 rfl (fun c940 => ?_) (fun c940 => ?_)
  · have c940_ : x920.toInt ≤ 0 := en_k_le_t c940
    refine At.enter rfl ?_
    refine r_vret ?_
    have x941 := HI.eqI hI922 (p := 231) (b := 17) (e927)
    have x942 := HI.eqI hI922 (p := 231) (b := 23) (e928)
    exact ⟨_, rfl, hI922, hF923, rfl, ⟨by show (gI _ 231 23).toInt ≤ (gI _ 231 23).toInt; omega, by show (gI _ 231 17).toInt + (gI _ 231 23).toInt ≤ (gI _ 231 17).toInt + (gI _ 231 23).toInt; omega, q934, (fun j h0 h1 => q935 j (by have h0 : (gI g921 231 23).toInt ≤ j := h0; omega) h1), hF923.2.1 240 (by decide), (Or.inl (by show (gI g921 231 23).toInt = 0; omega))⟩⟩
  · have c940_ : x920.toInt > 0 := en_k_le_f c940
    refine At.enter rfl ?_
    refine r_aload_n e929 ?_
    refine q_getR (Sh.ref hI922.1 kx_231 rfl) ?_
    refine r_aload_n e929 ?_
    refine q_getI (Sh.int hI922.1 kx_231 rfl) x920 e928 ?_
    refine r_iconst 1 rfl ?_
    refine q_isub (x920.toInt - 1) rfl (by omega) (fun v943 hv943 => ?_)
    obtain ⟨v944, hv944⟩ : ∃ v, eA g0 240 (x920.toInt + (-1)) = v := ⟨_, rfl⟩
    have rv944 := RgA.at hI0.2.2.1 (Sh.arr hI0.1 ka_240).2 (p := 240) rfl (j := (x920.toInt + (-1))) (by omega)
    rw [hv944] at rv944
    dsimp only at rv944
    refine q_iald (Sh.arr hI922.1 ka_240) (x920.toInt + (-1)) (by omega) (by omega) v944 ((eA_c (hF923.2.1 240 (by decide))).trans hv944) ?_
    refine q_inlS 21 rfl [.int v944] [] (Nat.le_of_ble_eq_true rfl) rfl ?_
    refine Ev.mk rfl rfl ⟨Nat.le_of_ble_eq_true rfl, Or.inl rfl⟩ ?_
    show At _ none _ _ (0, [(0, .int v944)], [], (_, _)) _
    refine At.enter rfl ?_
    refine r_iload_n rfl ?_
    refine r_bipush 30 rfl ?_
    refine r_ics 6 rfl (fun c945 => ?_) (fun c945 => ?_)
    · have c945_ : v944.toInt < 30 := en_i_lt_t c945
      refine At.enter rfl ?_
      refine r_iload_n rfl ?_
      refine r_bipush 29 rfl ?_
      refine r_ics 16 rfl (fun c946 => ?_) (fun c946 => ?_)
      · have c946_ : v944.toInt ≠ 29 := en_i_ne_t c946
        refine At.enter rfl ?_
        refine r_iload_n rfl ?_
        refine r_bipush 28 rfl ?_
        refine r_ics 26 rfl (fun c947 => ?_) (fun c947 => ?_)
        · have c947_ : v944.toInt ≠ 28 := en_i_ne_t c947
          refine At.enter rfl ?_
          refine r_iload_n rfl ?_
          refine r_bipush 27 rfl ?_
          refine r_ics 36 rfl (fun c948 => ?_) (fun c948 => ?_)
          · have c948_ : v944.toInt ≠ 27 := en_i_ne_t c948
            refine At.enter rfl ?_
            refine r_iload_n rfl ?_
            refine r_bipush 24 rfl ?_
            refine r_ics 46 rfl (fun c949 => ?_) (fun c949 => ?_)
            · have c949_ : v944.toInt < 24 := en_i_lt_t c949
              refine At.enter rfl ?_
              refine r_iload_n rfl ?_
              refine r_bipush 22 rfl ?_
              refine r_ics 56 rfl (fun c950 => ?_) (fun c950 => ?_)
              · have c950_ : v944.toInt < 22 := en_i_lt_t c950
                refine At.enter rfl ?_
                refine r_iconst 5 rfl ?_
                refine Ar.fall 62 rfl ?_
                refine At.enter rfl ?_
                refine q_ireti ?_
                refine At.enter rfl ?_
                refine r_iload_n e930 ?_
                refine r_ics 25 rfl (fun c951 => ?_) (fun c951 => ?_)
                · have c951_ : 5 < a1.toInt := en_i_lt_t c951
                  refine At.enter rfl ?_
                  refine r_vret ?_
                  have x952 := HI.eqI hI922 (p := 231) (b := 17) (e927)
                  have x953 := HI.eqI hI922 (p := 231) (b := 23) (e928)
                  exact ⟨_, rfl, hI922, hF923, rfl, ⟨by show (gI _ 231 23).toInt ≤ (gI _ 231 23).toInt; omega, by show (gI _ 231 17).toInt + (gI _ 231 23).toInt ≤ (gI _ 231 17).toInt + (gI _ 231 23).toInt; omega, q934, (fun j h0 h1 => q935 j (by have h0 : (gI g921 231 23).toInt ≤ j := h0; omega) h1), hF923.2.1 240 (by decide), (by show (gI g921 231 23).toInt = 0 ∨ ((a1.toInt = 1 → 30 ≤ (eA g0 240 ((gI g921 231 23).toInt - 1)).toInt) ∧ (a1.toInt = 5 → 24 ≤ (eA g0 240 ((gI g921 231 23).toInt - 1)).toInt)); rw [show (gI g921 231 23).toInt - 1 = (x920.toInt + (-1)) by omega, hv944]; omega)⟩⟩
                · have c951_ : 5 ≥ a1.toInt := en_i_lt_f c951
                  refine At.enter rfl ?_
                  refine r_aload_n e929 ?_
                  refine r_dup rfl ?_
                  refine q_getI (Sh.int hI922.1 kx_231 rfl) x920 e928 ?_
                  refine r_iconst 1 rfl ?_
                  refine q_isub (x920.toInt - 1) rfl (by omega) (fun v954 hv954 => ?_)
                  refine q_putI (Sh.int hI922.1 kx_231 rfl) rfl ?_
                  have hI955 := HI.wI1 hI922 kx_231 rfl (p := 231) (b := 23) (v := v954) rfl (by dsimp only; omega)
                  have hF956 := Fr.wI (p := 231) (b := 23) (v := v954) hF923 rfl
                  refine r_aload_n e929 ?_
                  refine q_getR (Sh.ref hI955.1 kx_231 rfl) ?_
                  refine r_aload_n e929 ?_
                  refine q_getI (Sh.int hI955.1 kx_231 rfl) v954 (gI_sI_eq hI922.1 kx_231 rfl _) ?_
                  refine q_iald (Sh.arr hI955.1 ka_240) (x920.toInt + (-1)) (by omega) (by omega) v944 ((eA_c ((gA_sI).trans (hF923.2.1 240 (by decide)))).trans hv944) ?_
                  refine r_bipush 28 rfl ?_
                  refine r_ics 49 rfl (fun c957 => ?_) (fun c957 => ?_)
                  · have c957_ : v944.toInt = 28 := en_i_eq_t c957
                    exfalso; omega
                  · have c957_ : v944.toInt ≠ 28 := en_i_eq_f c957
                    refine At.enter rfl ?_
                    refine r_aload_n e929 ?_
                    refine q_getR (Sh.ref hI955.1 kx_231 rfl) ?_
                    refine r_aload_n e929 ?_
                    refine q_getI (Sh.int hI955.1 kx_231 rfl) v954 (gI_sI_eq hI922.1 kx_231 rfl _) ?_
                    refine q_iald (Sh.arr hI955.1 ka_240) (x920.toInt + (-1)) (by omega) (by omega) v944 ((eA_c ((gA_sI).trans (hF923.2.1 240 (by decide)))).trans hv944) ?_
                    refine r_bipush 29 rfl ?_
                    refine r_ics 63 rfl (fun c958 => ?_) (fun c958 => ?_)
                    · have c958_ : v944.toInt ≠ 29 := en_i_ne_t c958
                      refine At.enter rfl ?_
                      refine r_aload_n e929 ?_
                      refine r_aload_n e929 ?_
                      refine q_getR (Sh.ref hI955.1 kx_231 rfl) ?_
                      refine r_aload_n e929 ?_
                      refine q_getI (Sh.int hI955.1 kx_231 rfl) v954 (gI_sI_eq hI922.1 kx_231 rfl _) ?_
                      refine q_iald (Sh.arr hI955.1 ka_240) (x920.toInt + (-1)) (by omega) (by omega) v944 ((eA_c ((gA_sI).trans (hF923.2.1 240 (by decide)))).trans hv944) ?_
                      refine r_iconst 0 rfl ?_
                      have x959 := HI.eqI hI955 (p := 231) (b := 17) (((gI_sI_ne (by decide)).trans e927))
                      have zv960 : (0 : Int32).toInt = 0 := rfl
                      refine r_callV 98 rfl [.ref 231, .int v944, .int 0] [] (Nat.le_of_ble_eq_true rfl) rfl (T_X11_emit_231 _ hI955 v944 0 (by omega)) ?_
                      rintro _ _ ⟨g961, rfl, hI962, hF963, rfl, hr965⟩
                      refine At.stn ?_
                      have hF966 := Fr.tr hF956 hF963 rfl rfl
                      have zv967 : (0 : Int32).toInt = 0 := rfl
                      have x968 := HI.eqI hI955 (p := 231) (b := 17) (((gI_sI_ne (by decide)).trans e927))
                      have x969 := HI.eqI hI955 (p := 231) (b := 23) ((gI_sI_eq hI922.1 kx_231 rfl _))
                      obtain ⟨v970, hv970⟩ : ∃ v, gI g961 231 17 = v := ⟨_, rfl⟩
                      have rv970 := RgF.at hI962.2.1 (p := 231) (b := 17) rfl
                      rw [hv970] at rv970
                      dsimp only at rv970
                      have tv970 := congrArg Int32.toInt hv970
                      have x971 := HI.eqI hI962 (p := 231) (b := 17) (hv970)
                      have y972 : (gI _ 231 17).toInt = (gI _ 231 17).toInt + 1 := hr965.1
                      refine At.enter rfl ?_
                      refine r_goto ?_
                      exact ih926 (v954.toInt) _ _ ⟨v970, v954, by first | rfl | omega, hI962, hF966, hv970, ((hF963.1 231 23 (by decide)).trans (gI_sI_eq hI922.1 kx_231 rfl _)), e929, e930, by omega, by omega, by omega, (fun b o0 a0 h => PG.settleO (q934 b o0 a0 h) ((gA_sI)) ((gA_sI)) ((gA_sI)) ((gA_sI)) ((gI_sI_ne (by decide))) (by show (gI _ 231 23).toInt = (gI _ 231 23).toInt - 1; omega) (by show 1 ≤ (gI _ 231 23).toInt; omega) hr965 (hF963.2.1 240 (by decide)) (hF963.2.1 241 (by decide)) (hF963.1 231 23 (by decide)) (by show (eA g921 240 ((gI g921 231 23).toInt - 1)).toInt = _; rw [show (gI g921 231 23).toInt - 1 = (x920.toInt + (-1)) by omega, eA_c (j := (x920.toInt + (-1))) (hF923.2.1 240 (by decide)), hv944]) (by omega)), (fun j h0 h1 => (Decidable.em (j = x920.toInt - 1)).elim (fun e => by rw [e, show x920.toInt - 1 = (x920.toInt + (-1)) by omega, hv944]; omega) (fun e => q935 j (by omega) h1)), by omega⟩ ⟨by omega, by omega⟩
                    · have c958_ : v944.toInt = 29 := en_i_ne_f c958
                      exfalso; omega
              · have c950_ : v944.toInt ≥ 22 := en_i_lt_f c950
                refine At.enter rfl ?_
                refine r_bipush 6 rfl ?_
                refine r_goto ?_
                refine At.enter rfl ?_
                refine q_ireti ?_
                refine At.enter rfl ?_
                refine r_iload_n e930 ?_
                refine r_ics 25 rfl (fun c973 => ?_) (fun c973 => ?_)
                · have c973_ : 6 < a1.toInt := en_i_lt_t c973
                  exfalso; omega
                · have c973_ : 6 ≥ a1.toInt := en_i_lt_f c973
                  refine At.enter rfl ?_
                  refine r_aload_n e929 ?_
                  refine r_dup rfl ?_
                  refine q_getI (Sh.int hI922.1 kx_231 rfl) x920 e928 ?_
                  refine r_iconst 1 rfl ?_
                  refine q_isub (x920.toInt - 1) rfl (by omega) (fun v974 hv974 => ?_)
                  refine q_putI (Sh.int hI922.1 kx_231 rfl) rfl ?_
                  have hI975 := HI.wI1 hI922 kx_231 rfl (p := 231) (b := 23) (v := v974) rfl (by dsimp only; omega)
                  have hF976 := Fr.wI (p := 231) (b := 23) (v := v974) hF923 rfl
                  refine r_aload_n e929 ?_
                  refine q_getR (Sh.ref hI975.1 kx_231 rfl) ?_
                  refine r_aload_n e929 ?_
                  refine q_getI (Sh.int hI975.1 kx_231 rfl) v974 (gI_sI_eq hI922.1 kx_231 rfl _) ?_
                  refine q_iald (Sh.arr hI975.1 ka_240) (x920.toInt + (-1)) (by omega) (by omega) v944 ((eA_c ((gA_sI).trans (hF923.2.1 240 (by decide)))).trans hv944) ?_
                  refine r_bipush 28 rfl ?_
                  refine r_ics 49 rfl (fun c977 => ?_) (fun c977 => ?_)
                  · have c977_ : v944.toInt = 28 := en_i_eq_t c977
                    exfalso; omega
                  · have c977_ : v944.toInt ≠ 28 := en_i_eq_f c977
                    refine At.enter rfl ?_
                    refine r_aload_n e929 ?_
                    refine q_getR (Sh.ref hI975.1 kx_231 rfl) ?_
                    refine r_aload_n e929 ?_
                    refine q_getI (Sh.int hI975.1 kx_231 rfl) v974 (gI_sI_eq hI922.1 kx_231 rfl _) ?_
                    refine q_iald (Sh.arr hI975.1 ka_240) (x920.toInt + (-1)) (by omega) (by omega) v944 ((eA_c ((gA_sI).trans (hF923.2.1 240 (by decide)))).trans hv944) ?_
                    refine r_bipush 29 rfl ?_
                    refine r_ics 63 rfl (fun c978 => ?_) (fun c978 => ?_)
                    · have c978_ : v944.toInt ≠ 29 := en_i_ne_t c978
                      refine At.enter rfl ?_
                      refine r_aload_n e929 ?_
                      refine r_aload_n e929 ?_
                      refine q_getR (Sh.ref hI975.1 kx_231 rfl) ?_
                      refine r_aload_n e929 ?_
                      refine q_getI (Sh.int hI975.1 kx_231 rfl) v974 (gI_sI_eq hI922.1 kx_231 rfl _) ?_
                      refine q_iald (Sh.arr hI975.1 ka_240) (x920.toInt + (-1)) (by omega) (by omega) v944 ((eA_c ((gA_sI).trans (hF923.2.1 240 (by decide)))).trans hv944) ?_
                      refine r_iconst 0 rfl ?_
                      have x979 := HI.eqI hI975 (p := 231) (b := 17) (((gI_sI_ne (by decide)).trans e927))
                      have zv980 : (0 : Int32).toInt = 0 := rfl
                      refine r_callV 98 rfl [.ref 231, .int v944, .int 0] [] (Nat.le_of_ble_eq_true rfl) rfl (T_X11_emit_231 _ hI975 v944 0 (by omega)) ?_
                      rintro _ _ ⟨g981, rfl, hI982, hF983, rfl, hr985⟩
                      refine At.stn ?_
                      have hF986 := Fr.tr hF976 hF983 rfl rfl
                      have zv987 : (0 : Int32).toInt = 0 := rfl
                      have x988 := HI.eqI hI975 (p := 231) (b := 17) (((gI_sI_ne (by decide)).trans e927))
                      have x989 := HI.eqI hI975 (p := 231) (b := 23) ((gI_sI_eq hI922.1 kx_231 rfl _))
                      obtain ⟨v990, hv990⟩ : ∃ v, gI g981 231 17 = v := ⟨_, rfl⟩
                      have rv990 := RgF.at hI982.2.1 (p := 231) (b := 17) rfl
                      rw [hv990] at rv990
                      dsimp only at rv990
                      have tv990 := congrArg Int32.toInt hv990
                      have x991 := HI.eqI hI982 (p := 231) (b := 17) (hv990)
                      have y992 : (gI _ 231 17).toInt = (gI _ 231 17).toInt + 1 := hr985.1
                      refine At.enter rfl ?_
                      refine r_goto ?_
                      exact ih926 (v974.toInt) _ _ ⟨v990, v974, by first | rfl | omega, hI982, hF986, hv990, ((hF983.1 231 23 (by decide)).trans (gI_sI_eq hI922.1 kx_231 rfl _)), e929, e930, by omega, by omega, by omega, (fun b o0 a0 h => PG.settleO (q934 b o0 a0 h) ((gA_sI)) ((gA_sI)) ((gA_sI)) ((gA_sI)) ((gI_sI_ne (by decide))) (by show (gI _ 231 23).toInt = (gI _ 231 23).toInt - 1; omega) (by show 1 ≤ (gI _ 231 23).toInt; omega) hr985 (hF983.2.1 240 (by decide)) (hF983.2.1 241 (by decide)) (hF983.1 231 23 (by decide)) (by show (eA g921 240 ((gI g921 231 23).toInt - 1)).toInt = _; rw [show (gI g921 231 23).toInt - 1 = (x920.toInt + (-1)) by omega, eA_c (j := (x920.toInt + (-1))) (hF923.2.1 240 (by decide)), hv944]) (by omega)), (fun j h0 h1 => (Decidable.em (j = x920.toInt - 1)).elim (fun e => by rw [e, show x920.toInt - 1 = (x920.toInt + (-1)) by omega, hv944]; omega) (fun e => q935 j (by omega) h1)), by omega⟩ ⟨by omega, by omega⟩
                    · have c978_ : v944.toInt = 29 := en_i_ne_f c978
                      exfalso; omega
            · have c949_ : v944.toInt ≥ 24 := en_i_lt_f c949
              refine At.enter rfl ?_
              refine r_iconst 4 rfl ?_
              refine r_goto ?_
              refine At.enter rfl ?_
              refine q_ireti ?_
              refine At.enter rfl ?_
              refine r_iload_n e930 ?_
              refine r_ics 25 rfl (fun c993 => ?_) (fun c993 => ?_)
              · have c993_ : 4 < a1.toInt := en_i_lt_t c993
                refine At.enter rfl ?_
                refine r_vret ?_
                have x994 := HI.eqI hI922 (p := 231) (b := 17) (e927)
                have x995 := HI.eqI hI922 (p := 231) (b := 23) (e928)
                exact ⟨_, rfl, hI922, hF923, rfl, ⟨by show (gI _ 231 23).toInt ≤ (gI _ 231 23).toInt; omega, by show (gI _ 231 17).toInt + (gI _ 231 23).toInt ≤ (gI _ 231 17).toInt + (gI _ 231 23).toInt; omega, q934, (fun j h0 h1 => q935 j (by have h0 : (gI g921 231 23).toInt ≤ j := h0; omega) h1), hF923.2.1 240 (by decide), (by show (gI g921 231 23).toInt = 0 ∨ ((a1.toInt = 1 → 30 ≤ (eA g0 240 ((gI g921 231 23).toInt - 1)).toInt) ∧ (a1.toInt = 5 → 24 ≤ (eA g0 240 ((gI g921 231 23).toInt - 1)).toInt)); rw [show (gI g921 231 23).toInt - 1 = (x920.toInt + (-1)) by omega, hv944]; omega)⟩⟩
              · have c993_ : 4 ≥ a1.toInt := en_i_lt_f c993
                refine At.enter rfl ?_
                refine r_aload_n e929 ?_
                refine r_dup rfl ?_
                refine q_getI (Sh.int hI922.1 kx_231 rfl) x920 e928 ?_
                refine r_iconst 1 rfl ?_
                refine q_isub (x920.toInt - 1) rfl (by omega) (fun v996 hv996 => ?_)
                refine q_putI (Sh.int hI922.1 kx_231 rfl) rfl ?_
                have hI997 := HI.wI1 hI922 kx_231 rfl (p := 231) (b := 23) (v := v996) rfl (by dsimp only; omega)
                have hF998 := Fr.wI (p := 231) (b := 23) (v := v996) hF923 rfl
                refine r_aload_n e929 ?_
                refine q_getR (Sh.ref hI997.1 kx_231 rfl) ?_
                refine r_aload_n e929 ?_
                refine q_getI (Sh.int hI997.1 kx_231 rfl) v996 (gI_sI_eq hI922.1 kx_231 rfl _) ?_
                refine q_iald (Sh.arr hI997.1 ka_240) (x920.toInt + (-1)) (by omega) (by omega) v944 ((eA_c ((gA_sI).trans (hF923.2.1 240 (by decide)))).trans hv944) ?_
                refine r_bipush 28 rfl ?_
                refine r_ics 49 rfl (fun c999 => ?_) (fun c999 => ?_)
                · have c999_ : v944.toInt = 28 := en_i_eq_t c999
                  exfalso; omega
                · have c999_ : v944.toInt ≠ 28 := en_i_eq_f c999
                  refine At.enter rfl ?_
                  refine r_aload_n e929 ?_
                  refine q_getR (Sh.ref hI997.1 kx_231 rfl) ?_
                  refine r_aload_n e929 ?_
                  refine q_getI (Sh.int hI997.1 kx_231 rfl) v996 (gI_sI_eq hI922.1 kx_231 rfl _) ?_
                  refine q_iald (Sh.arr hI997.1 ka_240) (x920.toInt + (-1)) (by omega) (by omega) v944 ((eA_c ((gA_sI).trans (hF923.2.1 240 (by decide)))).trans hv944) ?_
                  refine r_bipush 29 rfl ?_
                  refine r_ics 63 rfl (fun c1000 => ?_) (fun c1000 => ?_)
                  · have c1000_ : v944.toInt ≠ 29 := en_i_ne_t c1000
                    refine At.enter rfl ?_
                    refine r_aload_n e929 ?_
                    refine r_aload_n e929 ?_
                    refine q_getR (Sh.ref hI997.1 kx_231 rfl) ?_
                    refine r_aload_n e929 ?_
                    refine q_getI (Sh.int hI997.1 kx_231 rfl) v996 (gI_sI_eq hI922.1 kx_231 rfl _) ?_
                    refine q_iald (Sh.arr hI997.1 ka_240) (x920.toInt + (-1)) (by omega) (by omega) v944 ((eA_c ((gA_sI).trans (hF923.2.1 240 (by decide)))).trans hv944) ?_
                    refine r_iconst 0 rfl ?_
                    have x1001 := HI.eqI hI997 (p := 231) (b := 17) (((gI_sI_ne (by decide)).trans e927))
                    have zv1002 : (0 : Int32).toInt = 0 := rfl
                    refine r_callV 98 rfl [.ref 231, .int v944, .int 0] [] (Nat.le_of_ble_eq_true rfl) rfl (T_X11_emit_231 _ hI997 v944 0 (by omega)) ?_
                    rintro _ _ ⟨g1003, rfl, hI1004, hF1005, rfl, hr1007⟩
                    refine At.stn ?_
                    have hF1008 := Fr.tr hF998 hF1005 rfl rfl
                    have zv1009 : (0 : Int32).toInt = 0 := rfl
                    have x1010 := HI.eqI hI997 (p := 231) (b := 17) (((gI_sI_ne (by decide)).trans e927))
                    have x1011 := HI.eqI hI997 (p := 231) (b := 23) ((gI_sI_eq hI922.1 kx_231 rfl _))
                    obtain ⟨v1012, hv1012⟩ : ∃ v, gI g1003 231 17 = v := ⟨_, rfl⟩
                    have rv1012 := RgF.at hI1004.2.1 (p := 231) (b := 17) rfl
                    rw [hv1012] at rv1012
                    dsimp only at rv1012
                    have tv1012 := congrArg Int32.toInt hv1012
                    have x1013 := HI.eqI hI1004 (p := 231) (b := 17) (hv1012)
                    have y1014 : (gI _ 231 17).toInt = (gI _ 231 17).toInt + 1 := hr1007.1
                    refine At.enter rfl ?_
                    refine r_goto ?_
                    exact ih926 (v996.toInt) _ _ ⟨v1012, v996, by first | rfl | omega, hI1004, hF1008, hv1012, ((hF1005.1 231 23 (by decide)).trans (gI_sI_eq hI922.1 kx_231 rfl _)), e929, e930, by omega, by omega, by omega, (fun b o0 a0 h => PG.settleO (q934 b o0 a0 h) ((gA_sI)) ((gA_sI)) ((gA_sI)) ((gA_sI)) ((gI_sI_ne (by decide))) (by show (gI _ 231 23).toInt = (gI _ 231 23).toInt - 1; omega) (by show 1 ≤ (gI _ 231 23).toInt; omega) hr1007 (hF1005.2.1 240 (by decide)) (hF1005.2.1 241 (by decide)) (hF1005.1 231 23 (by decide)) (by show (eA g921 240 ((gI g921 231 23).toInt - 1)).toInt = _; rw [show (gI g921 231 23).toInt - 1 = (x920.toInt + (-1)) by omega, eA_c (j := (x920.toInt + (-1))) (hF923.2.1 240 (by decide)), hv944]) (by omega)), (fun j h0 h1 => (Decidable.em (j = x920.toInt - 1)).elim (fun e => by rw [e, show x920.toInt - 1 = (x920.toInt + (-1)) by omega, hv944]; omega) (fun e => q935 j (by omega) h1)), by omega⟩ ⟨by omega, by omega⟩
                  · have c1000_ : v944.toInt = 29 := en_i_ne_f c1000
                    exfalso; omega
          · have c948_ : v944.toInt = 27 := en_i_ne_f c948
            refine At.enter rfl ?_
            refine r_iconst 3 rfl ?_
            refine r_goto ?_
            refine At.enter rfl ?_
            refine q_ireti ?_
            refine At.enter rfl ?_
            refine r_iload_n e930 ?_
            refine r_ics 25 rfl (fun c1015 => ?_) (fun c1015 => ?_)
            · have c1015_ : 3 < a1.toInt := en_i_lt_t c1015
              refine At.enter rfl ?_
              refine r_vret ?_
              have x1016 := HI.eqI hI922 (p := 231) (b := 17) (e927)
              have x1017 := HI.eqI hI922 (p := 231) (b := 23) (e928)
              exact ⟨_, rfl, hI922, hF923, rfl, ⟨by show (gI _ 231 23).toInt ≤ (gI _ 231 23).toInt; omega, by show (gI _ 231 17).toInt + (gI _ 231 23).toInt ≤ (gI _ 231 17).toInt + (gI _ 231 23).toInt; omega, q934, (fun j h0 h1 => q935 j (by have h0 : (gI g921 231 23).toInt ≤ j := h0; omega) h1), hF923.2.1 240 (by decide), (by show (gI g921 231 23).toInt = 0 ∨ ((a1.toInt = 1 → 30 ≤ (eA g0 240 ((gI g921 231 23).toInt - 1)).toInt) ∧ (a1.toInt = 5 → 24 ≤ (eA g0 240 ((gI g921 231 23).toInt - 1)).toInt)); rw [show (gI g921 231 23).toInt - 1 = (x920.toInt + (-1)) by omega, hv944]; omega)⟩⟩
            · have c1015_ : 3 ≥ a1.toInt := en_i_lt_f c1015
              refine At.enter rfl ?_
              refine r_aload_n e929 ?_
              refine r_dup rfl ?_
              refine q_getI (Sh.int hI922.1 kx_231 rfl) x920 e928 ?_
              refine r_iconst 1 rfl ?_
              refine q_isub (x920.toInt - 1) rfl (by omega) (fun v1018 hv1018 => ?_)
              refine q_putI (Sh.int hI922.1 kx_231 rfl) rfl ?_
              have hI1019 := HI.wI1 hI922 kx_231 rfl (p := 231) (b := 23) (v := v1018) rfl (by dsimp only; omega)
              have hF1020 := Fr.wI (p := 231) (b := 23) (v := v1018) hF923 rfl
              refine r_aload_n e929 ?_
              refine q_getR (Sh.ref hI1019.1 kx_231 rfl) ?_
              refine r_aload_n e929 ?_
              refine q_getI (Sh.int hI1019.1 kx_231 rfl) v1018 (gI_sI_eq hI922.1 kx_231 rfl _) ?_
              refine q_iald (Sh.arr hI1019.1 ka_240) (x920.toInt + (-1)) (by omega) (by omega) v944 ((eA_c ((gA_sI).trans (hF923.2.1 240 (by decide)))).trans hv944) ?_
              refine r_bipush 28 rfl ?_
              refine r_ics 49 rfl (fun c1021 => ?_) (fun c1021 => ?_)
              · have c1021_ : v944.toInt = 28 := en_i_eq_t c1021
                exfalso; omega
              · have c1021_ : v944.toInt ≠ 28 := en_i_eq_f c1021
                refine At.enter rfl ?_
                refine r_aload_n e929 ?_
                refine q_getR (Sh.ref hI1019.1 kx_231 rfl) ?_
                refine r_aload_n e929 ?_
                refine q_getI (Sh.int hI1019.1 kx_231 rfl) v1018 (gI_sI_eq hI922.1 kx_231 rfl _) ?_
                refine q_iald (Sh.arr hI1019.1 ka_240) (x920.toInt + (-1)) (by omega) (by omega) v944 ((eA_c ((gA_sI).trans (hF923.2.1 240 (by decide)))).trans hv944) ?_
                refine r_bipush 29 rfl ?_
                refine r_ics 63 rfl (fun c1022 => ?_) (fun c1022 => ?_)
                · have c1022_ : v944.toInt ≠ 29 := en_i_ne_t c1022
                  refine At.enter rfl ?_
                  refine r_aload_n e929 ?_
                  refine r_aload_n e929 ?_
                  refine q_getR (Sh.ref hI1019.1 kx_231 rfl) ?_
                  refine r_aload_n e929 ?_
                  refine q_getI (Sh.int hI1019.1 kx_231 rfl) v1018 (gI_sI_eq hI922.1 kx_231 rfl _) ?_
                  refine q_iald (Sh.arr hI1019.1 ka_240) (x920.toInt + (-1)) (by omega) (by omega) v944 ((eA_c ((gA_sI).trans (hF923.2.1 240 (by decide)))).trans hv944) ?_
                  refine r_iconst 0 rfl ?_
                  have x1023 := HI.eqI hI1019 (p := 231) (b := 17) (((gI_sI_ne (by decide)).trans e927))
                  have zv1024 : (0 : Int32).toInt = 0 := rfl
                  refine r_callV 98 rfl [.ref 231, .int v944, .int 0] [] (Nat.le_of_ble_eq_true rfl) rfl (T_X11_emit_231 _ hI1019 v944 0 (by omega)) ?_
                  rintro _ _ ⟨g1025, rfl, hI1026, hF1027, rfl, hr1029⟩
                  refine At.stn ?_
                  have hF1030 := Fr.tr hF1020 hF1027 rfl rfl
                  have zv1031 : (0 : Int32).toInt = 0 := rfl
                  have x1032 := HI.eqI hI1019 (p := 231) (b := 17) (((gI_sI_ne (by decide)).trans e927))
                  have x1033 := HI.eqI hI1019 (p := 231) (b := 23) ((gI_sI_eq hI922.1 kx_231 rfl _))
                  obtain ⟨v1034, hv1034⟩ : ∃ v, gI g1025 231 17 = v := ⟨_, rfl⟩
                  have rv1034 := RgF.at hI1026.2.1 (p := 231) (b := 17) rfl
                  rw [hv1034] at rv1034
                  dsimp only at rv1034
                  have tv1034 := congrArg Int32.toInt hv1034
                  have x1035 := HI.eqI hI1026 (p := 231) (b := 17) (hv1034)
                  have y1036 : (gI _ 231 17).toInt = (gI _ 231 17).toInt + 1 := hr1029.1
                  refine At.enter rfl ?_
                  refine r_goto ?_
                  exact ih926 (v1018.toInt) _ _ ⟨v1034, v1018, by first | rfl | omega, hI1026, hF1030, hv1034, ((hF1027.1 231 23 (by decide)).trans (gI_sI_eq hI922.1 kx_231 rfl _)), e929, e930, by omega, by omega, by omega, (fun b o0 a0 h => PG.settleO (q934 b o0 a0 h) ((gA_sI)) ((gA_sI)) ((gA_sI)) ((gA_sI)) ((gI_sI_ne (by decide))) (by show (gI _ 231 23).toInt = (gI _ 231 23).toInt - 1; omega) (by show 1 ≤ (gI _ 231 23).toInt; omega) hr1029 (hF1027.2.1 240 (by decide)) (hF1027.2.1 241 (by decide)) (hF1027.1 231 23 (by decide)) (by show (eA g921 240 ((gI g921 231 23).toInt - 1)).toInt = _; rw [show (gI g921 231 23).toInt - 1 = (x920.toInt + (-1)) by omega, eA_c (j := (x920.toInt + (-1))) (hF923.2.1 240 (by decide)), hv944]) (by omega)), (fun j h0 h1 => (Decidable.em (j = x920.toInt - 1)).elim (fun e => by rw [e, show x920.toInt - 1 = (x920.toInt + (-1)) by omega, hv944]; omega) (fun e => q935 j (by omega) h1)), by omega⟩ ⟨by omega, by omega⟩
                · have c1022_ : v944.toInt = 29 := en_i_ne_f c1022
                  exfalso; omega
        · have c947_ : v944.toInt = 28 := en_i_ne_f c947
          refine At.enter rfl ?_
          refine r_iconst 2 rfl ?_
          refine r_goto ?_
          refine At.enter rfl ?_
          refine q_ireti ?_
          refine At.enter rfl ?_
          refine r_iload_n e930 ?_
          refine r_ics 25 rfl (fun c1037 => ?_) (fun c1037 => ?_)
          · have c1037_ : 2 < a1.toInt := en_i_lt_t c1037
            refine At.enter rfl ?_
            refine r_vret ?_
            have x1038 := HI.eqI hI922 (p := 231) (b := 17) (e927)
            have x1039 := HI.eqI hI922 (p := 231) (b := 23) (e928)
            exact ⟨_, rfl, hI922, hF923, rfl, ⟨by show (gI _ 231 23).toInt ≤ (gI _ 231 23).toInt; omega, by show (gI _ 231 17).toInt + (gI _ 231 23).toInt ≤ (gI _ 231 17).toInt + (gI _ 231 23).toInt; omega, q934, (fun j h0 h1 => q935 j (by have h0 : (gI g921 231 23).toInt ≤ j := h0; omega) h1), hF923.2.1 240 (by decide), (by show (gI g921 231 23).toInt = 0 ∨ ((a1.toInt = 1 → 30 ≤ (eA g0 240 ((gI g921 231 23).toInt - 1)).toInt) ∧ (a1.toInt = 5 → 24 ≤ (eA g0 240 ((gI g921 231 23).toInt - 1)).toInt)); rw [show (gI g921 231 23).toInt - 1 = (x920.toInt + (-1)) by omega, hv944]; omega)⟩⟩
          · have c1037_ : 2 ≥ a1.toInt := en_i_lt_f c1037
            refine At.enter rfl ?_
            refine r_aload_n e929 ?_
            refine r_dup rfl ?_
            refine q_getI (Sh.int hI922.1 kx_231 rfl) x920 e928 ?_
            refine r_iconst 1 rfl ?_
            refine q_isub (x920.toInt - 1) rfl (by omega) (fun v1040 hv1040 => ?_)
            refine q_putI (Sh.int hI922.1 kx_231 rfl) rfl ?_
            have hI1041 := HI.wI1 hI922 kx_231 rfl (p := 231) (b := 23) (v := v1040) rfl (by dsimp only; omega)
            have hF1042 := Fr.wI (p := 231) (b := 23) (v := v1040) hF923 rfl
            refine r_aload_n e929 ?_
            refine q_getR (Sh.ref hI1041.1 kx_231 rfl) ?_
            refine r_aload_n e929 ?_
            refine q_getI (Sh.int hI1041.1 kx_231 rfl) v1040 (gI_sI_eq hI922.1 kx_231 rfl _) ?_
            refine q_iald (Sh.arr hI1041.1 ka_240) (x920.toInt + (-1)) (by omega) (by omega) v944 ((eA_c ((gA_sI).trans (hF923.2.1 240 (by decide)))).trans hv944) ?_
            refine r_bipush 28 rfl ?_
            refine r_ics 49 rfl (fun c1043 => ?_) (fun c1043 => ?_)
            · have c1043_ : v944.toInt = 28 := en_i_eq_t c1043
              refine At.enter rfl ?_
              refine r_aload_n e929 ?_
              refine q_getR (Sh.ref hI1041.1 kx_231 rfl) ?_
              refine r_aload_n e929 ?_
              refine q_getR (Sh.ref hI1041.1 kx_231 rfl) ?_
              refine r_aload_n e929 ?_
              refine q_getI (Sh.int hI1041.1 kx_231 rfl) v1040 (gI_sI_eq hI922.1 kx_231 rfl _) ?_
              obtain ⟨v1044, hv1044⟩ : ∃ v, eA g0 241 (x920.toInt + (-1)) = v := ⟨_, rfl⟩
              have rv1044 := RgA.at hI0.2.2.1 (Sh.arr hI0.1 ka_241).2 (p := 241) rfl (j := (x920.toInt + (-1))) (by omega)
              rw [hv1044] at rv1044
              dsimp only at rv1044
              refine q_iald (Sh.arr hI1041.1 ka_241) (x920.toInt + (-1)) (by omega) (by omega) v1044 ((eA_c ((gA_sI).trans (hF923.2.1 241 (by decide)))).trans hv1044) ?_
              refine r_aload_n e929 ?_
              refine q_getI (Sh.int hI1041.1 kx_231 rfl) x919 ((gI_sI_ne (by decide)).trans e927) ?_
              refine q_iast (Sh.arr hI1041.1 ka_239) (v1044.toInt) rfl (by omega) ?_
              have hI1045 := HI.wA0 hI1041 ka_239 (p := 239) rfl rfl (v1044.toInt) (x919)
              have hF1046 := Fr.wA (p := 239) (j := v1044.toInt) (v := x919) hF1042 rfl
              refine r_goto ?_
              exact ih926 (v1040.toInt) _ _ ⟨x919, v1040, by first | rfl | omega, hI1045, hF1046, (((gI_sW).trans (gI_sI_ne (by decide))).trans e927), ((gI_sW).trans (gI_sI_eq hI922.1 kx_231 rfl _)), e929, e930, by omega, by omega, by omega, (fun b o0 a0 h => PG.settleJ (q934 b o0 a0 h) (((gA_sA_ne (by decide)).trans (gA_sI))) (((gA_sA_ne (by decide)).trans (gA_sI))) (((gA_sA_ne (by decide)).trans (gA_sI))) (((gI_sW).trans (gI_sI_ne (by decide)))) (by have jf := HI.eqI hI1045 (p := 231) (b := 23) (((gI_sW).trans (gI_sI_eq hI922.1 kx_231 rfl _))); show (gI _ 231 23).toInt = (gI _ 231 23).toInt - 1; omega) (by show 1 ≤ (gI _ 231 23).toInt; omega) (by show 28 ≤ (eA g921 240 ((gI g921 231 23).toInt - 1)).toInt ∧ (eA g921 240 ((gI g921 231 23).toInt - 1)).toInt ≤ 29; rw [show (gI g921 231 23).toInt - 1 = (x920.toInt + (-1)) by omega, eA_c (j := (x920.toInt + (-1))) (hF923.2.1 240 (by decide)), hv944]; omega) (by show (eA _ 239 (eA g921 241 ((gI g921 231 23).toInt - 1)).toInt).toInt = (gI g921 231 17).toInt; rw [show (gI g921 231 23).toInt - 1 = (x920.toInt + (-1)) by omega, eA_c (j := (x920.toInt + (-1))) (hF923.2.1 241 (by decide)), hv1044, show eA _ 239 v1044.toInt = _ from (eA_sA_eq hI1041.1 ka_239 (by first | rfl | omega) (by first | decide | omega) (by first | decide | omega))]; omega) (fun i i0 hne => by have hne : i ≠ (eA g921 241 ((gI g921 231 23).toInt - 1)).toInt := hne; rw [show (gI g921 231 23).toInt - 1 = (x920.toInt + (-1)) by omega, eA_c (j := (x920.toInt + (-1))) (hF923.2.1 241 (by decide)), hv1044] at hne; exact ((eA_sA_ne (i := i) hI1041.1 ka_239 (by omega) (by omega) (by omega)).trans (eA_c gA_sI)))), (fun j h0 h1 => (Decidable.em (j = x920.toInt - 1)).elim (fun e => by rw [e, show x920.toInt - 1 = (x920.toInt + (-1)) by omega, hv944]; omega) (fun e => q935 j (by omega) h1)), by omega⟩ ⟨by omega, by omega⟩
            · have c1043_ : v944.toInt ≠ 28 := en_i_eq_f c1043
              exfalso; omega
      · have c946_ : v944.toInt = 29 := en_i_ne_f c946
        refine At.enter rfl ?_
        refine r_iconst 1 rfl ?_
        refine r_goto ?_
        refine At.enter rfl ?_
        refine q_ireti ?_
        refine At.enter rfl ?_
        refine r_iload_n e930 ?_
        refine r_ics 25 rfl (fun c1047 => ?_) (fun c1047 => ?_)
        · have c1047_ : 1 < a1.toInt := en_i_lt_t c1047
          refine At.enter rfl ?_
          refine r_vret ?_
          have x1048 := HI.eqI hI922 (p := 231) (b := 17) (e927)
          have x1049 := HI.eqI hI922 (p := 231) (b := 23) (e928)
          exact ⟨_, rfl, hI922, hF923, rfl, ⟨by show (gI _ 231 23).toInt ≤ (gI _ 231 23).toInt; omega, by show (gI _ 231 17).toInt + (gI _ 231 23).toInt ≤ (gI _ 231 17).toInt + (gI _ 231 23).toInt; omega, q934, (fun j h0 h1 => q935 j (by have h0 : (gI g921 231 23).toInt ≤ j := h0; omega) h1), hF923.2.1 240 (by decide), (by show (gI g921 231 23).toInt = 0 ∨ ((a1.toInt = 1 → 30 ≤ (eA g0 240 ((gI g921 231 23).toInt - 1)).toInt) ∧ (a1.toInt = 5 → 24 ≤ (eA g0 240 ((gI g921 231 23).toInt - 1)).toInt)); rw [show (gI g921 231 23).toInt - 1 = (x920.toInt + (-1)) by omega, hv944]; omega)⟩⟩
        · have c1047_ : 1 ≥ a1.toInt := en_i_lt_f c1047
          refine At.enter rfl ?_
          refine r_aload_n e929 ?_
          refine r_dup rfl ?_
          refine q_getI (Sh.int hI922.1 kx_231 rfl) x920 e928 ?_
          refine r_iconst 1 rfl ?_
          refine q_isub (x920.toInt - 1) rfl (by omega) (fun v1050 hv1050 => ?_)
          refine q_putI (Sh.int hI922.1 kx_231 rfl) rfl ?_
          have hI1051 := HI.wI1 hI922 kx_231 rfl (p := 231) (b := 23) (v := v1050) rfl (by dsimp only; omega)
          have hF1052 := Fr.wI (p := 231) (b := 23) (v := v1050) hF923 rfl
          refine r_aload_n e929 ?_
          refine q_getR (Sh.ref hI1051.1 kx_231 rfl) ?_
          refine r_aload_n e929 ?_
          refine q_getI (Sh.int hI1051.1 kx_231 rfl) v1050 (gI_sI_eq hI922.1 kx_231 rfl _) ?_
          refine q_iald (Sh.arr hI1051.1 ka_240) (x920.toInt + (-1)) (by omega) (by omega) v944 ((eA_c ((gA_sI).trans (hF923.2.1 240 (by decide)))).trans hv944) ?_
          refine r_bipush 28 rfl ?_
          refine r_ics 49 rfl (fun c1053 => ?_) (fun c1053 => ?_)
          · have c1053_ : v944.toInt = 28 := en_i_eq_t c1053
            exfalso; omega
          · have c1053_ : v944.toInt ≠ 28 := en_i_eq_f c1053
            refine At.enter rfl ?_
            refine r_aload_n e929 ?_
            refine q_getR (Sh.ref hI1051.1 kx_231 rfl) ?_
            refine r_aload_n e929 ?_
            refine q_getI (Sh.int hI1051.1 kx_231 rfl) v1050 (gI_sI_eq hI922.1 kx_231 rfl _) ?_
            refine q_iald (Sh.arr hI1051.1 ka_240) (x920.toInt + (-1)) (by omega) (by omega) v944 ((eA_c ((gA_sI).trans (hF923.2.1 240 (by decide)))).trans hv944) ?_
            refine r_bipush 29 rfl ?_
            refine r_ics 63 rfl (fun c1054 => ?_) (fun c1054 => ?_)
            · have c1054_ : v944.toInt ≠ 29 := en_i_ne_t c1054
              exfalso; omega
            · have c1054_ : v944.toInt = 29 := en_i_ne_f c1054
              refine At.enter rfl ?_
              refine r_aload_n e929 ?_
              refine q_getR (Sh.ref hI1051.1 kx_231 rfl) ?_
              refine r_aload_n e929 ?_
              refine q_getR (Sh.ref hI1051.1 kx_231 rfl) ?_
              refine r_aload_n e929 ?_
              refine q_getI (Sh.int hI1051.1 kx_231 rfl) v1050 (gI_sI_eq hI922.1 kx_231 rfl _) ?_
              obtain ⟨v1055, hv1055⟩ : ∃ v, eA g0 241 (x920.toInt + (-1)) = v := ⟨_, rfl⟩
              have rv1055 := RgA.at hI0.2.2.1 (Sh.arr hI0.1 ka_241).2 (p := 241) rfl (j := (x920.toInt + (-1))) (by omega)
              rw [hv1055] at rv1055
              dsimp only at rv1055
              refine q_iald (Sh.arr hI1051.1 ka_241) (x920.toInt + (-1)) (by omega) (by omega) v1055 ((eA_c ((gA_sI).trans (hF923.2.1 241 (by decide)))).trans hv1055) ?_
              refine r_aload_n e929 ?_
              refine q_getI (Sh.int hI1051.1 kx_231 rfl) x919 ((gI_sI_ne (by decide)).trans e927) ?_
              refine q_iast (Sh.arr hI1051.1 ka_239) (v1055.toInt) rfl (by omega) ?_
              have hI1056 := HI.wA0 hI1051 ka_239 (p := 239) rfl rfl (v1055.toInt) (x919)
              have hF1057 := Fr.wA (p := 239) (j := v1055.toInt) (v := x919) hF1052 rfl
              refine r_goto ?_
              exact ih926 (v1050.toInt) _ _ ⟨x919, v1050, by first | rfl | omega, hI1056, hF1057, (((gI_sW).trans (gI_sI_ne (by decide))).trans e927), ((gI_sW).trans (gI_sI_eq hI922.1 kx_231 rfl _)), e929, e930, by omega, by omega, by omega, (fun b o0 a0 h => PG.settleJ (q934 b o0 a0 h) (((gA_sA_ne (by decide)).trans (gA_sI))) (((gA_sA_ne (by decide)).trans (gA_sI))) (((gA_sA_ne (by decide)).trans (gA_sI))) (((gI_sW).trans (gI_sI_ne (by decide)))) (by have jf := HI.eqI hI1056 (p := 231) (b := 23) (((gI_sW).trans (gI_sI_eq hI922.1 kx_231 rfl _))); show (gI _ 231 23).toInt = (gI _ 231 23).toInt - 1; omega) (by show 1 ≤ (gI _ 231 23).toInt; omega) (by show 28 ≤ (eA g921 240 ((gI g921 231 23).toInt - 1)).toInt ∧ (eA g921 240 ((gI g921 231 23).toInt - 1)).toInt ≤ 29; rw [show (gI g921 231 23).toInt - 1 = (x920.toInt + (-1)) by omega, eA_c (j := (x920.toInt + (-1))) (hF923.2.1 240 (by decide)), hv944]; omega) (by show (eA _ 239 (eA g921 241 ((gI g921 231 23).toInt - 1)).toInt).toInt = (gI g921 231 17).toInt; rw [show (gI g921 231 23).toInt - 1 = (x920.toInt + (-1)) by omega, eA_c (j := (x920.toInt + (-1))) (hF923.2.1 241 (by decide)), hv1055, show eA _ 239 v1055.toInt = _ from (eA_sA_eq hI1051.1 ka_239 (by first | rfl | omega) (by first | decide | omega) (by first | decide | omega))]; omega) (fun i i0 hne => by have hne : i ≠ (eA g921 241 ((gI g921 231 23).toInt - 1)).toInt := hne; rw [show (gI g921 231 23).toInt - 1 = (x920.toInt + (-1)) by omega, eA_c (j := (x920.toInt + (-1))) (hF923.2.1 241 (by decide)), hv1055] at hne; exact ((eA_sA_ne (i := i) hI1051.1 ka_239 (by omega) (by omega) (by omega)).trans (eA_c gA_sI)))), (fun j h0 h1 => (Decidable.em (j = x920.toInt - 1)).elim (fun e => by rw [e, show x920.toInt - 1 = (x920.toInt + (-1)) by omega, hv944]; omega) (fun e => q935 j (by omega) h1)), by omega⟩ ⟨by omega, by omega⟩
    · have c945_ : v944.toInt ≥ 30 := en_i_lt_f c945
      refine At.enter rfl ?_
      refine r_iconst 0 rfl ?_
      refine r_goto ?_
      refine At.enter rfl ?_
      refine q_ireti ?_
      refine At.enter rfl ?_
      refine r_iload_n e930 ?_
      refine r_ics 25 rfl (fun c1058 => ?_) (fun c1058 => ?_)
      · have c1058_ : 0 < a1.toInt := en_i_lt_t c1058
        refine At.enter rfl ?_
        refine r_vret ?_
        have x1059 := HI.eqI hI922 (p := 231) (b := 17) (e927)
        have x1060 := HI.eqI hI922 (p := 231) (b := 23) (e928)
        exact ⟨_, rfl, hI922, hF923, rfl, ⟨by show (gI _ 231 23).toInt ≤ (gI _ 231 23).toInt; omega, by show (gI _ 231 17).toInt + (gI _ 231 23).toInt ≤ (gI _ 231 17).toInt + (gI _ 231 23).toInt; omega, q934, (fun j h0 h1 => q935 j (by have h0 : (gI g921 231 23).toInt ≤ j := h0; omega) h1), hF923.2.1 240 (by decide), (by show (gI g921 231 23).toInt = 0 ∨ ((a1.toInt = 1 → 30 ≤ (eA g0 240 ((gI g921 231 23).toInt - 1)).toInt) ∧ (a1.toInt = 5 → 24 ≤ (eA g0 240 ((gI g921 231 23).toInt - 1)).toInt)); rw [show (gI g921 231 23).toInt - 1 = (x920.toInt + (-1)) by omega, hv944]; omega)⟩⟩
      · have c1058_ : 0 ≥ a1.toInt := en_i_lt_f c1058
        exfalso; omega

def F_X11_inner_231 : List (Nat × Nat) := []
def A_X11_inner_231 : List Nat := []
set_option maxRecDepth 100000 in
set_option maxHeartbeats 4000000 in
theorem T_X11_inner_231 (d : Nat) {N : Nat} {g0 : List en_E} (hI0 : HI g0) : Ev (d + 1) 199 [.ref 231] (g0, N) (fun w h' => ∃ g', h' = (g', N) ∧ HI g' ∧ Fr F_X11_inner_231 A_X11_inner_231 g0 g' ∧ ∃ r : Int32, w = some (.int r) ∧ ((-1) ≤ r.toInt ∧ r.toInt ≤ 31) ∧ INN g0 (gI g0 231 23).toInt r.toInt) := by
  have hF0 : Fr F_X11_inner_231 A_X11_inner_231 g0 g0 := Fr.rf
  obtain ⟨v1, hv1⟩ : ∃ v, gI g0 231 23 = v := ⟨_, rfl⟩
  have rv1 := RgF.at hI0.2.1 (p := 231) (b := 23) rfl
  rw [hv1] at rv1
  dsimp only at rv1
  have tv1 := congrArg Int32.toInt hv1
  refine Ev.mk rfl rfl ⟨Nat.le_of_ble_eq_true rfl, Or.inr (q_rc hI0.1 kx_231 rfl)⟩ ?_
  show At _ none _ _ (0, [(0, .ref 231)], [], (_, _)) _
  refine At.enter rfl ?_
  refine r_iconst (-1) rfl ?_
  refine r_istore_n ([(1, .int (-1)), (0, .ref 231)]) rfl ?_
  refine r_iconst 0 rfl ?_
  refine r_istore_n ([(2, .int 0), (1, .int (-1)), (0, .ref 231)]) rfl ?_
  refine Ar.fall 4 rfl ?_
  have z_595 : ((-1) : Int32).toInt = (-1) := rfl
  have z_596 : (0 : Int32).toInt = 0 := rfl
  refine w_loopI (fun n_ l_ g_ => ∃ x580 : Int32, ∃ x581 : Int32, n_ = 400 - x581.toInt ∧ HI g_ ∧ Fr F_X11_inner_231 A_X11_inner_231 g0 g_ ∧ en_get 0 l_ = some (.ref 231) ∧ en_get 1 l_ = some (.int x580) ∧ en_get 2 l_ = some (.int x581) ∧ ((-1) ≤ x580.toInt ∧ x580.toInt ≤ 31) ∧ (0 ≤ x581.toInt ∧ x581.toInt ≤ 400) ∧ (INN g0 x581.toInt x580.toInt) ∧ (x581.toInt ≤ (gI g0 231 23).toInt)) ?_ (400 - 0) ⟨(-1), 0, by first | rfl | omega, hI0, hF0, rfl, rfl, rfl, by decide, by decide, INN.zero, by omega⟩
  rintro n586 l585 g582 ⟨x580, x581, hm597, hI583, hF584, e588, e589, e590, r591, r592, q593, q594⟩ ih587
  refine At.enter rfl ?_
  refine r_iload_n e590 ?_
  refine r_aload_n e588 ?_
  refine q_getI (Sh.int hI583.1 kx_231 rfl) v1 ((hF584.1 231 23 (by decide)).trans hv1) ?_
  have bv599 := q_bnd x581
  have bv600 := q_bnd v1
  refine r_ics 12 rfl (fun c598 => ?_) (fun c598 => ?_)
  · have c598_ : x581.toInt ≥ v1.toInt := en_i_ge_t c598
    refine At.enter rfl ?_
    refine r_iload_n e589 ?_
    refine r_ireti ?_
    have x601 := HI.eqI hI583 (p := 231) (b := 23) (((hF584.1 231 23 (by decide)).trans hv1))
    have x602 := HI.eqI hI0 (p := 231) (b := 23) (hv1)
    exact ⟨_, rfl, hI583, hF584, _, rfl, by omega, (INN.eqk q593 (by omega))⟩
  · have c598_ : x581.toInt < v1.toInt := en_i_ge_f c598
    refine At.enter rfl ?_
    refine r_aload_n e588 ?_
    refine q_getR (Sh.ref hI583.1 kx_231 rfl) ?_
    refine r_iload_n e590 ?_
    obtain ⟨v603, hv603⟩ : ∃ v, eA g0 240 x581.toInt = v := ⟨_, rfl⟩
    have rv603 := RgA.at hI0.2.2.1 (Sh.arr hI0.1 ka_240).2 (p := 240) rfl (j := x581.toInt) (by omega)
    rw [hv603] at rv603
    dsimp only at rv603
    refine q_iald (Sh.arr hI583.1 ka_240) x581.toInt rfl (by omega) v603 ((eA_c (hF584.2.1 240 (by decide))).trans hv603) ?_
    refine r_bipush 30 rfl ?_
    refine r_ics 23 rfl (fun c604 => ?_) (fun c604 => ?_)
    · have c604_ : v603.toInt < 30 := en_i_lt_t c604
      refine At.enter rfl ?_
      refine r_iload_n e589 ?_
      refine Ar.fall 33 rfl ?_
      refine At.enter rfl ?_
      refine r_istore_n _ rfl ?_
      refine q_iinc (w_p1 (by decide) (Or.inr rfl) e590) (x581.toInt + 1) rfl (by omega) (fun v605 hv605 => ?_)
      refine r_goto ?_
      exact ih587 (400 - v605.toInt) _ _ ⟨x580, v605, by first | rfl | omega, hI583, hF584, (w_p1 (by decide) (Or.inr rfl) (w_p1 (by decide) (Or.inr rfl) e588)), (w_p1 (by decide) (Or.inr rfl) (w_e1 _ _ _)), (w_e1 _ _ _), by omega, by omega, (INN.step q593 (by omega) (by omega) (by have hz : pE g0 240 x581.toInt = v603.toInt := congrArg Int32.toInt hv603; rw [hz]; omega)), by omega⟩ ⟨by omega, by omega⟩
    · have c604_ : v603.toInt ≥ 30 := en_i_lt_f c604
      refine At.enter rfl ?_
      refine r_aload_n e588 ?_
      refine q_getR (Sh.ref hI583.1 kx_231 rfl) ?_
      refine r_iload_n e590 ?_
      refine q_iald (Sh.arr hI583.1 ka_240) x581.toInt rfl (by omega) v603 ((eA_c (hF584.2.1 240 (by decide))).trans hv603) ?_
      refine r_goto ?_
      refine At.enter rfl ?_
      refine r_istore_n _ rfl ?_
      refine q_iinc (w_p1 (by decide) (Or.inr rfl) e590) (x581.toInt + 1) rfl (by omega) (fun v606 hv606 => ?_)
      refine r_goto ?_
      exact ih587 (400 - v606.toInt) _ _ ⟨v603, v606, by first | rfl | omega, hI583, hF584, (w_p1 (by decide) (Or.inr rfl) (w_p1 (by decide) (Or.inr rfl) e588)), (w_p1 (by decide) (Or.inr rfl) (w_e1 _ _ _)), (w_e1 _ _ _), by omega, by omega, (INN.step q593 (by omega) (by omega) (by have hz : pE g0 240 x581.toInt = v603.toInt := congrArg Int32.toInt hv603; rw [hz]; omega)), by omega⟩ ⟨by omega, by omega⟩

def F_X11_isCompared_231 : List (Nat × Nat) := []
def A_X11_isCompared_231 : List Nat := []
set_option maxRecDepth 100000 in
set_option maxHeartbeats 4000000 in
theorem T_X11_isCompared_231 (d : Nat) {N : Nat} {g0 : List en_E} (hI0 : HI g0) : Ev (d + 2) 200 [.ref 231] (g0, N) (fun w h' => ∃ g', h' = (g', N) ∧ HI g' ∧ Fr F_X11_isCompared_231 A_X11_isCompared_231 g0 g' ∧ ∃ r : Int32, w = some (.int r) ∧ (0 ≤ r.toInt ∧ r.toInt ≤ 1)) := by
  have hF0 : Fr F_X11_isCompared_231 A_X11_isCompared_231 g0 g0 := Fr.rf
  refine Ev.mk rfl rfl ⟨Nat.le_of_ble_eq_true rfl, Or.inr (q_rc hI0.1 kx_231 rfl)⟩ ?_
  show At _ none _ _ (0, [(0, .ref 231)], [], (_, _)) _
  refine At.enter rfl ?_
  refine r_aload_n rfl ?_
  obtain ⟨v87, hv87⟩ : ∃ v, gI g0 231 23 = v := ⟨_, rfl⟩
  have rv87 := RgF.at hI0.2.1 (p := 231) (b := 23) rfl
  rw [hv87] at rv87
  dsimp only at rv87
  refine q_getI (Sh.int hI0.1 kx_231 rfl) v87 hv87 ?_
  refine r_iconst 1 rfl ?_
  refine q_isub (v87.toInt - 1) rfl (by omega) (fun v88 hv88 => ?_)
  refine r_istore_n ([(1, .int v88), (0, .ref 231)]) rfl ?_
  refine Ar.fall 7 rfl ?_
  refine w_loopI (fun n_ l_ g_ => ∃ x105 : Int32, n_ = x105.toInt - (-1) ∧ HI g_ ∧ Fr F_X11_isCompared_231 A_X11_isCompared_231 g0 g_ ∧ en_get 0 l_ = some (.ref 231) ∧ en_get 1 l_ = some (.int x105) ∧ ((-1) ≤ x105.toInt ∧ x105.toInt ≤ 399)) ?_ (v88.toInt - (-1)) ⟨v88, by first | rfl | omega, hI0, hF0, rfl, rfl, by omega⟩
  rintro n110 l109 g106 ⟨x105, hm115, hI107, hF108, e112, e113, r114⟩ ih111
  refine At.enter rfl ?_
  refine r_iload_n e113 ?_
  refine r_ifs 11 rfl (fun c116 => ?_) (fun c116 => ?_)
  · have c116_ : x105.toInt < 0 := en_k_lt_t c116
    refine At.enter rfl ?_
    refine r_iload_n e113 ?_
    refine r_ifs 40 rfl (fun c117 => ?_) (fun c117 => ?_)
    · have c117_ : x105.toInt < 0 := en_k_lt_t c117
      refine At.enter rfl ?_
      refine r_iconst 0 rfl ?_
      refine Ar.fall 64 rfl ?_
      refine At.enter rfl ?_
      refine r_iretz (by decide) ?_
      exact ⟨_, rfl, hI107, hF108, _, rfl, by decide⟩
    · have c117_ : x105.toInt ≥ 0 := en_k_lt_f c117
      exfalso; omega
  · have c116_ : x105.toInt ≥ 0 := en_k_lt_f c116
    refine At.enter rfl ?_
    refine r_aload_n e112 ?_
    refine q_getR (Sh.ref hI107.1 kx_231 rfl) ?_
    refine r_iload_n e113 ?_
    obtain ⟨v118, hv118⟩ : ∃ v, eA g0 240 x105.toInt = v := ⟨_, rfl⟩
    have rv118 := RgA.at hI0.2.2.1 (Sh.arr hI0.1 ka_240).2 (p := 240) rfl (j := x105.toInt) (by omega)
    rw [hv118] at rv118
    dsimp only at rv118
    refine q_iald (Sh.arr hI107.1 ka_240) x105.toInt rfl (by omega) v118 ((eA_c (hF108.2.1 240 (by decide))).trans hv118) ?_
    refine q_i2l (fun v119 hv119 => ?_)
    refine r_ldc2 20 rfl ?_
    refine r_ldc2 23 rfl ?_
    refine q_inlS 27 rfl [.long v119, .long 20, .long 23] [] (Nat.le_of_ble_eq_true rfl) rfl ?_
    refine Ev.mk rfl rfl ⟨Nat.le_of_ble_eq_true rfl, Or.inl rfl⟩ ?_
    show At _ none _ _ (0, [(0, .long v119), (2, .long 20), (4, .long 23)], [], (_, _)) _
    refine At.enter rfl ?_
    refine r_lload_n rfl ?_
    refine r_lload_n rfl ?_
    refine r_lcmp _ rfl ?_
    refine r_ifs 6 rfl (fun c120 => ?_) (fun c120 => ?_)
    · have c120_ : v119.toInt < 20 := en_j_lt_t c120
      refine At.enter rfl ?_
      refine r_iconst 0 rfl ?_
      refine Ar.fall 18 rfl ?_
      refine At.enter rfl ?_
      refine q_iretz (by decide) ?_
      refine At.enter rfl ?_
      refine r_ift (by decide) ?_
      refine At.enter rfl ?_
      refine r_iload_n e113 ?_
      refine r_ifs 40 rfl (fun c121 => ?_) (fun c121 => ?_)
      · have c121_ : x105.toInt < 0 := en_k_lt_t c121
        exfalso; omega
      · have c121_ : x105.toInt ≥ 0 := en_k_lt_f c121
        refine At.enter rfl ?_
        refine r_aload_n e112 ?_
        refine q_getR (Sh.ref hI107.1 kx_231 rfl) ?_
        refine r_iload_n e113 ?_
        refine q_iald (Sh.arr hI107.1 ka_240) x105.toInt rfl (by omega) v118 ((eA_c (hF108.2.1 240 (by decide))).trans hv118) ?_
        refine q_i2l (fun v122 hv122 => ?_)
        refine r_ldc2 24 rfl ?_
        refine r_ldc2 26 rfl ?_
        refine q_inlS 56 rfl [.long v122, .long 24, .long 26] [] (Nat.le_of_ble_eq_true rfl) rfl ?_
        refine Ev.mk rfl rfl ⟨Nat.le_of_ble_eq_true rfl, Or.inl rfl⟩ ?_
        show At _ none _ _ (0, [(0, .long v122), (2, .long 24), (4, .long 26)], [], (_, _)) _
        refine At.enter rfl ?_
        refine r_lload_n rfl ?_
        refine r_lload_n rfl ?_
        refine r_lcmp _ rfl ?_
        refine r_ifs 6 rfl (fun c123 => ?_) (fun c123 => ?_)
        · have c123_ : v122.toInt < 24 := en_j_lt_t c123
          refine At.enter rfl ?_
          refine r_iconst 0 rfl ?_
          refine Ar.fall 18 rfl ?_
          refine At.enter rfl ?_
          refine q_iretz (by decide) ?_
          refine At.enter rfl ?_
          refine r_ift (by decide) ?_
          refine At.enter rfl ?_
          refine r_iconst 0 rfl ?_
          refine Ar.fall 64 rfl ?_
          refine At.enter rfl ?_
          refine r_iretz (by decide) ?_
          exact ⟨_, rfl, hI107, hF108, _, rfl, by decide⟩
        · have c123_ : v122.toInt ≥ 24 := en_j_lt_f c123
          exfalso; omega
    · have c120_ : v119.toInt ≥ 20 := en_j_lt_f c120
      refine At.enter rfl ?_
      refine r_lload_n rfl ?_
      refine r_lload rfl ?_
      refine r_lcmp _ rfl ?_
      refine r_ifs 13 rfl (fun c124 => ?_) (fun c124 => ?_)
      · have c124_ : v119.toInt > 23 := en_j_gt_t c124
        refine At.enter rfl ?_
        refine r_iconst 0 rfl ?_
        refine Ar.fall 18 rfl ?_
        refine At.enter rfl ?_
        refine q_iretz (by decide) ?_
        refine At.enter rfl ?_
        refine r_ift (by decide) ?_
        refine At.enter rfl ?_
        refine r_iload_n e113 ?_
        refine r_ifs 40 rfl (fun c125 => ?_) (fun c125 => ?_)
        · have c125_ : x105.toInt < 0 := en_k_lt_t c125
          exfalso; omega
        · have c125_ : x105.toInt ≥ 0 := en_k_lt_f c125
          refine At.enter rfl ?_
          refine r_aload_n e112 ?_
          refine q_getR (Sh.ref hI107.1 kx_231 rfl) ?_
          refine r_iload_n e113 ?_
          refine q_iald (Sh.arr hI107.1 ka_240) x105.toInt rfl (by omega) v118 ((eA_c (hF108.2.1 240 (by decide))).trans hv118) ?_
          refine q_i2l (fun v126 hv126 => ?_)
          refine r_ldc2 24 rfl ?_
          refine r_ldc2 26 rfl ?_
          refine q_inlS 56 rfl [.long v126, .long 24, .long 26] [] (Nat.le_of_ble_eq_true rfl) rfl ?_
          refine Ev.mk rfl rfl ⟨Nat.le_of_ble_eq_true rfl, Or.inl rfl⟩ ?_
          show At _ none _ _ (0, [(0, .long v126), (2, .long 24), (4, .long 26)], [], (_, _)) _
          refine At.enter rfl ?_
          refine r_lload_n rfl ?_
          refine r_lload_n rfl ?_
          refine r_lcmp _ rfl ?_
          refine r_ifs 6 rfl (fun c127 => ?_) (fun c127 => ?_)
          · have c127_ : v126.toInt < 24 := en_j_lt_t c127
            exfalso; omega
          · have c127_ : v126.toInt ≥ 24 := en_j_lt_f c127
            refine At.enter rfl ?_
            refine r_lload_n rfl ?_
            refine r_lload rfl ?_
            refine r_lcmp _ rfl ?_
            refine r_ifs 13 rfl (fun c128 => ?_) (fun c128 => ?_)
            · have c128_ : v126.toInt > 26 := en_j_gt_t c128
              refine At.enter rfl ?_
              refine r_iconst 0 rfl ?_
              refine Ar.fall 18 rfl ?_
              refine At.enter rfl ?_
              refine q_iretz (by decide) ?_
              refine At.enter rfl ?_
              refine r_ift (by decide) ?_
              refine At.enter rfl ?_
              refine r_iconst 0 rfl ?_
              refine Ar.fall 64 rfl ?_
              refine At.enter rfl ?_
              refine r_iretz (by decide) ?_
              exact ⟨_, rfl, hI107, hF108, _, rfl, by decide⟩
            · have c128_ : v126.toInt ≤ 26 := en_j_gt_f c128
              refine At.enter rfl ?_
              refine r_iconst 1 rfl ?_
              refine r_goto ?_
              refine At.enter rfl ?_
              refine q_iretz (by decide) ?_
              refine At.enter rfl ?_
              refine r_iff 59 rfl (by decide) ?_
              refine At.enter rfl ?_
              refine r_iconst 1 rfl ?_
              refine r_goto ?_
              refine At.enter rfl ?_
              refine r_iretz (by decide) ?_
              exact ⟨_, rfl, hI107, hF108, _, rfl, by decide⟩
      · have c124_ : v119.toInt ≤ 23 := en_j_gt_f c124
        refine At.enter rfl ?_
        refine r_iconst 1 rfl ?_
        refine r_goto ?_
        refine At.enter rfl ?_
        refine q_iretz (by decide) ?_
        refine At.enter rfl ?_
        refine r_iff 30 rfl (by decide) ?_
        refine At.enter rfl ?_
        refine q_iinc e113 (x105.toInt + (-1)) rfl (by omega) (fun v129 hv129 => ?_)
        refine r_goto ?_
        exact ih111 (v129.toInt - (-1)) _ _ ⟨v129, by first | rfl | omega, hI107, hF108, (w_p1 (by decide) (Or.inr rfl) e112), (w_e1 _ _ _), by omega⟩ ⟨by omega, by omega⟩
