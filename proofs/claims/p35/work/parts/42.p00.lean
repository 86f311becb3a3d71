def F_X11_next_231 : List (Nat × Nat) := [(231, 9), (231, 10), (231, 11), (231, 12)]
def A_X11_next_231 : List Nat := []
set_option maxRecDepth 100000 in
set_option maxHeartbeats 4000000 in
theorem T_X11_next_231 (d : Nat) {N : Nat} {g0 : List en_E} (hI0 : HI g0) (h1 : (gI g0 231 10).toInt ≤ (gI g0 231 8).toInt) : Ev (d + 2) 190 [.ref 231] (g0, N) (fun w h' => ∃ g', h' = (g', N) ∧ HI g' ∧ Fr F_X11_next_231 A_X11_next_231 g0 g' ∧ w = none ∧ ((gI g' 231 9).toInt ≤ (gI g' 231 10).toInt ∧ (gI g' 231 10).toInt ≤ (gI g' 231 8).toInt ∧ 0 ≤ (gI g' 231 11).toInt ∧ (gI g' 231 11).toInt ≤ 3 * ((gI g' 231 10).toInt - (gI g' 231 9).toInt) ∧ (gI g0 231 10).toInt ≤ (gI g' 231 9).toInt ∧ W26 g')) := by
  have hF0 : Fr F_X11_next_231 A_X11_next_231 g0 g0 := Fr.rf
  obtain ⟨v1, hv1⟩ : ∃ v, gI g0 231 8 = v := ⟨_, rfl⟩
  have rv1 := RgF.at hI0.2.1 (p := 231) (b := 8) rfl
  rw [hv1] at rv1
  dsimp only at rv1
  have tv1 := congrArg Int32.toInt hv1
  obtain ⟨v2, hv2⟩ : ∃ v, gI g0 231 10 = v := ⟨_, rfl⟩
  have rv2 := RgF.at hI0.2.1 (p := 231) (b := 10) rfl
  rw [hv2] at rv2
  dsimp only at rv2
  have tv2 := congrArg Int32.toInt hv2
  refine Ev.mk rfl rfl ⟨Nat.le_of_ble_eq_true rfl, Or.inr (q_rc hI0.1 kx_231 rfl)⟩ ?_
  show At _ none _ _ (0, [(0, .ref 231)], [], (_, _)) _
  refine At.enter rfl ?_
  refine r_aload_n rfl ?_
  refine r_aload_n rfl ?_
  refine q_getI (Sh.int hI0.1 kx_231 rfl) v2 hv2 ?_
  refine q_putI (Sh.int hI0.1 kx_231 rfl) rfl ?_
  have hI1745 := HI.wI1 hI0 kx_231 rfl (p := 231) (b := 9) (v := v2) rfl (by dsimp only; omega)
  have hF1746 := Fr.wI (p := 231) (b := 9) (v := v2) hF0 rfl
  refine Ar.fall 8 rfl ?_
  refine w_loopI (fun n_ l_ g_ => ∃ x2167 : Int32, n_ = 400 - x2167.toInt ∧ HI g_ ∧ Fr F_X11_next_231 A_X11_next_231 g0 g_ ∧ gI g_ 231 9 = x2167 ∧ en_get 0 l_ = some (.ref 231) ∧ (0 ≤ x2167.toInt ∧ x2167.toInt ≤ 400) ∧ (x2167.toInt ≤ (gI g0 231 8).toInt) ∧ ((gI g0 231 10).toInt ≤ x2167.toInt)) ?_ (400 - v2.toInt) ⟨v2, by first | rfl | omega, hI1745, hF1746, (gI_sI_eq hI0.1 kx_231 rfl _), rfl, by omega, by omega, by omega⟩
  rintro n2172 l2171 g2168 ⟨x2167, hm2179, hI2169, hF2170, e2174, e2175, r2176, q2177, q2178⟩ ih2173
  have tv2180 := congrArg Int32.toInt e2174
  refine At.enter rfl ?_
  refine r_aload_n e2175 ?_
  refine q_getI (Sh.int hI2169.1 kx_231 rfl) x2167 e2174 ?_
  refine r_aload_n e2175 ?_
  refine q_getI (Sh.int hI2169.1 kx_231 rfl) v1 ((hF2170.1 231 8 (by decide)).trans hv1) ?_
  have bv2182 := q_bnd x2167
  have bv2183 := q_bnd v1
  refine r_ics 19 rfl (fun c2181 => ?_) (fun c2181 => ?_)
  · have c2181_ : x2167.toInt ≥ v1.toInt := en_i_ge_t c2181
    refine At.enter rfl ?_
    refine r_aload_n e2175 ?_
    refine r_aload_n e2175 ?_
    refine q_getI (Sh.int hI2169.1 kx_231 rfl) x2167 e2174 ?_
    refine q_putI (Sh.int hI2169.1 kx_231 rfl) rfl ?_
    have hI2184 := HI.wI1 hI2169 kx_231 rfl (p := 231) (b := 10) (v := x2167) rfl (by dsimp only; omega)
    have hF2185 := Fr.wI (p := 231) (b := 10) (v := x2167) hF2170 rfl
    refine r_aload_n e2175 ?_
    refine r_lconst 0 rfl ?_
    refine q_putJ (Sh.long hI2184.1 kx_231 rfl) rfl ?_
    have hI2186 := HI.wJ hI2184 kx_231 rfl (p := 231) (b := 12) (v := 0)
    have hF2187 := Fr.wJ (p := 231) (b := 12) (v := 0) hF2185 rfl
    refine r_aload_n e2175 ?_
    refine r_aload_n e2175 ?_
    refine q_getI (Sh.int hI2186.1 kx_231 rfl) x2167 (((gI_sJ_ne (by decide)).trans (gI_sI_ne (by decide))).trans e2174) ?_
    refine r_aload_n e2175 ?_
    refine q_getI (Sh.int hI2186.1 kx_231 rfl) v1 (((gI_sJ_ne (by decide)).trans ((gI_sI_ne (by decide)).trans (hF2170.1 231 8 (by decide)))).trans hv1) ?_
    refine r_ics 71 rfl (fun c2188 => ?_) (fun c2188 => ?_)
    · have c2188_ : x2167.toInt ≠ v1.toInt := en_i_ne_t c2188
      refine At.enter rfl ?_
      refine r_aload_n e2175 ?_
      refine q_getR (Sh.ref hI2186.1 kx_231 rfl) ?_
      refine r_aload_n e2175 ?_
      refine q_getI (Sh.int hI2186.1 kx_231 rfl) x2167 (((gI_sJ_ne (by decide)).trans (gI_sI_ne (by decide))).trans e2174) ?_
      obtain ⟨v2189, hv2189⟩ : ∃ v, eA g0 236 x2167.toInt = v := ⟨_, rfl⟩
      have tv2189 := congrArg Int32.toInt hv2189
      refine q_iald (Sh.arr hI2186.1 ka_236) x2167.toInt rfl (by omega) v2189 ((eA_c ((gA_sJ).trans ((gA_sI).trans (hF2170.2.1 236 (by decide))))).trans hv2189) ?_
      refine q_inlS 87 rfl [.int v2189] [.ref 231] (Nat.le_of_ble_eq_true rfl) rfl ?_
      refine Ev.mk rfl rfl ⟨Nat.le_of_ble_eq_true rfl, Or.inl rfl⟩ ?_
      show At _ none _ _ (0, [(0, .int v2189)], [], (_, _)) _
      refine At.enter rfl ?_
      refine r_iload_n rfl ?_
      refine r_bipush 97 rfl ?_
      refine r_ics 6 rfl (fun c2190 => ?_) (fun c2190 => ?_)
      · have c2190_ : v2189.toInt < 97 := en_i_lt_t c2190
        refine At.enter rfl ?_
        refine r_iconst 0 rfl ?_
        refine Ar.fall 17 rfl ?_
        refine At.enter rfl ?_
        refine q_iretz (by decide) ?_
        refine At.enter rfl ?_
        refine r_ift (by decide) ?_
        refine At.enter rfl ?_
        refine r_aload_n e2175 ?_
        refine q_getR (Sh.ref hI2186.1 kx_231 rfl) ?_
        refine r_aload_n e2175 ?_
        refine q_getI (Sh.int hI2186.1 kx_231 rfl) x2167 (((gI_sJ_ne (by decide)).trans (gI_sI_ne (by decide))).trans e2174) ?_
        refine q_iald (Sh.arr hI2186.1 ka_236) x2167.toInt rfl (by omega) v2189 ((eA_c ((gA_sJ).trans ((gA_sI).trans (hF2170.2.1 236 (by decide))))).trans hv2189) ?_
        refine q_inlS 106 rfl [.int v2189] [.ref 231] (Nat.le_of_ble_eq_true rfl) rfl ?_
        refine Ev.mk rfl rfl ⟨Nat.le_of_ble_eq_true rfl, Or.inl rfl⟩ ?_
        show At _ none _ _ (0, [(0, .int v2189)], [], (_, _)) _
        refine At.enter rfl ?_
        refine r_iload_n rfl ?_
        refine r_bipush 48 rfl ?_
        refine r_ics 6 rfl (fun c2191 => ?_) (fun c2191 => ?_)
        · have c2191_ : v2189.toInt < 48 := en_i_lt_t c2191
          refine At.enter rfl ?_
          refine r_iconst 0 rfl ?_
          refine Ar.fall 17 rfl ?_
          refine At.enter rfl ?_
          refine q_iretz (by decide) ?_
          refine At.enter rfl ?_
          refine r_ift (by decide) ?_
          refine At.enter rfl ?_
          refine r_iconst 3 rfl ?_
          refine Ar.fall 114 rfl ?_
          refine At.enter rfl ?_
          refine q_putI (Sh.int hI2186.1 kx_231 rfl) rfl ?_
          have hI2192 := HI.wI0 hI2186 kx_231 rfl (p := 231) (b := 11) (v := 3) rfl
          have hF2193 := Fr.wI (p := 231) (b := 11) (v := 3) hF2187 rfl
          refine r_aload_n e2175 ?_
          refine q_getI (Sh.int hI2192.1 kx_231 rfl) 3 (gI_sI_eq hI2186.1 kx_231 rfl _) ?_
          refine r_iconst 3 rfl ?_
          refine r_icf 125 rfl (by decide) ?_
          refine At.enter rfl ?_
          refine r_aload_n e2175 ?_
          refine r_aload_n e2175 ?_
          refine q_getR (Sh.ref hI2192.1 kx_231 rfl) ?_
          refine r_aload_n e2175 ?_
          refine q_getI (Sh.int hI2192.1 kx_231 rfl) x2167 (((gI_sI_ne (by decide)).trans ((gI_sJ_ne (by decide)).trans (gI_sI_ne (by decide)))).trans e2174) ?_
          refine q_iald (Sh.arr hI2192.1 ka_236) x2167.toInt rfl (by omega) v2189 ((eA_c ((gA_sI).trans ((gA_sJ).trans ((gA_sI).trans (hF2170.2.1 236 (by decide)))))).trans hv2189) ?_
          refine q_i2l (fun v2194 hv2194 => ?_)
          refine q_putJ (Sh.long hI2192.1 kx_231 rfl) rfl ?_
          have hI2195 := HI.wJ hI2192 kx_231 rfl (p := 231) (b := 12) (v := v2194)
          have hF2196 := Fr.wJ (p := 231) (b := 12) (v := v2194) hF2193 rfl
          refine r_aload_n e2175 ?_
          refine r_dup rfl ?_
          refine q_getI (Sh.int hI2195.1 kx_231 rfl) x2167 ((gI_sJ_ne (by decide)).trans ((gI_sI_ne (by decide)).trans ((gI_sJ_ne (by decide)).trans (gI_sI_eq hI2169.1 kx_231 rfl _)))) ?_
          refine r_iconst 1 rfl ?_
          refine q_iadd (x2167.toInt + 1) rfl (by omega) (fun v2197 hv2197 => ?_)
          refine q_putI (Sh.int hI2195.1 kx_231 rfl) rfl ?_
          have hI2198 := HI.wI1 hI2195 kx_231 rfl (p := 231) (b := 10) (v := v2197) rfl (by dsimp only; omega)
          have hF2199 := Fr.wI (p := 231) (b := 10) (v := v2197) hF2196 rfl
          refine Ar.fall 149 rfl ?_
          refine At.enter rfl ?_
          refine r_aload_n e2175 ?_
          refine q_getI (Sh.int hI2198.1 kx_231 rfl) 3 ((gI_sI_ne (by decide)).trans ((gI_sJ_ne (by decide)).trans (gI_sI_eq hI2186.1 kx_231 rfl _))) ?_
          refine r_iconst 1 rfl ?_
          refine r_ict (by decide) ?_
          refine At.enter rfl ?_
          refine r_aload_n e2175 ?_
          refine q_getI (Sh.int hI2198.1 kx_231 rfl) 3 ((gI_sI_ne (by decide)).trans ((gI_sJ_ne (by decide)).trans (gI_sI_eq hI2186.1 kx_231 rfl _))) ?_
          refine r_iconst 2 rfl ?_
          refine r_ict (by decide) ?_
          refine At.enter rfl ?_
          refine r_vret ?_
          have x2200 := HI.eqI hI2198 (p := 231) (b := 8) ((((gI_sI_ne (by decide)).trans ((gI_sJ_ne (by decide)).trans ((gI_sI_ne (by decide)).trans ((gI_sJ_ne (by decide)).trans ((gI_sI_ne (by decide)).trans (hF2170.1 231 8 (by decide))))))).trans hv1))
          have x2201 := HI.eqI hI2198 (p := 231) (b := 9) ((((gI_sI_ne (by decide)).trans ((gI_sJ_ne (by decide)).trans ((gI_sI_ne (by decide)).trans ((gI_sJ_ne (by decide)).trans (gI_sI_ne (by decide)))))).trans e2174))
          have x2202 := HI.eqI hI2198 (p := 231) (b := 10) ((gI_sI_eq hI2195.1 kx_231 rfl _))
          have x2203 := HI.eqI hI2198 (p := 231) (b := 11) (((gI_sI_ne (by decide)).trans ((gI_sJ_ne (by decide)).trans (gI_sI_eq hI2186.1 kx_231 rfl _))))
          have zv2204 : (3 : Int32).toInt = 3 := rfl
          have x2205 := HI.eqJ hI2198 (b := 12) (((gJ_sI_ne (by decide)).trans (gJ_sJ_eq hI2192.1 kx_231 rfl _)))
          have x2206 := HI.eqI hI0 (p := 231) (b := 10) (hv2)
          exact ⟨_, rfl, hI2198, hF2199, rfl, ⟨by omega, by omega, by omega, by omega, by omega, by show (gI _ 231 11).toInt = 1 → (gI _ 231 10).toInt ≤ (gI _ 231 9).toInt + 1 → (gJ _ 231 12).toInt ≤ 26; omega⟩⟩
        · have c2191_ : v2189.toInt ≥ 48 := en_i_lt_f c2191
          refine At.enter rfl ?_
          refine r_iload_n rfl ?_
          refine r_bipush 57 rfl ?_
          refine r_ics 12 rfl (fun c2207 => ?_) (fun c2207 => ?_)
          · have c2207_ : v2189.toInt > 57 := en_i_gt_t c2207
            refine At.enter rfl ?_
            refine r_iconst 0 rfl ?_
            refine Ar.fall 17 rfl ?_
            refine At.enter rfl ?_
            refine q_iretz (by decide) ?_
            refine At.enter rfl ?_
            refine r_ift (by decide) ?_
            refine At.enter rfl ?_
            refine r_iconst 3 rfl ?_
            refine Ar.fall 114 rfl ?_
            refine At.enter rfl ?_
            refine q_putI (Sh.int hI2186.1 kx_231 rfl) rfl ?_
            have hI2208 := HI.wI0 hI2186 kx_231 rfl (p := 231) (b := 11) (v := 3) rfl
            have hF2209 := Fr.wI (p := 231) (b := 11) (v := 3) hF2187 rfl
            refine r_aload_n e2175 ?_
            refine q_getI (Sh.int hI2208.1 kx_231 rfl) 3 (gI_sI_eq hI2186.1 kx_231 rfl _) ?_
            refine r_iconst 3 rfl ?_
            refine r_icf 125 rfl (by decide) ?_
            refine At.enter rfl ?_
            refine r_aload_n e2175 ?_
            refine r_aload_n e2175 ?_
            refine q_getR (Sh.ref hI2208.1 kx_231 rfl) ?_
            refine r_aload_n e2175 ?_
            refine q_getI (Sh.int hI2208.1 kx_231 rfl) x2167 (((gI_sI_ne (by decide)).trans ((gI_sJ_ne (by decide)).trans (gI_sI_ne (by decide)))).trans e2174) ?_
            refine q_iald (Sh.arr hI2208.1 ka_236) x2167.toInt rfl (by omega) v2189 ((eA_c ((gA_sI).trans ((gA_sJ).trans ((gA_sI).trans (hF2170.2.1 236 (by decide)))))).trans hv2189) ?_
            refine q_i2l (fun v2210 hv2210 => ?_)
            refine q_putJ (Sh.long hI2208.1 kx_231 rfl) rfl ?_
            have hI2211 := HI.wJ hI2208 kx_231 rfl (p := 231) (b := 12) (v := v2210)
            have hF2212 := Fr.wJ (p := 231) (b := 12) (v := v2210) hF2209 rfl
            refine r_aload_n e2175 ?_
            refine r_dup rfl ?_
            refine q_getI (Sh.int hI2211.1 kx_231 rfl) x2167 ((gI_sJ_ne (by decide)).trans ((gI_sI_ne (by decide)).trans ((gI_sJ_ne (by decide)).trans (gI_sI_eq hI2169.1 kx_231 rfl _)))) ?_
            refine r_iconst 1 rfl ?_
            refine q_iadd (x2167.toInt + 1) rfl (by omega) (fun v2213 hv2213 => ?_)
            refine q_putI (Sh.int hI2211.1 kx_231 rfl) rfl ?_
            have hI2214 := HI.wI1 hI2211 kx_231 rfl (p := 231) (b := 10) (v := v2213) rfl (by dsimp only; omega)
            have hF2215 := Fr.wI (p := 231) (b := 10) (v := v2213) hF2212 rfl
            refine Ar.fall 149 rfl ?_
            refine At.enter rfl ?_
            refine r_aload_n e2175 ?_
            refine q_getI (Sh.int hI2214.1 kx_231 rfl) 3 ((gI_sI_ne (by decide)).trans ((gI_sJ_ne (by decide)).trans (gI_sI_eq hI2186.1 kx_231 rfl _))) ?_
            refine r_iconst 1 rfl ?_
            refine r_ict (by decide) ?_
            refine At.enter rfl ?_
            refine r_aload_n e2175 ?_
            refine q_getI (Sh.int hI2214.1 kx_231 rfl) 3 ((gI_sI_ne (by decide)).trans ((gI_sJ_ne (by decide)).trans (gI_sI_eq hI2186.1 kx_231 rfl _))) ?_
            refine r_iconst 2 rfl ?_
            refine r_ict (by decide) ?_
            refine At.enter rfl ?_
            refine r_vret ?_
            have x2216 := HI.eqI hI2214 (p := 231) (b := 8) ((((gI_sI_ne (by decide)).trans ((gI_sJ_ne (by decide)).trans ((gI_sI_ne (by decide)).trans ((gI_sJ_ne (by decide)).trans ((gI_sI_ne (by decide)).trans (hF2170.1 231 8 (by decide))))))).trans hv1))
            have x2217 := HI.eqI hI2214 (p := 231) (b := 9) ((((gI_sI_ne (by decide)).trans ((gI_sJ_ne (by decide)).trans ((gI_sI_ne (by decide)).trans ((gI_sJ_ne (by decide)).trans (gI_sI_ne (by decide)))))).trans e2174))
            have x2218 := HI.eqI hI2214 (p := 231) (b := 10) ((gI_sI_eq hI2211.1 kx_231 rfl _))
            have x2219 := HI.eqI hI2214 (p := 231) (b := 11) (((gI_sI_ne (by decide)).trans ((gI_sJ_ne (by decide)).trans (gI_sI_eq hI2186.1 kx_231 rfl _))))
            have zv2220 : (3 : Int32).toInt = 3 := rfl
            have x2221 := HI.eqJ hI2214 (b := 12) (((gJ_sI_ne (by decide)).trans (gJ_sJ_eq hI2208.1 kx_231 rfl _)))
            have x2222 := HI.eqI hI0 (p := 231) (b := 10) (hv2)
            exact ⟨_, rfl, hI2214, hF2215, rfl, ⟨by omega, by omega, by omega, by omega, by omega, by show (gI _ 231 11).toInt = 1 → (gI _ 231 10).toInt ≤ (gI _ 231 9).toInt + 1 → (gJ _ 231 12).toInt ≤ 26; omega⟩⟩
          · have c2207_ : v2189.toInt ≤ 57 := en_i_gt_f c2207
            refine At.enter rfl ?_
            refine r_iconst 1 rfl ?_
            refine r_goto ?_
            refine At.enter rfl ?_
            refine q_iretz (by decide) ?_
            refine At.enter rfl ?_
            refine r_iff 109 rfl (by decide) ?_
            refine At.enter rfl ?_
            refine r_iconst 2 rfl ?_
            refine r_goto ?_
            refine At.enter rfl ?_
            refine q_putI (Sh.int hI2186.1 kx_231 rfl) rfl ?_
            have hI2223 := HI.wI0 hI2186 kx_231 rfl (p := 231) (b := 11) (v := 2) rfl
            have hF2224 := Fr.wI (p := 231) (b := 11) (v := 2) hF2187 rfl
            refine r_aload_n e2175 ?_
            refine q_getI (Sh.int hI2223.1 kx_231 rfl) 2 (gI_sI_eq hI2186.1 kx_231 rfl _) ?_
            refine r_iconst 3 rfl ?_
            refine r_ict (by decide) ?_
            refine At.enter rfl ?_
            refine r_aload_n e2175 ?_
            refine q_getI (Sh.int hI2223.1 kx_231 rfl) 2 (gI_sI_eq hI2186.1 kx_231 rfl _) ?_
            refine r_iconst 1 rfl ?_
            refine r_ict (by decide) ?_
            refine w_loopI (fun n_ l_ g_ => ∃ x2250 : Int32, n_ = 400 - x2250.toInt ∧ HI g_ ∧ Fr F_X11_next_231 A_X11_next_231 g0 g_ ∧ gI g_ 231 10 = x2250 ∧ gI g_ 231 9 = x2167 ∧ gI g_ 231 11 = 2 ∧ en_get 0 l_ = some (.ref 231) ∧ (0 ≤ x2250.toInt ∧ x2250.toInt ≤ 400) ∧ (x2167.toInt ≤ x2250.toInt) ∧ (x2250.toInt ≤ (gI g0 231 8).toInt) ∧ ((x2250.toInt ≤ x2167.toInt → (eA g0 236 x2250.toInt).toInt = v2189.toInt))) ?_ (400 - x2167.toInt) ⟨x2167, by first | rfl | omega, hI2223, hF2224, ((gI_sI_ne (by decide)).trans ((gI_sJ_ne (by decide)).trans (gI_sI_eq hI2169.1 kx_231 rfl _))), (((gI_sI_ne (by decide)).trans ((gI_sJ_ne (by decide)).trans (gI_sI_ne (by decide)))).trans e2174), (gI_sI_eq hI2186.1 kx_231 rfl _), e2175, by omega, by omega, by omega, (fun _ => congrArg Int32.toInt hv2189)⟩
            rintro n2255 l2254 g2251 ⟨x2250, hm2265, hI2252, hF2253, e2257, e2258, e2259, e2260, r2261, q2262, q2263, q2264⟩ ih2256
            have tv2266 := congrArg Int32.toInt e2258
            have tv2267 := congrArg Int32.toInt e2259
            have tv2268 := congrArg Int32.toInt e2257
            refine At.enter rfl ?_
            refine r_aload_n e2260 ?_
            refine q_getI (Sh.int hI2252.1 kx_231 rfl) 2 e2259 ?_
            refine r_iconst 2 rfl ?_
            refine r_icf 251 rfl (by decide) ?_
            refine At.enter rfl ?_
            refine r_aload_n e2260 ?_
            refine q_getI (Sh.int hI2252.1 kx_231 rfl) x2250 e2257 ?_
            refine r_aload_n e2260 ?_
            refine q_getI (Sh.int hI2252.1 kx_231 rfl) v1 ((hF2253.1 231 8 (by decide)).trans hv1) ?_
            have bv2270 := q_bnd x2250
            refine r_ics 262 rfl (fun c2269 => ?_) (fun c2269 => ?_)
            · have c2269_ : x2250.toInt ≥ v1.toInt := en_i_ge_t c2269
              refine At.enter rfl ?_
              refine r_vret ?_
              have x2271 := HI.eqI hI2252 (p := 231) (b := 8) (((hF2253.1 231 8 (by decide)).trans hv1))
              have x2272 := HI.eqI hI2252 (p := 231) (b := 9) (e2258)
              have x2273 := HI.eqI hI2252 (p := 231) (b := 10) (e2257)
              have x2274 := HI.eqI hI2252 (p := 231) (b := 11) (e2259)
              have zv2275 : (2 : Int32).toInt = 2 := rfl
              obtain ⟨v2276, hv2276⟩ : ∃ v, gJ g2251 231 12 = v := ⟨_, rfl⟩
              have tv2276 := congrArg Int64.toInt hv2276
              have x2277 := HI.eqJ hI2252 (b := 12) (hv2276)
              have x2278 := HI.eqI hI0 (p := 231) (b := 10) (hv2)
              exact ⟨_, rfl, hI2252, hF2253, rfl, ⟨by omega, by omega, by omega, by omega, by omega, by show (gI _ 231 11).toInt = 1 → (gI _ 231 10).toInt ≤ (gI _ 231 9).toInt + 1 → (gJ _ 231 12).toInt ≤ 26; omega⟩⟩
            · have c2269_ : x2250.toInt < v1.toInt := en_i_ge_f c2269
              refine At.enter rfl ?_
              refine r_aload_n e2260 ?_
              refine q_getR (Sh.ref hI2252.1 kx_231 rfl) ?_
              refine r_aload_n e2260 ?_
              refine q_getI (Sh.int hI2252.1 kx_231 rfl) x2250 e2257 ?_
              obtain ⟨v2279, hv2279⟩ : ∃ v, eA g0 236 x2250.toInt = v := ⟨_, rfl⟩
              have tv2279 := congrArg Int32.toInt hv2279
              refine q_iald (Sh.arr hI2252.1 ka_236) x2250.toInt rfl (by omega) v2279 ((eA_c (hF2253.2.1 236 (by decide))).trans hv2279) ?_
              refine q_inlS 274 rfl [.int v2279] [] (Nat.le_of_ble_eq_true rfl) rfl ?_
              refine Ev.mk rfl rfl ⟨Nat.le_of_ble_eq_true rfl, Or.inl rfl⟩ ?_
              show At _ none _ _ (0, [(0, .int v2279)], [], (_, _)) _
              refine At.enter rfl ?_
              refine r_iload_n rfl ?_
              refine r_bipush 48 rfl ?_
              refine r_ics 6 rfl (fun c2280 => ?_) (fun c2280 => ?_)
              · have c2280_ : v2279.toInt < 48 := en_i_lt_t c2280
                refine At.enter rfl ?_
                refine r_iconst 0 rfl ?_
                refine Ar.fall 17 rfl ?_
                refine At.enter rfl ?_
                refine q_iretz (by decide) ?_
                refine At.enter rfl ?_
                refine r_ift (by decide) ?_
                refine At.enter rfl ?_
                refine r_vret ?_
                have x2281 := HI.eqI hI2252 (p := 231) (b := 8) (((hF2253.1 231 8 (by decide)).trans hv1))
                have x2282 := HI.eqI hI2252 (p := 231) (b := 9) (e2258)
                have x2283 := HI.eqI hI2252 (p := 231) (b := 10) (e2257)
                have x2284 := HI.eqI hI2252 (p := 231) (b := 11) (e2259)
                have zv2285 : (2 : Int32).toInt = 2 := rfl
                obtain ⟨v2286, hv2286⟩ : ∃ v, gJ g2251 231 12 = v := ⟨_, rfl⟩
                have tv2286 := congrArg Int64.toInt hv2286
                have x2287 := HI.eqJ hI2252 (b := 12) (hv2286)
                have x2288 := HI.eqI hI0 (p := 231) (b := 10) (hv2)
                exact ⟨_, rfl, hI2252, hF2253, rfl, ⟨by omega, by omega, by omega, by omega, by omega, by show (gI _ 231 11).toInt = 1 → (gI _ 231 10).toInt ≤ (gI _ 231 9).toInt + 1 → (gJ _ 231 12).toInt ≤ 26; omega⟩⟩
              · have c2280_ : v2279.toInt ≥ 48 := en_i_lt_f c2280
                refine At.enter rfl ?_
                refine r_iload_n rfl ?_
                refine r_bipush 57 rfl ?_
                refine r_ics 12 rfl (fun c2289 => ?_) (fun c2289 => ?_)
                · have c2289_ : v2279.toInt > 57 := en_i_gt_t c2289
                  refine At.enter rfl ?_
                  refine r_iconst 0 rfl ?_
                  refine Ar.fall 17 rfl ?_
                  refine At.enter rfl ?_
                  refine q_iretz (by decide) ?_
                  refine At.enter rfl ?_
                  refine r_ift (by decide) ?_
                  refine At.enter rfl ?_
                  refine r_vret ?_
                  have x2290 := HI.eqI hI2252 (p := 231) (b := 8) (((hF2253.1 231 8 (by decide)).trans hv1))
                  have x2291 := HI.eqI hI2252 (p := 231) (b := 9) (e2258)
                  have x2292 := HI.eqI hI2252 (p := 231) (b := 10) (e2257)
                  have x2293 := HI.eqI hI2252 (p := 231) (b := 11) (e2259)
                  have zv2294 : (2 : Int32).toInt = 2 := rfl
                  obtain ⟨v2295, hv2295⟩ : ∃ v, gJ g2251 231 12 = v := ⟨_, rfl⟩
                  have tv2295 := congrArg Int64.toInt hv2295
                  have x2296 := HI.eqJ hI2252 (b := 12) (hv2295)
                  have x2297 := HI.eqI hI0 (p := 231) (b := 10) (hv2)
                  exact ⟨_, rfl, hI2252, hF2253, rfl, ⟨by omega, by omega, by omega, by omega, by omega, by show (gI _ 231 11).toInt = 1 → (gI _ 231 10).toInt ≤ (gI _ 231 9).toInt + 1 → (gJ _ 231 12).toInt ≤ 26; omega⟩⟩
                · have c2289_ : v2279.toInt ≤ 57 := en_i_gt_f c2289
                  refine At.enter rfl ?_
                  refine r_iconst 1 rfl ?_
                  refine r_goto ?_
                  refine At.enter rfl ?_
                  refine q_iretz (by decide) ?_
                  refine At.enter rfl ?_
                  refine r_iff 277 rfl (by decide) ?_
                  refine At.enter rfl ?_
                  refine r_aload_n e2260 ?_
                  refine r_aload_n e2260 ?_
                  obtain ⟨v2298, hv2298⟩ : ∃ v, gJ g2251 231 12 = v := ⟨_, rfl⟩
                  have tv2298 := congrArg Int64.toInt hv2298
                  refine q_getJv (Sh.long hI2252.1 kx_231 rfl) v2298 hv2298 ?_
                  refine r_ldc2 1000000 rfl ?_
                  refine r_lcmp _ rfl ?_
                  refine r_ifs 289 rfl (fun c2299 => ?_) (fun c2299 => ?_)
                  · have c2299_ : v2298.toInt ≤ 1000000 := en_j_le_t c2299
                    refine At.enter rfl ?_
                    refine r_aload_n e2260 ?_
                    refine q_getJv (Sh.long hI2252.1 kx_231 rfl) v2298 hv2298 ?_
                    refine r_ldc2 10 rfl ?_
                    refine q_lmulO (fun v2300 lv2300 => ?_)
                    have kv2300 := l_mul lv2300
                    have zv2301 : (10 : Int64).toInt = 10 := rfl
                    refine r_aload_n e2260 ?_
                    refine q_getR (Sh.ref hI2252.1 kx_231 rfl) ?_
                    refine r_aload_n e2260 ?_
                    refine q_getI (Sh.int hI2252.1 kx_231 rfl) x2250 e2257 ?_
                    refine q_iald (Sh.arr hI2252.1 ka_236) x2250.toInt rfl (by omega) v2279 ((eA_c (hF2253.2.1 236 (by decide))).trans hv2279) ?_
                    refine q_i2l (fun v2302 hv2302 => ?_)
                    refine q_laddO (fun v2303 lv2303 => ?_)
                    have kv2303 := l_add lv2303
                    refine r_ldc2 48 rfl ?_
                    refine q_lsubO (fun v2304 lv2304 => ?_)
                    have kv2304 := l_sub lv2304
                    have zv2305 : (48 : Int64).toInt = 48 := rfl
                    refine Ar.fall 319 rfl ?_
                    refine At.enter rfl ?_
                    refine q_putJ (Sh.long hI2252.1 kx_231 rfl) rfl ?_
                    have hI2306 := HI.wJ hI2252 kx_231 rfl (p := 231) (b := 12) (v := v2304)
                    have hF2307 := Fr.wJ (p := 231) (b := 12) (v := v2304) hF2253 rfl
                    refine r_aload_n e2260 ?_
                    refine r_dup rfl ?_
                    refine q_getI (Sh.int hI2306.1 kx_231 rfl) x2250 ((gI_sJ_ne (by decide)).trans e2257) ?_
                    refine r_iconst 1 rfl ?_
                    refine q_iadd (x2250.toInt + 1) rfl (by omega) (fun v2308 hv2308 => ?_)
                    refine q_putI (Sh.int hI2306.1 kx_231 rfl) rfl ?_
                    have hI2309 := HI.wI1 hI2306 kx_231 rfl (p := 231) (b := 10) (v := v2308) rfl (by dsimp only; omega)
                    have hF2310 := Fr.wI (p := 231) (b := 10) (v := v2308) hF2307 rfl
                    refine r_goto ?_
                    exact ih2256 (400 - v2308.toInt) _ _ ⟨v2308, by first | rfl | omega, hI2309, hF2310, (gI_sI_eq hI2306.1 kx_231 rfl _), (((gI_sI_ne (by decide)).trans (gI_sJ_ne (by decide))).trans e2258), (((gI_sI_ne (by decide)).trans (gI_sJ_ne (by decide))).trans e2259), e2260, by omega, by omega, by omega, (fun h => absurd h (by omega))⟩ ⟨by omega, by omega⟩
                  · have c2299_ : v2298.toInt > 1000000 := en_j_le_f c2299
                    refine At.enter rfl ?_
                    refine r_aload_n e2260 ?_
                    refine q_getJv (Sh.long hI2252.1 kx_231 rfl) v2298 hv2298 ?_
                    refine r_goto ?_
                    refine At.enter rfl ?_
                    refine q_putJ (Sh.long hI2252.1 kx_231 rfl) rfl ?_
                    have hI2311 := HI.wJ hI2252 kx_231 rfl (p := 231) (b := 12) (v := v2298)
                    have hF2312 := Fr.wJ (p := 231) (b := 12) (v := v2298) hF2253 rfl
                    refine r_aload_n e2260 ?_
                    refine r_dup rfl ?_
                    refine q_getI (Sh.int hI2311.1 kx_231 rfl) x2250 ((gI_sJ_ne (by decide)).trans e2257) ?_
                    refine r_iconst 1 rfl ?_
                    refine q_iadd (x2250.toInt + 1) rfl (by omega) (fun v2313 hv2313 => ?_)
                    refine q_putI (Sh.int hI2311.1 kx_231 rfl) rfl ?_
                    have hI2314 := HI.wI1 hI2311 kx_231 rfl (p := 231) (b := 10) (v := v2313) rfl (by dsimp only; omega)
                    have hF2315 := Fr.wI (p := 231) (b := 10) (v := v2313) hF2312 rfl
                    refine r_goto ?_
                    exact ih2256 (400 - v2313.toInt) _ _ ⟨v2313, by first | rfl | omega, hI2314, hF2315, (gI_sI_eq hI2311.1 kx_231 rfl _), (((gI_sI_ne (by decide)).trans (gI_sJ_ne (by decide))).trans e2258), (((gI_sI_ne (by decide)).trans (gI_sJ_ne (by decide))).trans e2259), e2260, by omega, by omega, by omega, (fun h => absurd h (by omega))⟩ ⟨by omega, by omega⟩
      · have c2190_ : v2189.toInt ≥ 97 := en_i_lt_f c2190
        refine At.enter rfl ?_
        refine r_iload_n rfl ?_
        refine r_bipush 122 rfl ?_
        refine r_ics 12 rfl (fun c2316 => ?_) (fun c2316 => ?_)
        · have c2316_ : v2189.toInt > 122 := en_i_gt_t c2316
          refine At.enter rfl ?_
          refine r_iconst 0 rfl ?_
          refine Ar.fall 17 rfl ?_
          refine At.enter rfl ?_
          refine q_iretz (by decide) ?_
          refine At.enter rfl ?_
          refine r_ift (by decide) ?_
          refine At.enter rfl ?_
          refine r_aload_n e2175 ?_
          refine q_getR (Sh.ref hI2186.1 kx_231 rfl) ?_
          refine r_aload_n e2175 ?_
          refine q_getI (Sh.int hI2186.1 kx_231 rfl) x2167 (((gI_sJ_ne (by decide)).trans (gI_sI_ne (by decide))).trans e2174) ?_
          refine q_iald (Sh.arr hI2186.1 ka_236) x2167.toInt rfl (by omega) v2189 ((eA_c ((gA_sJ).trans ((gA_sI).trans (hF2170.2.1 236 (by decide))))).trans hv2189) ?_
          refine q_inlS 106 rfl [.int v2189] [.ref 231] (Nat.le_of_ble_eq_true rfl) rfl ?_
          refine Ev.mk rfl rfl ⟨Nat.le_of_ble_eq_true rfl, Or.inl rfl⟩ ?_
          show At _ none _ _ (0, [(0, .int v2189)], [], (_, _)) _
          refine At.enter rfl ?_
          refine r_iload_n rfl ?_
          refine r_bipush 48 rfl ?_
          refine r_ics 6 rfl (fun c2317 => ?_) (fun c2317 => ?_)
          · have c2317_ : v2189.toInt < 48 := en_i_lt_t c2317
            exfalso; omega
          · have c2317_ : v2189.toInt ≥ 48 := en_i_lt_f c2317
            refine At.enter rfl ?_
            refine r_iload_n rfl ?_
            refine r_bipush 57 rfl ?_
            refine r_ics 12 rfl (fun c2318 => ?_) (fun c2318 => ?_)
            · have c2318_ : v2189.toInt > 57 := en_i_gt_t c2318
              refine At.enter rfl ?_
              refine r_iconst 0 rfl ?_
              refine Ar.fall 17 rfl ?_
              refine At.enter rfl ?_
              refine q_iretz (by decide) ?_
              refine At.enter rfl ?_
              refine r_ift (by decide) ?_
              refine At.enter rfl ?_
              refine r_iconst 3 rfl ?_
              refine Ar.fall 114 rfl ?_
              refine At.enter rfl ?_
              refine q_putI (Sh.int hI2186.1 kx_231 rfl) rfl ?_
              have hI2319 := HI.wI0 hI2186 kx_231 rfl (p := 231) (b := 11) (v := 3) rfl
              have hF2320 := Fr.wI (p := 231) (b := 11) (v := 3) hF2187 rfl
              refine r_aload_n e2175 ?_
              refine q_getI (Sh.int hI2319.1 kx_231 rfl) 3 (gI_sI_eq hI2186.1 kx_231 rfl _) ?_
              refine r_iconst 3 rfl ?_
              refine r_icf 125 rfl (by decide) ?_
              refine At.enter rfl ?_
              refine r_aload_n e2175 ?_
              refine r_aload_n e2175 ?_
              refine q_getR (Sh.ref hI2319.1 kx_231 rfl) ?_
              refine r_aload_n e2175 ?_
              refine q_getI (Sh.int hI2319.1 kx_231 rfl) x2167 (((gI_sI_ne (by decide)).trans ((gI_sJ_ne (by decide)).trans (gI_sI_ne (by decide)))).trans e2174) ?_
              refine q_iald (Sh.arr hI2319.1 ka_236) x2167.toInt rfl (by omega) v2189 ((eA_c ((gA_sI).trans ((gA_sJ).trans ((gA_sI).trans (hF2170.2.1 236 (by decide)))))).trans hv2189) ?_
              refine q_i2l (fun v2321 hv2321 => ?_)
              refine q_putJ (Sh.long hI2319.1 kx_231 rfl) rfl ?_
              have hI2322 := HI.wJ hI2319 kx_231 rfl (p := 231) (b := 12) (v := v2321)
              have hF2323 := Fr.wJ (p := 231) (b := 12) (v := v2321) hF2320 rfl
              refine r_aload_n e2175 ?_
              refine r_dup rfl ?_
              refine q_getI (Sh.int hI2322.1 kx_231 rfl) x2167 ((gI_sJ_ne (by decide)).trans ((gI_sI_ne (by decide)).trans ((gI_sJ_ne (by decide)).trans (gI_sI_eq hI2169.1 kx_231 rfl _)))) ?_
              refine r_iconst 1 rfl ?_
              refine q_iadd (x2167.toInt + 1) rfl (by omega) (fun v2324 hv2324 => ?_)
              refine q_putI (Sh.int hI2322.1 kx_231 rfl) rfl ?_
              have hI2325 := HI.wI1 hI2322 kx_231 rfl (p := 231) (b := 10) (v := v2324) rfl (by dsimp only; omega)
              have hF2326 := Fr.wI (p := 231) (b := 10) (v := v2324) hF2323 rfl
              refine Ar.fall 149 rfl ?_
              refine At.enter rfl ?_
              refine r_aload_n e2175 ?_
              refine q_getI (Sh.int hI2325.1 kx_231 rfl) 3 ((gI_sI_ne (by decide)).trans ((gI_sJ_ne (by decide)).trans (gI_sI_eq hI2186.1 kx_231 rfl _))) ?_
              refine r_iconst 1 rfl ?_
              refine r_ict (by decide) ?_
              refine At.enter rfl ?_
              refine r_aload_n e2175 ?_
              refine q_getI (Sh.int hI2325.1 kx_231 rfl) 3 ((gI_sI_ne (by decide)).trans ((gI_sJ_ne (by decide)).trans (gI_sI_eq hI2186.1 kx_231 rfl _))) ?_
              refine r_iconst 2 rfl ?_
              refine r_ict (by decide) ?_
              refine At.enter rfl ?_
              refine r_vret ?_
              have x2327 := HI.eqI hI2325 (p := 231) (b := 8) ((((gI_sI_ne (by decide)).trans ((gI_sJ_ne (by decide)).trans ((gI_sI_ne (by decide)).trans ((gI_sJ_ne (by decide)).trans ((gI_sI_ne (by decide)).trans (hF2170.1 231 8 (by decide))))))).trans hv1))
              have x2328 := HI.eqI hI2325 (p := 231) (b := 9) ((((gI_sI_ne (by decide)).trans ((gI_sJ_ne (by decide)).trans ((gI_sI_ne (by decide)).trans ((gI_sJ_ne (by decide)).trans (gI_sI_ne (by decide)))))).trans e2174))
              have x2329 := HI.eqI hI2325 (p := 231) (b := 10) ((gI_sI_eq hI2322.1 kx_231 rfl _))
              have x2330 := HI.eqI hI2325 (p := 231) (b := 11) (((gI_sI_ne (by decide)).trans ((gI_sJ_ne (by decide)).trans (gI_sI_eq hI2186.1 kx_231 rfl _))))
              have zv2331 : (3 : Int32).toInt = 3 := rfl
              have x2332 := HI.eqJ hI2325 (b := 12) (((gJ_sI_ne (by decide)).trans (gJ_sJ_eq hI2319.1 kx_231 rfl _)))
              have x2333 := HI.eqI hI0 (p := 231) (b := 10) (hv2)
              exact ⟨_, rfl, hI2325, hF2326, rfl, ⟨by omega, by omega, by omega, by omega, by omega, by show (gI _ 231 11).toInt = 1 → (gI _ 231 10).toInt ≤ (gI _ 231 9).toInt + 1 → (gJ _ 231 12).toInt ≤ 26; omega⟩⟩
            · have c2318_ : v2189.toInt ≤ 57 := en_i_gt_f c2318
              exfalso; omega
        · have c2316_ : v2189.toInt ≤ 122 := en_i_gt_f c2316
          refine At.enter rfl ?_
          refine r_iconst 1 rfl ?_
          refine r_goto ?_
          refine At.enter rfl ?_
          refine q_iretz (by decide) ?_
          refine At.enter rfl ?_
          refine r_iff 90 rfl (by decide) ?_
          refine At.enter rfl ?_
          refine r_iconst 1 rfl ?_
          refine r_goto ?_
          refine At.enter rfl ?_
          refine q_putI (Sh.int hI2186.1 kx_231 rfl) rfl ?_
          have hI2334 := HI.wI0 hI2186 kx_231 rfl (p := 231) (b := 11) (v := 1) rfl
          have hF2335 := Fr.wI (p := 231) (b := 11) (v := 1) hF2187 rfl
          refine r_aload_n e2175 ?_
          refine q_getI (Sh.int hI2334.1 kx_231 rfl) 1 (gI_sI_eq hI2186.1 kx_231 rfl _) ?_
          refine r_iconst 3 rfl ?_
          refine r_ict (by decide) ?_
          refine w_loopI (fun n_ l_ g_ => ∃ x2362 : Int32, n_ = 400 - x2362.toInt ∧ HI g_ ∧ Fr F_X11_next_231 A_X11_next_231 g0 g_ ∧ gI g_ 231 10 = x2362 ∧ gI g_ 231 9 = x2167 ∧ gI g_ 231 11 = 1 ∧ en_get 0 l_ = some (.ref 231) ∧ (0 ≤ x2362.toInt ∧ x2362.toInt ≤ 400) ∧ (x2167.toInt ≤ x2362.toInt) ∧ (x2362.toInt ≤ (gI g0 231 8).toInt) ∧ ((x2362.toInt ≤ x2167.toInt → (gJ g_ 231 12).toInt = 0)) ∧ ((x2362.toInt ≤ x2167.toInt + 1 → (gJ g_ 231 12).toInt ≤ 26)) ∧ ((x2362.toInt ≤ x2167.toInt → (eA g0 236 x2362.toInt).toInt = v2189.toInt))) ?_ (400 - x2167.toInt) ⟨x2167, by first | rfl | omega, hI2334, hF2335, ((gI_sI_ne (by decide)).trans ((gI_sJ_ne (by decide)).trans (gI_sI_eq hI2169.1 kx_231 rfl _))), (((gI_sI_ne (by decide)).trans ((gI_sJ_ne (by decide)).trans (gI_sI_ne (by decide)))).trans e2174), (gI_sI_eq hI2186.1 kx_231 rfl _), e2175, by omega, by omega, by omega, (by have jw := HI.eqJ hI2334 (b := 12) (((gJ_sI_ne (by decide)).trans (gJ_sJ_eq hI2184.1 kx_231 rfl _))); have jz : (0 : Int64).toInt = 0 := rfl; omega), (by have jw := HI.eqJ hI2334 (b := 12) (((gJ_sI_ne (by decide)).trans (gJ_sJ_eq hI2184.1 kx_231 rfl _))); have jz : (0 : Int64).toInt = 0 := rfl; omega), (fun _ => congrArg Int32.toInt hv2189)⟩
          rintro n2367 l2366 g2363 ⟨x2362, hm2379, hI2364, hF2365, e2369, e2370, e2371, e2372, r2373, q2374, q2375, q2376, q2377, q2378⟩ ih2368
          have tv2380 := congrArg Int32.toInt e2370
          have tv2381 := congrArg Int32.toInt e2371
          have tv2382 := congrArg Int32.toInt e2369
          refine At.enter rfl ?_
          refine r_aload_n e2372 ?_
          refine q_getI (Sh.int hI2364.1 kx_231 rfl) 1 e2371 ?_
          refine r_iconst 1 rfl ?_
          refine r_icf 157 rfl (by decide) ?_
          refine At.enter rfl ?_
          refine r_aload_n e2372 ?_
          refine q_getI (Sh.int hI2364.1 kx_231 rfl) x2362 e2369 ?_
          refine r_aload_n e2372 ?_
          refine q_getI (Sh.int hI2364.1 kx_231 rfl) v1 ((hF2365.1 231 8 (by decide)).trans hv1) ?_
          have bv2384 := q_bnd x2362
          refine r_ics 168 rfl (fun c2383 => ?_) (fun c2383 => ?_)
          · have c2383_ : x2362.toInt ≥ v1.toInt := en_i_ge_t c2383
            refine At.enter rfl ?_
            refine r_aload_n e2372 ?_
            refine q_getI (Sh.int hI2364.1 kx_231 rfl) 1 e2371 ?_
            refine r_iconst 2 rfl ?_
            refine r_ict (by decide) ?_
            refine At.enter rfl ?_
            refine r_vret ?_
            have x2385 := HI.eqI hI2364 (p := 231) (b := 8) (((hF2365.1 231 8 (by decide)).trans hv1))
            have x2386 := HI.eqI hI2364 (p := 231) (b := 9) (e2370)
            have x2387 := HI.eqI hI2364 (p := 231) (b := 10) (e2369)
            have x2388 := HI.eqI hI2364 (p := 231) (b := 11) (e2371)
            have zv2389 : (1 : Int32).toInt = 1 := rfl
            obtain ⟨v2390, hv2390⟩ : ∃ v, gJ g2363 231 12 = v := ⟨_, rfl⟩
            have tv2390 := congrArg Int64.toInt hv2390
            have x2391 := HI.eqJ hI2364 (b := 12) (hv2390)
            have x2392 := HI.eqI hI0 (p := 231) (b := 10) (hv2)
            exact ⟨_, rfl, hI2364, hF2365, rfl, ⟨by omega, by omega, by omega, by omega, by omega, by show (gI _ 231 11).toInt = 1 → (gI _ 231 10).toInt ≤ (gI _ 231 9).toInt + 1 → (gJ _ 231 12).toInt ≤ 26; omega⟩⟩
          · have c2383_ : x2362.toInt < v1.toInt := en_i_ge_f c2383
            refine At.enter rfl ?_
            refine r_aload_n e2372 ?_
            refine q_getR (Sh.ref hI2364.1 kx_231 rfl) ?_
            refine r_aload_n e2372 ?_
            refine q_getI (Sh.int hI2364.1 kx_231 rfl) x2362 e2369 ?_
            obtain ⟨v2393, hv2393⟩ : ∃ v, eA g0 236 x2362.toInt = v := ⟨_, rfl⟩
            have tv2393 := congrArg Int32.toInt hv2393
            refine q_iald (Sh.arr hI2364.1 ka_236) x2362.toInt rfl (by omega) v2393 ((eA_c (hF2365.2.1 236 (by decide))).trans hv2393) ?_
            refine q_inlS 180 rfl [.int v2393] [] (Nat.le_of_ble_eq_true rfl) rfl ?_
            refine Ev.mk rfl rfl ⟨Nat.le_of_ble_eq_true rfl, Or.inl rfl⟩ ?_
            show At _ none _ _ (0, [(0, .int v2393)], [], (_, _)) _
            refine At.enter rfl ?_
            refine r_iload_n rfl ?_
            refine r_bipush 97 rfl ?_
            refine r_ics 6 rfl (fun c2394 => ?_) (fun c2394 => ?_)
            · have c2394_ : v2393.toInt < 97 := en_i_lt_t c2394
              refine At.enter rfl ?_
              refine r_iconst 0 rfl ?_
              refine Ar.fall 17 rfl ?_
              refine At.enter rfl ?_
              refine q_iretz (by decide) ?_
              refine At.enter rfl ?_
              refine r_ift (by decide) ?_
              refine At.enter rfl ?_
              refine r_aload_n e2372 ?_
              refine q_getI (Sh.int hI2364.1 kx_231 rfl) 1 e2371 ?_
              refine r_iconst 2 rfl ?_
              refine r_ict (by decide) ?_
              refine At.enter rfl ?_
              refine r_vret ?_
              have x2395 := HI.eqI hI2364 (p := 231) (b := 8) (((hF2365.1 231 8 (by decide)).trans hv1))
              have x2396 := HI.eqI hI2364 (p := 231) (b := 9) (e2370)
              have x2397 := HI.eqI hI2364 (p := 231) (b := 10) (e2369)
              have x2398 := HI.eqI hI2364 (p := 231) (b := 11) (e2371)
              have zv2399 : (1 : Int32).toInt = 1 := rfl
              obtain ⟨v2400, hv2400⟩ : ∃ v, gJ g2363 231 12 = v := ⟨_, rfl⟩
              have tv2400 := congrArg Int64.toInt hv2400
              have x2401 := HI.eqJ hI2364 (b := 12) (hv2400)
              have x2402 := HI.eqI hI0 (p := 231) (b := 10) (hv2)
              exact ⟨_, rfl, hI2364, hF2365, rfl, ⟨by omega, by omega, by omega, by omega, by omega, by show (gI _ 231 11).toInt = 1 → (gI _ 231 10).toInt ≤ (gI _ 231 9).toInt + 1 → (gJ _ 231 12).toInt ≤ 26; omega⟩⟩
            · have c2394_ : v2393.toInt ≥ 97 := en_i_lt_f c2394
              refine At.enter rfl ?_
              refine r_iload_n rfl ?_
              refine r_bipush 122 rfl ?_
              refine r_ics 12 rfl (fun c2403 => ?_) (fun c2403 => ?_)
              · have c2403_ : v2393.toInt > 122 := en_i_gt_t c2403
                refine At.enter rfl ?_
                refine r_iconst 0 rfl ?_
                refine Ar.fall 17 rfl ?_
                refine At.enter rfl ?_
                refine q_iretz (by decide) ?_
                refine At.enter rfl ?_
                refine r_ift (by decide) ?_
                refine At.enter rfl ?_
                refine r_aload_n e2372 ?_
                refine q_getI (Sh.int hI2364.1 kx_231 rfl) 1 e2371 ?_
                refine r_iconst 2 rfl ?_
                refine r_ict (by decide) ?_
                refine At.enter rfl ?_
                refine r_vret ?_
                have x2404 := HI.eqI hI2364 (p := 231) (b := 8) (((hF2365.1 231 8 (by decide)).trans hv1))
                have x2405 := HI.eqI hI2364 (p := 231) (b := 9) (e2370)
                have x2406 := HI.eqI hI2364 (p := 231) (b := 10) (e2369)
                have x2407 := HI.eqI hI2364 (p := 231) (b := 11) (e2371)
                have zv2408 : (1 : Int32).toInt = 1 := rfl
                obtain ⟨v2409, hv2409⟩ : ∃ v, gJ g2363 231 12 = v := ⟨_, rfl⟩
                have tv2409 := congrArg Int64.toInt hv2409
                have x2410 := HI.eqJ hI2364 (b := 12) (hv2409)
                have x2411 := HI.eqI hI0 (p := 231) (b := 10) (hv2)
                exact ⟨_, rfl, hI2364, hF2365, rfl, ⟨by omega, by omega, by omega, by omega, by omega, by show (gI _ 231 11).toInt = 1 → (gI _ 231 10).toInt ≤ (gI _ 231 9).toInt + 1 → (gJ _ 231 12).toInt ≤ 26; omega⟩⟩
              · have c2403_ : v2393.toInt ≤ 122 := en_i_gt_f c2403
                refine At.enter rfl ?_
                refine r_iconst 1 rfl ?_
                refine r_goto ?_
                refine At.enter rfl ?_
                refine q_iretz (by decide) ?_
                refine At.enter rfl ?_
                refine r_iff 183 rfl (by decide) ?_
                refine At.enter rfl ?_
                refine r_aload_n e2372 ?_
                refine r_aload_n e2372 ?_
                refine q_getI (Sh.int hI2364.1 kx_231 rfl) x2362 e2369 ?_
                refine r_aload_n e2372 ?_
                refine q_getI (Sh.int hI2364.1 kx_231 rfl) x2167 e2370 ?_
                refine q_isub (x2362.toInt - x2167.toInt) rfl (by omega) (fun v2412 hv2412 => ?_)
                refine r_bipush 10 rfl ?_
                refine r_ics 198 rfl (fun c2413 => ?_) (fun c2413 => ?_)
                · have c2413_ : v2412.toInt ≥ 10 := en_i_ge_t c2413
                  refine At.enter rfl ?_
                  refine r_ldc2 (-1) rfl ?_
                  refine Ar.fall 227 rfl ?_
                  refine At.enter rfl ?_
                  refine q_putJ (Sh.long hI2364.1 kx_231 rfl) rfl ?_
                  have hI2414 := HI.wJ hI2364 kx_231 rfl (p := 231) (b := 12) (v := (-1))
                  have hF2415 := Fr.wJ (p := 231) (b := 12) (v := (-1)) hF2365 rfl
                  refine r_aload_n e2372 ?_
                  refine r_dup rfl ?_
                  refine q_getI (Sh.int hI2414.1 kx_231 rfl) x2362 ((gI_sJ_ne (by decide)).trans e2369) ?_
                  refine r_iconst 1 rfl ?_
                  refine q_iadd (x2362.toInt + 1) rfl (by omega) (fun v2416 hv2416 => ?_)
                  refine q_putI (Sh.int hI2414.1 kx_231 rfl) rfl ?_
                  have hI2417 := HI.wI1 hI2414 kx_231 rfl (p := 231) (b := 10) (v := v2416) rfl (by dsimp only; omega)
                  have hF2418 := Fr.wI (p := 231) (b := 10) (v := v2416) hF2415 rfl
                  refine r_goto ?_
                  exact ih2368 (400 - v2416.toInt) _ _ ⟨v2416, by first | rfl | omega, hI2417, hF2418, (gI_sI_eq hI2414.1 kx_231 rfl _), (((gI_sI_ne (by decide)).trans (gI_sJ_ne (by decide))).trans e2370), (((gI_sI_ne (by decide)).trans (gI_sJ_ne (by decide))).trans e2371), e2372, by omega, by omega, by omega, (by have jw := HI.eqJ hI2417 (b := 12) (((gJ_sI_ne (by decide)).trans (gJ_sJ_eq hI2364.1 kx_231 rfl _))); have jz : ((-1) : Int64).toInt = (-1) := rfl; omega), (by have jw := HI.eqJ hI2417 (b := 12) (((gJ_sI_ne (by decide)).trans (gJ_sJ_eq hI2364.1 kx_231 rfl _))); have jz : ((-1) : Int64).toInt = (-1) := rfl; omega), (fun h => absurd h (by omega))⟩ ⟨by omega, by omega⟩
                · have c2413_ : v2412.toInt < 10 := en_i_ge_f c2413
                  refine At.enter rfl ?_
                  refine r_aload_n e2372 ?_
                  obtain ⟨v2419, hv2419⟩ : ∃ v, gJ g2363 231 12 = v := ⟨_, rfl⟩
                  have tv2419 := congrArg Int64.toInt hv2419
                  refine q_getJv (Sh.long hI2364.1 kx_231 rfl) v2419 hv2419 ?_
                  refine r_ldc2 32 rfl ?_
                  refine q_lmulO (fun v2420 lv2420 => ?_)
                  have kv2420 := l_mul lv2420
                  have zv2421 : (32 : Int64).toInt = 32 := rfl
                  refine r_aload_n e2372 ?_
                  refine q_getR (Sh.ref hI2364.1 kx_231 rfl) ?_
                  refine r_aload_n e2372 ?_
                  refine q_getI (Sh.int hI2364.1 kx_231 rfl) x2362 e2369 ?_
                  refine q_iald (Sh.arr hI2364.1 ka_236) x2362.toInt rfl (by omega) v2393 ((eA_c (hF2365.2.1 236 (by decide))).trans hv2393) ?_
                  refine q_i2l (fun v2422 hv2422 => ?_)
                  refine q_laddO (fun v2423 lv2423 => ?_)
                  have kv2423 := l_add lv2423
                  refine r_ldc2 96 rfl ?_
                  refine q_lsubO (fun v2424 lv2424 => ?_)
                  have kv2424 := l_sub lv2424
                  have zv2425 : (96 : Int64).toInt = 96 := rfl
                  refine r_goto ?_
                  refine At.enter rfl ?_
                  refine q_putJ (Sh.long hI2364.1 kx_231 rfl) rfl ?_
                  have hI2426 := HI.wJ hI2364 kx_231 rfl (p := 231) (b := 12) (v := v2424)
                  have hF2427 := Fr.wJ (p := 231) (b := 12) (v := v2424) hF2365 rfl
                  refine r_aload_n e2372 ?_
                  refine r_dup rfl ?_
                  refine q_getI (Sh.int hI2426.1 kx_231 rfl) x2362 ((gI_sJ_ne (by decide)).trans e2369) ?_
                  refine r_iconst 1 rfl ?_
                  refine q_iadd (x2362.toInt + 1) rfl (by omega) (fun v2428 hv2428 => ?_)
                  refine q_putI (Sh.int hI2426.1 kx_231 rfl) rfl ?_
                  have hI2429 := HI.wI1 hI2426 kx_231 rfl (p := 231) (b := 10) (v := v2428) rfl (by dsimp only; omega)
                  have hF2430 := Fr.wI (p := 231) (b := 10) (v := v2428) hF2427 rfl
                  refine r_goto ?_
                  exact ih2368 (400 - v2428.toInt) _ _ ⟨v2428, by first | rfl | omega, hI2429, hF2430, (gI_sI_eq hI2426.1 kx_231 rfl _), (((gI_sI_ne (by decide)).trans (gI_sJ_ne (by decide))).trans e2370), (((gI_sI_ne (by decide)).trans (gI_sJ_ne (by decide))).trans e2371), e2372, by omega, by omega, by omega, (by have jw := HI.eqJ hI2429 (b := 12) (((gJ_sI_ne (by decide)).trans (gJ_sJ_eq hI2364.1 kx_231 rfl _))); omega), (by have jw := HI.eqJ hI2429 (b := 12) (((gJ_sI_ne (by decide)).trans (gJ_sJ_eq hI2364.1 kx_231 rfl _))); omega), (fun h => absurd h (by omega))⟩ ⟨by omega, by omega⟩
    · have c2188_ : x2167.toInt = v1.toInt := en_i_ne_f c2188
      refine At.enter rfl ?_
      refine r_iconst 0 rfl ?_
      refine r_goto ?_
      refine At.enter rfl ?_
      refine q_putI (Sh.int hI2186.1 kx_231 rfl) rfl ?_
      have hI2431 := HI.wI0 hI2186 kx_231 rfl (p := 231) (b := 11) (v := 0) rfl
      have hF2432 := Fr.wI (p := 231) (b := 11) (v := 0) hF2187 rfl
      refine r_aload_n e2175 ?_
      refine q_getI (Sh.int hI2431.1 kx_231 rfl) 0 (gI_sI_eq hI2186.1 kx_231 rfl _) ?_
      refine r_iconst 3 rfl ?_
      refine r_ict (by decide) ?_
      refine At.enter rfl ?_
      refine r_aload_n e2175 ?_
      refine q_getI (Sh.int hI2431.1 kx_231 rfl) 0 (gI_sI_eq hI2186.1 kx_231 rfl _) ?_
      refine r_iconst 1 rfl ?_
      refine r_ict (by decide) ?_
      refine At.enter rfl ?_
      refine r_aload_n e2175 ?_
      refine q_getI (Sh.int hI2431.1 kx_231 rfl) 0 (gI_sI_eq hI2186.1 kx_231 rfl _) ?_
      refine r_iconst 2 rfl ?_
      refine r_ict (by decide) ?_
      refine At.enter rfl ?_
      refine r_vret ?_
      have x2433 := HI.eqI hI2431 (p := 231) (b := 8) ((((gI_sI_ne (by decide)).trans ((gI_sJ_ne (by decide)).trans ((gI_sI_ne (by decide)).trans (hF2170.1 231 8 (by decide))))).trans hv1))
      have x2434 := HI.eqI hI2431 (p := 231) (b := 9) ((((gI_sI_ne (by decide)).trans ((gI_sJ_ne (by decide)).trans (gI_sI_ne (by decide)))).trans e2174))
      have x2435 := HI.eqI hI2431 (p := 231) (b := 10) (((gI_sI_ne (by decide)).trans ((gI_sJ_ne (by decide)).trans (gI_sI_eq hI2169.1 kx_231 rfl _))))
      have x2436 := HI.eqI hI2431 (p := 231) (b := 11) ((gI_sI_eq hI2186.1 kx_231 rfl _))
      have zv2437 : (0 : Int32).toInt = 0 := rfl
      have x2438 := HI.eqJ hI2431 (b := 12) (((gJ_sI_ne (by decide)).trans (gJ_sJ_eq hI2184.1 kx_231 rfl _)))
      have zv2439 : (0 : Int64).toInt = 0 := rfl
      have x2440 := HI.eqI hI0 (p := 231) (b := 10) (hv2)
      exact ⟨_, rfl, hI2431, hF2432, rfl, ⟨by omega, by omega, by omega, by omega, by omega, by show (gI _ 231 11).toInt = 1 → (gI _ 231 10).toInt ≤ (gI _ 231 9).toInt + 1 → (gJ _ 231 12).toInt ≤ 26; omega⟩⟩
  · have c2181_ : x2167.toInt < v1.toInt := en_i_ge_f c2181
    refine At.enter rfl ?_
    refine r_aload_n e2175 ?_
    refine q_getR (Sh.ref hI2169.1 kx_231 rfl) ?_
    refine r_aload_n e2175 ?_
    refine q_getI (Sh.int hI2169.1 kx_231 rfl) x2167 e2174 ?_
    obtain ⟨v2441, hv2441⟩ : ∃ v, eA g0 236 x2167.toInt = v := ⟨_, rfl⟩
    have tv2441 := congrArg Int32.toInt hv2441
    refine q_iald (Sh.arr hI2169.1 ka_236) x2167.toInt rfl (by omega) v2441 ((eA_c (hF2170.2.1 236 (by decide))).trans hv2441) ?_
    refine r_bipush 32 rfl ?_
    refine r_ics 33 rfl (fun c2442 => ?_) (fun c2442 => ?_)
    · have c2442_ : v2441.toInt ≠ 32 := en_i_ne_t c2442
      refine At.enter rfl ?_
      refine r_aload_n e2175 ?_
      refine r_aload_n e2175 ?_
      refine q_getI (Sh.int hI2169.1 kx_231 rfl) x2167 e2174 ?_
      refine q_putI (Sh.int hI2169.1 kx_231 rfl) rfl ?_
      have hI2443 := HI.wI1 hI2169 kx_231 rfl (p := 231) (b := 10) (v := x2167) rfl (by dsimp only; omega)
      have hF2444 := Fr.wI (p := 231) (b := 10) (v := x2167) hF2170 rfl
      refine r_aload_n e2175 ?_
      refine r_lconst 0 rfl ?_
      refine q_putJ (Sh.long hI2443.1 kx_231 rfl) rfl ?_
      have hI2445 := HI.wJ hI2443 kx_231 rfl (p := 231) (b := 12) (v := 0)
      have hF2446 := Fr.wJ (p := 231) (b := 12) (v := 0) hF2444 rfl
      refine r_aload_n e2175 ?_
      refine r_aload_n e2175 ?_
      refine q_getI (Sh.int hI2445.1 kx_231 rfl) x2167 (((gI_sJ_ne (by decide)).trans (gI_sI_ne (by decide))).trans e2174) ?_
      refine r_aload_n e2175 ?_
      refine q_getI (Sh.int hI2445.1 kx_231 rfl) v1 (((gI_sJ_ne (by decide)).trans ((gI_sI_ne (by decide)).trans (hF2170.1 231 8 (by decide)))).trans hv1) ?_
      refine r_ics 71 rfl (fun c2447 => ?_) (fun c2447 => ?_)
      · have c2447_ : x2167.toInt ≠ v1.toInt := en_i_ne_t c2447
        refine At.enter rfl ?_
        refine r_aload_n e2175 ?_
        refine q_getR (Sh.ref hI2445.1 kx_231 rfl) ?_
        refine r_aload_n e2175 ?_
        refine q_getI (Sh.int hI2445.1 kx_231 rfl) x2167 (((gI_sJ_ne (by decide)).trans (gI_sI_ne (by decide))).trans e2174) ?_
        refine q_iald (Sh.arr hI2445.1 ka_236) x2167.toInt rfl (by omega) v2441 ((eA_c ((gA_sJ).trans ((gA_sI).trans (hF2170.2.1 236 (by decide))))).trans hv2441) ?_
        refine q_inlS 87 rfl [.int v2441] [.ref 231] (Nat.le_of_ble_eq_true rfl) rfl ?_
        refine Ev.mk rfl rfl ⟨Nat.le_of_ble_eq_true rfl, Or.inl rfl⟩ ?_
        show At _ none _ _ (0, [(0, .int v2441)], [], (_, _)) _
        refine At.enter rfl ?_
        refine r_iload_n rfl ?_
        refine r_bipush 97 rfl ?_
        refine r_ics 6 rfl (fun c2448 => ?_) (fun c2448 => ?_)
        · have c2448_ : v2441.toInt < 97 := en_i_lt_t c2448
          refine At.enter rfl ?_
          refine r_iconst 0 rfl ?_
          refine Ar.fall 17 rfl ?_
          refine At.enter rfl ?_
          refine q_iretz (by decide) ?_
          refine At.enter rfl ?_
          refine r_ift (by decide) ?_
          refine At.enter rfl ?_
          refine r_aload_n e2175 ?_
          refine q_getR (Sh.ref hI2445.1 kx_231 rfl) ?_
          refine r_aload_n e2175 ?_
          refine q_getI (Sh.int hI2445.1 kx_231 rfl) x2167 (((gI_sJ_ne (by decide)).trans (gI_sI_ne (by decide))).trans e2174) ?_
          refine q_iald (Sh.arr hI2445.1 ka_236) x2167.toInt rfl (by omega) v2441 ((eA_c ((gA_sJ).trans ((gA_sI).trans (hF2170.2.1 236 (by decide))))).trans hv2441) ?_
          refine q_inlS 106 rfl [.int v2441] [.ref 231] (Nat.le_of_ble_eq_true rfl) rfl ?_
          refine Ev.mk rfl rfl ⟨Nat.le_of_ble_eq_true rfl, Or.inl rfl⟩ ?_
          show At _ none _ _ (0, [(0, .int v2441)], [], (_, _)) _
          refine At.enter rfl ?_
          refine r_iload_n rfl ?_
          refine r_bipush 48 rfl ?_
          refine r_ics 6 rfl (fun c2449 => ?_) (fun c2449 => ?_)
          · have c2449_ : v2441.toInt < 48 := en_i_lt_t c2449
            refine At.enter rfl ?_
            refine r_iconst 0 rfl ?_
            refine Ar.fall 17 rfl ?_
            refine At.enter rfl ?_
            refine q_iretz (by decide) ?_
            refine At.enter rfl ?_
            refine r_ift (by decide) ?_
            refine At.enter rfl ?_
            refine r_iconst 3 rfl ?_
            refine Ar.fall 114 rfl ?_
            refine At.enter rfl ?_
            refine q_putI (Sh.int hI2445.1 kx_231 rfl) rfl ?_
            have hI2450 := HI.wI0 hI2445 kx_231 rfl (p := 231) (b := 11) (v := 3) rfl
            have hF2451 := Fr.wI (p := 231) (b := 11) (v := 3) hF2446 rfl
            refine r_aload_n e2175 ?_
            refine q_getI (Sh.int hI2450.1 kx_231 rfl) 3 (gI_sI_eq hI2445.1 kx_231 rfl _) ?_
            refine r_iconst 3 rfl ?_
            refine r_icf 125 rfl (by decide) ?_
            refine At.enter rfl ?_
            refine r_aload_n e2175 ?_
            refine r_aload_n e2175 ?_
            refine q_getR (Sh.ref hI2450.1 kx_231 rfl) ?_
            refine r_aload_n e2175 ?_
            refine q_getI (Sh.int hI2450.1 kx_231 rfl) x2167 (((gI_sI_ne (by decide)).trans ((gI_sJ_ne (by decide)).trans (gI_sI_ne (by decide)))).trans e2174) ?_
            refine q_iald (Sh.arr hI2450.1 ka_236) x2167.toInt rfl (by omega) v2441 ((eA_c ((gA_sI).trans ((gA_sJ).trans ((gA_sI).trans (hF2170.2.1 236 (by decide)))))).trans hv2441) ?_
            refine q_i2l (fun v2452 hv2452 => ?_)
            refine q_putJ (Sh.long hI2450.1 kx_231 rfl) rfl ?_
            have hI2453 := HI.wJ hI2450 kx_231 rfl (p := 231) (b := 12) (v := v2452)
            have hF2454 := Fr.wJ (p := 231) (b := 12) (v := v2452) hF2451 rfl
            refine r_aload_n e2175 ?_
            refine r_dup rfl ?_
            refine q_getI (Sh.int hI2453.1 kx_231 rfl) x2167 ((gI_sJ_ne (by decide)).trans ((gI_sI_ne (by decide)).trans ((gI_sJ_ne (by decide)).trans (gI_sI_eq hI2169.1 kx_231 rfl _)))) ?_
            refine r_iconst 1 rfl ?_
            refine q_iadd (x2167.toInt + 1) rfl (by omega) (fun v2455 hv2455 => ?_)
            refine q_putI (Sh.int hI2453.1 kx_231 rfl) rfl ?_
            have hI2456 := HI.wI1 hI2453 kx_231 rfl (p := 231) (b := 10) (v := v2455) rfl (by dsimp only; omega)
            have hF2457 := Fr.wI (p := 231) (b := 10) (v := v2455) hF2454 rfl
            refine Ar.fall 149 rfl ?_
            refine At.enter rfl ?_
            refine r_aload_n e2175 ?_
            refine q_getI (Sh.int hI2456.1 kx_231 rfl) 3 ((gI_sI_ne (by decide)).trans ((gI_sJ_ne (by decide)).trans (gI_sI_eq hI2445.1 kx_231 rfl _))) ?_
            refine r_iconst 1 rfl ?_
            refine r_ict (by decide) ?_
            refine At.enter rfl ?_
            refine r_aload_n e2175 ?_
            refine q_getI (Sh.int hI2456.1 kx_231 rfl) 3 ((gI_sI_ne (by decide)).trans ((gI_sJ_ne (by decide)).trans (gI_sI_eq hI2445.1 kx_231 rfl _))) ?_
            refine r_iconst 2 rfl ?_
            refine r_ict (by decide) ?_
            refine At.enter rfl ?_
            refine r_vret ?_
            have x2458 := HI.eqI hI2456 (p := 231) (b := 8) ((((gI_sI_ne (by decide)).trans ((gI_sJ_ne (by decide)).trans ((gI_sI_ne (by decide)).trans ((gI_sJ_ne (by decide)).trans ((gI_sI_ne (by decide)).trans (hF2170.1 231 8 (by decide))))))).trans hv1))
            have x2459 := HI.eqI hI2456 (p := 231) (b := 9) ((((gI_sI_ne (by decide)).trans ((gI_sJ_ne (by decide)).trans ((gI_sI_ne (by decide)).trans ((gI_sJ_ne (by decide)).trans (gI_sI_ne (by decide)))))).trans e2174))
            have x2460 := HI.eqI hI2456 (p := 231) (b := 10) ((gI_sI_eq hI2453.1 kx_231 rfl _))
            have x2461 := HI.eqI hI2456 (p := 231) (b := 11) (((gI_sI_ne (by decide)).trans ((gI_sJ_ne (by decide)).trans (gI_sI_eq hI2445.1 kx_231 rfl _))))
            have zv2462 : (3 : Int32).toInt = 3 := rfl
            have x2463 := HI.eqJ hI2456 (b := 12) (((gJ_sI_ne (by decide)).trans (gJ_sJ_eq hI2450.1 kx_231 rfl _)))
            have x2464 := HI.eqI hI0 (p := 231) (b := 10) (hv2)
            exact ⟨_, rfl, hI2456, hF2457, rfl, ⟨by omega, by omega, by omega, by omega, by omega, by show (gI _ 231 11).toInt = 1 → (gI _ 231 10).toInt ≤ (gI _ 231 9).toInt + 1 → (gJ _ 231 12).toInt ≤ 26; omega⟩⟩
          · have c2449_ : v2441.toInt ≥ 48 := en_i_lt_f c2449
            refine At.enter rfl ?_
            refine r_iload_n rfl ?_
            refine r_bipush 57 rfl ?_
            refine r_ics 12 rfl (fun c2465 => ?_) (fun c2465 => ?_)
            · have c2465_ : v2441.toInt > 57 := en_i_gt_t c2465
              refine At.enter rfl ?_
              refine r_iconst 0 rfl ?_
              refine Ar.fall 17 rfl ?_
              refine At.enter rfl ?_
              refine q_iretz (by decide) ?_
              refine At.enter rfl ?_
              refine r_ift (by decide) ?_
              refine At.enter rfl ?_
              refine r_iconst 3 rfl ?_
              refine Ar.fall 114 rfl ?_
              refine At.enter rfl ?_
              refine q_putI (Sh.int hI2445.1 kx_231 rfl) rfl ?_
              have hI2466 := HI.wI0 hI2445 kx_231 rfl (p := 231) (b := 11) (v := 3) rfl
              have hF2467 := Fr.wI (p := 231) (b := 11) (v := 3) hF2446 rfl
              refine r_aload_n e2175 ?_
              refine q_getI (Sh.int hI2466.1 kx_231 rfl) 3 (gI_sI_eq hI2445.1 kx_231 rfl _) ?_
              refine r_iconst 3 rfl ?_
              refine r_icf 125 rfl (by decide) ?_
              refine At.enter rfl ?_
              refine r_aload_n e2175 ?_
              refine r_aload_n e2175 ?_
              refine q_getR (Sh.ref hI2466.1 kx_231 rfl) ?_
              refine r_aload_n e2175 ?_
              refine q_getI (Sh.int hI2466.1 kx_231 rfl) x2167 (((gI_sI_ne (by decide)).trans ((gI_sJ_ne (by decide)).trans (gI_sI_ne (by decide)))).trans e2174) ?_
              refine q_iald (Sh.arr hI2466.1 ka_236) x2167.toInt rfl (by omega) v2441 ((eA_c ((gA_sI).trans ((gA_sJ).trans ((gA_sI).trans (hF2170.2.1 236 (by decide)))))).trans hv2441) ?_
              refine q_i2l (fun v2468 hv2468 => ?_)
              refine q_putJ (Sh.long hI2466.1 kx_231 rfl) rfl ?_
              have hI2469 := HI.wJ hI2466 kx_231 rfl (p := 231) (b := 12) (v := v2468)
              have hF2470 := Fr.wJ (p := 231) (b := 12) (v := v2468) hF2467 rfl
              refine r_aload_n e2175 ?_
              refine r_dup rfl ?_
              refine q_getI (Sh.int hI2469.1 kx_231 rfl) x2167 ((gI_sJ_ne (by decide)).trans ((gI_sI_ne (by decide)).trans ((gI_sJ_ne (by decide)).trans (gI_sI_eq hI2169.1 kx_231 rfl _)))) ?_
              refine r_iconst 1 rfl ?_
              refine q_iadd (x2167.toInt + 1) rfl (by omega) (fun v2471 hv2471 => ?_)
              refine q_putI (Sh.int hI2469.1 kx_231 rfl) rfl ?_
              have hI2472 := HI.wI1 hI2469 kx_231 rfl (p := 231) (b := 10) (v := v2471) rfl (by dsimp only; omega)
              have hF2473 := Fr.wI (p := 231) (b := 10) (v := v2471) hF2470 rfl
              refine Ar.fall 149 rfl ?_
              refine At.enter rfl ?_
              refine r_aload_n e2175 ?_
              refine q_getI (Sh.int hI2472.1 kx_231 rfl) 3 ((gI_sI_ne (by decide)).trans ((gI_sJ_ne (by decide)).trans (gI_sI_eq hI2445.1 kx_231 rfl _))) ?_
              refine r_iconst 1 rfl ?_
              refine r_ict (by decide) ?_
              refine At.enter rfl ?_
              refine r_aload_n e2175 ?_
              refine q_getI (Sh.int hI2472.1 kx_231 rfl) 3 ((gI_sI_ne (by decide)).trans ((gI_sJ_ne (by decide)).trans (gI_sI_eq hI2445.1 kx_231 rfl _))) ?_
              refine r_iconst 2 rfl ?_
              refine r_ict (by decide) ?_
              refine At.enter rfl ?_
              refine r_vret ?_
              have x2474 := HI.eqI hI2472 (p := 231) (b := 8) ((((gI_sI_ne (by decide)).trans ((gI_sJ_ne (by decide)).trans ((gI_sI_ne (by decide)).trans ((gI_sJ_ne (by decide)).trans ((gI_sI_ne (by decide)).trans (hF2170.1 231 8 (by decide))))))).trans hv1))
              have x2475 := HI.eqI hI2472 (p := 231) (b := 9) ((((gI_sI_ne (by decide)).trans ((gI_sJ_ne (by decide)).trans ((gI_sI_ne (by decide)).trans ((gI_sJ_ne (by decide)).trans (gI_sI_ne (by decide)))))).trans e2174))
              have x2476 := HI.eqI hI2472 (p := 231) (b := 10) ((gI_sI_eq hI2469.1 kx_231 rfl _))
              have x2477 := HI.eqI hI2472 (p := 231) (b := 11) (((gI_sI_ne (by decide)).trans ((gI_sJ_ne (by decide)).trans (gI_sI_eq hI2445.1 kx_231 rfl _))))
              have zv2478 : (3 : Int32).toInt = 3 := rfl
              have x2479 := HI.eqJ hI2472 (b := 12) (((gJ_sI_ne (by decide)).trans (gJ_sJ_eq hI2466.1 kx_231 rfl _)))
              have x2480 := HI.eqI hI0 (p := 231) (b := 10) (hv2)
              exact ⟨_, rfl, hI2472, hF2473, rfl, ⟨by omega, by omega, by omega, by omega, by omega, by show (gI _ 231 11).toInt = 1 → (gI _ 231 10).toInt ≤ (gI _ 231 9).toInt + 1 → (gJ _ 231 12).toInt ≤ 26; omega⟩⟩
            · have c2465_ : v2441.toInt ≤ 57 := en_i_gt_f c2465
              refine At.enter rfl ?_
              refine r_iconst 1 rfl ?_
              refine r_goto ?_
              refine At.enter rfl ?_
              refine q_iretz (by decide) ?_
              refine At.enter rfl ?_
              refine r_iff 109 rfl (by decide) ?_
              refine At.enter rfl ?_
              refine r_iconst 2 rfl ?_
              refine r_goto ?_
              refine At.enter rfl ?_
              refine q_putI (Sh.int hI2445.1 kx_231 rfl) rfl ?_
              have hI2481 := HI.wI0 hI2445 kx_231 rfl (p := 231) (b := 11) (v := 2) rfl
              have hF2482 := Fr.wI (p := 231) (b := 11) (v := 2) hF2446 rfl
              refine r_aload_n e2175 ?_
              refine q_getI (Sh.int hI2481.1 kx_231 rfl) 2 (gI_sI_eq hI2445.1 kx_231 rfl _) ?_
              refine r_iconst 3 rfl ?_
              refine r_ict (by decide) ?_
              refine At.enter rfl ?_
              refine r_aload_n e2175 ?_
              refine q_getI (Sh.int hI2481.1 kx_231 rfl) 2 (gI_sI_eq hI2445.1 kx_231 rfl _) ?_
              refine r_iconst 1 rfl ?_
              refine r_ict (by decide) ?_
              refine w_loopI (fun n_ l_ g_ => ∃ x2533 : Int32, n_ = 400 - x2533.toInt ∧ HI g_ ∧ Fr F_X11_next_231 A_X11_next_231 g0 g_ ∧ gI g_ 231 10 = x2533 ∧ gI g_ 231 9 = x2167 ∧ gI g_ 231 11 = 2 ∧ en_get 0 l_ = some (.ref 231) ∧ (0 ≤ x2533.toInt ∧ x2533.toInt ≤ 400) ∧ (x2167.toInt ≤ x2533.toInt) ∧ (x2533.toInt ≤ (gI g0 231 8).toInt) ∧ ((x2533.toInt ≤ x2167.toInt → (eA g0 236 x2533.toInt).toInt = v2441.toInt))) ?_ (400 - x2167.toInt) ⟨x2167, by first | rfl | omega, hI2481, hF2482, ((gI_sI_ne (by decide)).trans ((gI_sJ_ne (by decide)).trans (gI_sI_eq hI2169.1 kx_231 rfl _))), (((gI_sI_ne (by decide)).trans ((gI_sJ_ne (by decide)).trans (gI_sI_ne (by decide)))).trans e2174), (gI_sI_eq hI2445.1 kx_231 rfl _), e2175, by omega, by omega, by omega, (fun _ => congrArg Int32.toInt hv2441)⟩
              rintro n2538 l2537 g2534 ⟨x2533, hm2548, hI2535, hF2536, e2540, e2541, e2542, e2543, r2544, q2545, q2546, q2547⟩ ih2539
              have tv2549 := congrArg Int32.toInt e2541
              have tv2550 := congrArg Int32.toInt e2542
              have tv2551 := congrArg Int32.toInt e2540
              refine At.enter rfl ?_
              refine r_aload_n e2543 ?_
              refine q_getI (Sh.int hI2535.1 kx_231 rfl) 2 e2542 ?_
              refine r_iconst 2 rfl ?_
              refine r_icf 251 rfl (by decide) ?_
              refine At.enter rfl ?_
              refine r_aload_n e2543 ?_
              refine q_getI (Sh.int hI2535.1 kx_231 rfl) x2533 e2540 ?_
              refine r_aload_n e2543 ?_
              refine q_getI (Sh.int hI2535.1 kx_231 rfl) v1 ((hF2536.1 231 8 (by decide)).trans hv1) ?_
              have bv2553 := q_bnd x2533
              refine r_ics 262 rfl (fun c2552 => ?_) (fun c2552 => ?_)
              · have c2552_ : x2533.toInt ≥ v1.toInt := en_i_ge_t c2552
                refine At.enter rfl ?_
                refine r_vret ?_
                have x2554 := HI.eqI hI2535 (p := 231) (b := 8) (((hF2536.1 231 8 (by decide)).trans hv1))
                have x2555 := HI.eqI hI2535 (p := 231) (b := 9) (e2541)
                have x2556 := HI.eqI hI2535 (p := 231) (b := 10) (e2540)
                have x2557 := HI.eqI hI2535 (p := 231) (b := 11) (e2542)
                have zv2558 : (2 : Int32).toInt = 2 := rfl
                obtain ⟨v2559, hv2559⟩ : ∃ v, gJ g2534 231 12 = v := ⟨_, rfl⟩
                have tv2559 := congrArg Int64.toInt hv2559
                have x2560 := HI.eqJ hI2535 (b := 12) (hv2559)
                have x2561 := HI.eqI hI0 (p := 231) (b := 10) (hv2)
                exact ⟨_, rfl, hI2535, hF2536, rfl, ⟨by omega, by omega, by omega, by omega, by omega, by show (gI _ 231 11).toInt = 1 → (gI _ 231 10).toInt ≤ (gI _ 231 9).toInt + 1 → (gJ _ 231 12).toInt ≤ 26; omega⟩⟩
              · have c2552_ : x2533.toInt < v1.toInt := en_i_ge_f c2552
                refine At.enter rfl ?_
                refine r_aload_n e2543 ?_
                refine q_getR (Sh.ref hI2535.1 kx_231 rfl) ?_
                refine r_aload_n e2543 ?_
                refine q_getI (Sh.int hI2535.1 kx_231 rfl) x2533 e2540 ?_
                obtain ⟨v2562, hv2562⟩ : ∃ v, eA g0 236 x2533.toInt = v := ⟨_, rfl⟩
                have tv2562 := congrArg Int32.toInt hv2562
                refine q_iald (Sh.arr hI2535.1 ka_236) x2533.toInt rfl (by omega) v2562 ((eA_c (hF2536.2.1 236 (by decide))).trans hv2562) ?_
                refine q_inlS 274 rfl [.int v2562] [] (Nat.le_of_ble_eq_true rfl) rfl ?_
                refine Ev.mk rfl rfl ⟨Nat.le_of_ble_eq_true rfl, Or.inl rfl⟩ ?_
                show At _ none _ _ (0, [(0, .int v2562)], [], (_, _)) _
                refine At.enter rfl ?_
                refine r_iload_n rfl ?_
                refine r_bipush 48 rfl ?_
                refine r_ics 6 rfl (fun c2563 => ?_) (fun c2563 => ?_)
                · have c2563_ : v2562.toInt < 48 := en_i_lt_t c2563
                  refine At.enter rfl ?_
                  refine r_iconst 0 rfl ?_
                  refine Ar.fall 17 rfl ?_
                  refine At.enter rfl ?_
                  refine q_iretz (by decide) ?_
                  refine At.enter rfl ?_
                  refine r_ift (by decide) ?_
                  refine At.enter rfl ?_
                  refine r_vret ?_
                  have x2564 := HI.eqI hI2535 (p := 231) (b := 8) (((hF2536.1 231 8 (by decide)).trans hv1))
                  have x2565 := HI.eqI hI2535 (p := 231) (b := 9) (e2541)
                  have x2566 := HI.eqI hI2535 (p := 231) (b := 10) (e2540)
                  have x2567 := HI.eqI hI2535 (p := 231) (b := 11) (e2542)
                  have zv2568 : (2 : Int32).toInt = 2 := rfl
                  obtain ⟨v2569, hv2569⟩ : ∃ v, gJ g2534 231 12 = v := ⟨_, rfl⟩
                  have tv2569 := congrArg Int64.toInt hv2569
                  have x2570 := HI.eqJ hI2535 (b := 12) (hv2569)
                  have x2571 := HI.eqI hI0 (p := 231) (b := 10) (hv2)
                  exact ⟨_, rfl, hI2535, hF2536, rfl, ⟨by omega, by omega, by omega, by omega, by omega, by show (gI _ 231 11).toInt = 1 → (gI _ 231 10).toInt ≤ (gI _ 231 9).toInt + 1 → (gJ _ 231 12).toInt ≤ 26; omega⟩⟩
                · have c2563_ : v2562.toInt ≥ 48 := en_i_lt_f c2563
                  refine At.enter rfl ?_
                  refine r_iload_n rfl ?_
                  refine r_bipush 57 rfl ?_
                  refine r_ics 12 rfl (fun c2572 => ?_) (fun c2572 => ?_)
                  · have c2572_ : v2562.toInt > 57 := en_i_gt_t c2572
                    refine At.enter rfl ?_
                    refine r_iconst 0 rfl ?_
                    refine Ar.fall 17 rfl ?_
                    refine At.enter rfl ?_
                    refine q_iretz (by decide) ?_
                    refine At.enter rfl ?_
                    refine r_ift (by decide) ?_
                    refine At.enter rfl ?_
                    refine r_vret ?_
                    have x2573 := HI.eqI hI2535 (p := 231) (b := 8) (((hF2536.1 231 8 (by decide)).trans hv1))
                    have x2574 := HI.eqI hI2535 (p := 231) (b := 9) (e2541)
                    have x2575 := HI.eqI hI2535 (p := 231) (b := 10) (e2540)
                    have x2576 := HI.eqI hI2535 (p := 231) (b := 11) (e2542)
                    have zv2577 : (2 : Int32).toInt = 2 := rfl
                    obtain ⟨v2578, hv2578⟩ : ∃ v, gJ g2534 231 12 = v := ⟨_, rfl⟩
                    have tv2578 := congrArg Int64.toInt hv2578
                    have x2579 := HI.eqJ hI2535 (b := 12) (hv2578)
                    have x2580 := HI.eqI hI0 (p := 231) (b := 10) (hv2)
                    exact ⟨_, rfl, hI2535, hF2536, rfl, ⟨by omega, by omega, by omega, by omega, by omega, by show (gI _ 231 11).toInt = 1 → (gI _ 231 10).toInt ≤ (gI _ 231 9).toInt + 1 → (gJ _ 231 12).toInt ≤ 26; omega⟩⟩
                  · have c2572_ : v2562.toInt ≤ 57 := en_i_gt_f c2572
                    refine At.enter rfl ?_
                    refine r_iconst 1 rfl ?_
                    refine r_goto ?_
                    refine At.enter rfl ?_
                    refine q_iretz (by decide) ?_
                    refine At.enter rfl ?_
                    refine r_iff 277 rfl (by decide) ?_
                    refine At.enter rfl ?_
                    refine r_aload_n e2543 ?_
                    refine r_aload_n e2543 ?_
                    obtain ⟨v2581, hv2581⟩ : ∃ v, gJ g2534 231 12 = v := ⟨_, rfl⟩
                    have tv2581 := congrArg Int64.toInt hv2581
                    refine q_getJv (Sh.long hI2535.1 kx_231 rfl) v2581 hv2581 ?_
                    refine r_ldc2 1000000 rfl ?_
                    refine r_lcmp _ rfl ?_
                    refine r_ifs 289 rfl (fun c2582 => ?_) (fun c2582 => ?_)
                    · have c2582_ : v2581.toInt ≤ 1000000 := en_j_le_t c2582
                      refine At.enter rfl ?_
                      refine r_aload_n e2543 ?_
                      refine q_getJv (Sh.long hI2535.1 kx_231 rfl) v2581 hv2581 ?_
                      refine r_ldc2 10 rfl ?_
                      refine q_lmulO (fun v2583 lv2583 => ?_)
                      have kv2583 := l_mul lv2583
                      have zv2584 : (10 : Int64).toInt = 10 := rfl
                      refine r_aload_n e2543 ?_
                      refine q_getR (Sh.ref hI2535.1 kx_231 rfl) ?_
                      refine r_aload_n e2543 ?_
                      refine q_getI (Sh.int hI2535.1 kx_231 rfl) x2533 e2540 ?_
                      refine q_iald (Sh.arr hI2535.1 ka_236) x2533.toInt rfl (by omega) v2562 ((eA_c (hF2536.2.1 236 (by decide))).trans hv2562) ?_
                      refine q_i2l (fun v2585 hv2585 => ?_)
                      refine q_laddO (fun v2586 lv2586 => ?_)
                      have kv2586 := l_add lv2586
                      refine r_ldc2 48 rfl ?_
                      refine q_lsubO (fun v2587 lv2587 => ?_)
                      have kv2587 := l_sub lv2587
                      have zv2588 : (48 : Int64).toInt = 48 := rfl
                      refine Ar.fall 319 rfl ?_
                      refine At.enter rfl ?_
                      refine q_putJ (Sh.long hI2535.1 kx_231 rfl) rfl ?_
                      have hI2589 := HI.wJ hI2535 kx_231 rfl (p := 231) (b := 12) (v := v2587)
                      have hF2590 := Fr.wJ (p := 231) (b := 12) (v := v2587) hF2536 rfl
                      refine r_aload_n e2543 ?_
                      refine r_dup rfl ?_
                      refine q_getI (Sh.int hI2589.1 kx_231 rfl) x2533 ((gI_sJ_ne (by decide)).trans e2540) ?_
                      refine r_iconst 1 rfl ?_
                      refine q_iadd (x2533.toInt + 1) rfl (by omega) (fun v2591 hv2591 => ?_)
                      refine q_putI (Sh.int hI2589.1 kx_231 rfl) rfl ?_
                      have hI2592 := HI.wI1 hI2589 kx_231 rfl (p := 231) (b := 10) (v := v2591) rfl (by dsimp only; omega)
                      have hF2593 := Fr.wI (p := 231) (b := 10) (v := v2591) hF2590 rfl
                      refine r_goto ?_
                      exact ih2539 (400 - v2591.toInt) _ _ ⟨v2591, by first | rfl | omega, hI2592, hF2593, (gI_sI_eq hI2589.1 kx_231 rfl _), (((gI_sI_ne (by decide)).trans (gI_sJ_ne (by decide))).trans e2541), (((gI_sI_ne (by decide)).trans (gI_sJ_ne (by decide))).trans e2542), e2543, by omega, by omega, by omega, (fun h => absurd h (by omega))⟩ ⟨by omega, by omega⟩
                    · have c2582_ : v2581.toInt > 1000000 := en_j_le_f c2582
                      refine At.enter rfl ?_
                      refine r_aload_n e2543 ?_
                      refine q_getJv (Sh.long hI2535.1 kx_231 rfl) v2581 hv2581 ?_
                      refine r_goto ?_
                      refine At.enter rfl ?_
                      refine q_putJ (Sh.long hI2535.1 kx_231 rfl) rfl ?_
                      have hI2594 := HI.wJ hI2535 kx_231 rfl (p := 231) (b := 12) (v := v2581)
                      have hF2595 := Fr.wJ (p := 231) (b := 12) (v := v2581) hF2536 rfl
                      refine r_aload_n e2543 ?_
                      refine r_dup rfl ?_
                      refine q_getI (Sh.int hI2594.1 kx_231 rfl) x2533 ((gI_sJ_ne (by decide)).trans e2540) ?_
                      refine r_iconst 1 rfl ?_
                      refine q_iadd (x2533.toInt + 1) rfl (by omega) (fun v2596 hv2596 => ?_)
                      refine q_putI (Sh.int hI2594.1 kx_231 rfl) rfl ?_
                      have hI2597 := HI.wI1 hI2594 kx_231 rfl (p := 231) (b := 10) (v := v2596) rfl (by dsimp only; omega)
                      have hF2598 := Fr.wI (p := 231) (b := 10) (v := v2596) hF2595 rfl
                      refine r_goto ?_
                      exact ih2539 (400 - v2596.toInt) _ _ ⟨v2596, by first | rfl | omega, hI2597, hF2598, (gI_sI_eq hI2594.1 kx_231 rfl _), (((gI_sI_ne (by decide)).trans (gI_sJ_ne (by decide))).trans e2541), (((gI_sI_ne (by decide)).trans (gI_sJ_ne (by decide))).trans e2542), e2543, by omega, by omega, by omega, (fun h => absurd h (by omega))⟩ ⟨by omega, by omega⟩
        · have c2448_ : v2441.toInt ≥ 97 := en_i_lt_f c2448
          refine At.enter rfl ?_
          refine r_iload_n rfl ?_
          refine r_bipush 122 rfl ?_
          refine r_ics 12 rfl (fun c2599 => ?_) (fun c2599 => ?_)
          · have c2599_ : v2441.toInt > 122 := en_i_gt_t c2599
            refine At.enter rfl ?_
            refine r_iconst 0 rfl ?_
            refine Ar.fall 17 rfl ?_
            refine At.enter rfl ?_
            refine q_iretz (by decide) ?_
            refine At.enter rfl ?_
            refine r_ift (by decide) ?_
            refine At.enter rfl ?_
            refine r_aload_n e2175 ?_
            refine q_getR (Sh.ref hI2445.1 kx_231 rfl) ?_
            refine r_aload_n e2175 ?_
            refine q_getI (Sh.int hI2445.1 kx_231 rfl) x2167 (((gI_sJ_ne (by decide)).trans (gI_sI_ne (by decide))).trans e2174) ?_
            refine q_iald (Sh.arr hI2445.1 ka_236) x2167.toInt rfl (by omega) v2441 ((eA_c ((gA_sJ).trans ((gA_sI).trans (hF2170.2.1 236 (by decide))))).trans hv2441) ?_
            refine q_inlS 106 rfl [.int v2441] [.ref 231] (Nat.le_of_ble_eq_true rfl) rfl ?_
            refine Ev.mk rfl rfl ⟨Nat.le_of_ble_eq_true rfl, Or.inl rfl⟩ ?_
            show At _ none _ _ (0, [(0, .int v2441)], [], (_, _)) _
            refine At.enter rfl ?_
            refine r_iload_n rfl ?_
            refine r_bipush 48 rfl ?_
            refine r_ics 6 rfl (fun c2600 => ?_) (fun c2600 => ?_)
            · have c2600_ : v2441.toInt < 48 := en_i_lt_t c2600
              exfalso; omega
            · have c2600_ : v2441.toInt ≥ 48 := en_i_lt_f c2600
              refine At.enter rfl ?_
              refine r_iload_n rfl ?_
              refine r_bipush 57 rfl ?_
              refine r_ics 12 rfl (fun c2601 => ?_) (fun c2601 => ?_)
              · have c2601_ : v2441.toInt > 57 := en_i_gt_t c2601
                refine At.enter rfl ?_
                refine r_iconst 0 rfl ?_
                refine Ar.fall 17 rfl ?_
                refine At.enter rfl ?_
                refine q_iretz (by decide) ?_
                refine At.enter rfl ?_
                refine r_ift (by decide) ?_
                refine At.enter rfl ?_
                refine r_iconst 3 rfl ?_
                refine Ar.fall 114 rfl ?_
                refine At.enter rfl ?_
                refine q_putI (Sh.int hI2445.1 kx_231 rfl) rfl ?_
                have hI2602 := HI.wI0 hI2445 kx_231 rfl (p := 231) (b := 11) (v := 3) rfl
                have hF2603 := Fr.wI (p := 231) (b := 11) (v := 3) hF2446 rfl
                refine r_aload_n e2175 ?_
                refine q_getI (Sh.int hI2602.1 kx_231 rfl) 3 (gI_sI_eq hI2445.1 kx_231 rfl _) ?_
                refine r_iconst 3 rfl ?_
                refine r_icf 125 rfl (by decide) ?_
                refine At.enter rfl ?_
                refine r_aload_n e2175 ?_
                refine r_aload_n e2175 ?_
                refine q_getR (Sh.ref hI2602.1 kx_231 rfl) ?_
                refine r_aload_n e2175 ?_
                refine q_getI (Sh.int hI2602.1 kx_231 rfl) x2167 (((gI_sI_ne (by decide)).trans ((gI_sJ_ne (by decide)).trans (gI_sI_ne (by decide)))).trans e2174) ?_
                refine q_iald (Sh.arr hI2602.1 ka_236) x2167.toInt rfl (by omega) v2441 ((eA_c ((gA_sI).trans ((gA_sJ).trans ((gA_sI).trans (hF2170.2.1 236 (by decide)))))).trans hv2441) ?_
                refine q_i2l (fun v2604 hv2604 => ?_)
                refine q_putJ (Sh.long hI2602.1 kx_231 rfl) rfl ?_
                have hI2605 := HI.wJ hI2602 kx_231 rfl (p := 231) (b := 12) (v := v2604)
                have hF2606 := Fr.wJ (p := 231) (b := 12) (v := v2604) hF2603 rfl
                refine r_aload_n e2175 ?_
                refine r_dup rfl ?_
                refine q_getI (Sh.int hI2605.1 kx_231 rfl) x2167 ((gI_sJ_ne (by decide)).trans ((gI_sI_ne (by decide)).trans ((gI_sJ_ne (by decide)).trans (gI_sI_eq hI2169.1 kx_231 rfl _)))) ?_
                refine r_iconst 1 rfl ?_
                refine q_iadd (x2167.toInt + 1) rfl (by omega) (fun v2607 hv2607 => ?_)
                refine q_putI (Sh.int hI2605.1 kx_231 rfl) rfl ?_
                have hI2608 := HI.wI1 hI2605 kx_231 rfl (p := 231) (b := 10) (v := v2607) rfl (by dsimp only; omega)
                have hF2609 := Fr.wI (p := 231) (b := 10) (v := v2607) hF2606 rfl
                refine Ar.fall 149 rfl ?_
                refine At.enter rfl ?_
                refine r_aload_n e2175 ?_
                refine q_getI (Sh.int hI2608.1 kx_231 rfl) 3 ((gI_sI_ne (by decide)).trans ((gI_sJ_ne (by decide)).trans (gI_sI_eq hI2445.1 kx_231 rfl _))) ?_
                refine r_iconst 1 rfl ?_
                refine r_ict (by decide) ?_
                refine At.enter rfl ?_
                refine r_aload_n e2175 ?_
                refine q_getI (Sh.int hI2608.1 kx_231 rfl) 3 ((gI_sI_ne (by decide)).trans ((gI_sJ_ne (by decide)).trans (gI_sI_eq hI2445.1 kx_231 rfl _))) ?_
                refine r_iconst 2 rfl ?_
                refine r_ict (by decide) ?_
                refine At.enter rfl ?_
                refine r_vret ?_
                have x2610 := HI.eqI hI2608 (p := 231) (b := 8) ((((gI_sI_ne (by decide)).trans ((gI_sJ_ne (by decide)).trans ((gI_sI_ne (by decide)).trans ((gI_sJ_ne (by decide)).trans ((gI_sI_ne (by decide)).trans (hF2170.1 231 8 (by decide))))))).trans hv1))
                have x2611 := HI.eqI hI2608 (p := 231) (b := 9) ((((gI_sI_ne (by decide)).trans ((gI_sJ_ne (by decide)).trans ((gI_sI_ne (by decide)).trans ((gI_sJ_ne (by decide)).trans (gI_sI_ne (by decide)))))).trans e2174))
                have x2612 := HI.eqI hI2608 (p := 231) (b := 10) ((gI_sI_eq hI2605.1 kx_231 rfl _))
                have x2613 := HI.eqI hI2608 (p := 231) (b := 11) (((gI_sI_ne (by decide)).trans ((gI_sJ_ne (by decide)).trans (gI_sI_eq hI2445.1 kx_231 rfl _))))
                have zv2614 : (3 : Int32).toInt = 3 := rfl
                have x2615 := HI.eqJ hI2608 (b := 12) (((gJ_sI_ne (by decide)).trans (gJ_sJ_eq hI2602.1 kx_231 rfl _)))
                have x2616 := HI.eqI hI0 (p := 231) (b := 10) (hv2)
                exact ⟨_, rfl, hI2608, hF2609, rfl, ⟨by omega, by omega, by omega, by omega, by omega, by show (gI _ 231 11).toInt = 1 → (gI _ 231 10).toInt ≤ (gI _ 231 9).toInt + 1 → (gJ _ 231 12).toInt ≤ 26; omega⟩⟩
              · have c2601_ : v2441.toInt ≤ 57 := en_i_gt_f c2601
                exfalso; omega
          · have c2599_ : v2441.toInt ≤ 122 := en_i_gt_f c2599
            refine At.enter rfl ?_
            refine r_iconst 1 rfl ?_
            refine r_goto ?_
            refine At.enter rfl ?_
            refine q_iretz (by decide) ?_
            refine At.enter rfl ?_
            refine r_iff 90 rfl (by decide) ?_
            refine At.enter rfl ?_
            refine r_iconst 1 rfl ?_
            refine r_goto ?_
            refine At.enter rfl ?_
            refine q_putI (Sh.int hI2445.1 kx_231 rfl) rfl ?_
            have hI2617 := HI.wI0 hI2445 kx_231 rfl (p := 231) (b := 11) (v := 1) rfl
            have hF2618 := Fr.wI (p := 231) (b := 11) (v := 1) hF2446 rfl
            refine r_aload_n e2175 ?_
            refine q_getI (Sh.int hI2617.1 kx_231 rfl) 1 (gI_sI_eq hI2445.1 kx_231 rfl _) ?_
            refine r_iconst 3 rfl ?_
            refine r_ict (by decide) ?_
            refine w_loopI (fun n_ l_ g_ => ∃ x2671 : Int32, n_ = 400 - x2671.toInt ∧ HI g_ ∧ Fr F_X11_next_231 A_X11_next_231 g0 g_ ∧ gI g_ 231 10 = x2671 ∧ gI g_ 231 9 = x2167 ∧ gI g_ 231 11 = 1 ∧ en_get 0 l_ = some (.ref 231) ∧ (0 ≤ x2671.toInt ∧ x2671.toInt ≤ 400) ∧ (x2167.toInt ≤ x2671.toInt) ∧ (x2671.toInt ≤ (gI g0 231 8).toInt) ∧ ((x2671.toInt ≤ x2167.toInt → (gJ g_ 231 12).toInt = 0)) ∧ ((x2671.toInt ≤ x2167.toInt + 1 → (gJ g_ 231 12).toInt ≤ 26)) ∧ ((x2671.toInt ≤ x2167.toInt → (eA g0 236 x2671.toInt).toInt = v2441.toInt))) ?_ (400 - x2167.toInt) ⟨x2167, by first | rfl | omega, hI2617, hF2618, ((gI_sI_ne (by decide)).trans ((gI_sJ_ne (by decide)).trans (gI_sI_eq hI2169.1 kx_231 rfl _))), (((gI_sI_ne (by decide)).trans ((gI_sJ_ne (by decide)).trans (gI_sI_ne (by decide)))).trans e2174), (gI_sI_eq hI2445.1 kx_231 rfl _), e2175, by omega, by omega, by omega, (by have jw := HI.eqJ hI2617 (b := 12) (((gJ_sI_ne (by decide)).trans (gJ_sJ_eq hI2443.1 kx_231 rfl _))); have jz : (0 : Int64).toInt = 0 := rfl; omega), (by have jw := HI.eqJ hI2617 (b := 12) (((gJ_sI_ne (by decide)).trans (gJ_sJ_eq hI2443.1 kx_231 rfl _))); have jz : (0 : Int64).toInt = 0 := rfl; omega), (fun _ => congrArg Int32.toInt hv2441)⟩
            rintro n2676 l2675 g2672 ⟨x2671, hm2688, hI2673, hF2674, e2678, e2679, e2680, e2681, r2682, q2683, q2684, q2685, q2686, q2687⟩ ih2677
            have tv2689 := congrArg Int32.toInt e2679
            have tv2690 := congrArg Int32.toInt e2680
            have tv2691 := congrArg Int32.toInt e2678
            refine At.enter rfl ?_
            refine r_aload_n e2681 ?_
            refine q_getI (Sh.int hI2673.1 kx_231 rfl) 1 e2680 ?_
            refine r_iconst 1 rfl ?_
            refine r_icf 157 rfl (by decide) ?_
            refine At.enter rfl ?_
            refine r_aload_n e2681 ?_
            refine q_getI (Sh.int hI2673.1 kx_231 rfl) x2671 e2678 ?_
            refine r_aload_n e2681 ?_
            refine q_getI (Sh.int hI2673.1 kx_231 rfl) v1 ((hF2674.1 231 8 (by decide)).trans hv1) ?_
            have bv2693 := q_bnd x2671
            refine r_ics 168 rfl (fun c2692 => ?_) (fun c2692 => ?_)
            · have c2692_ : x2671.toInt ≥ v1.toInt := en_i_ge_t c2692
              refine At.enter rfl ?_
              refine r_aload_n e2681 ?_
              refine q_getI (Sh.int hI2673.1 kx_231 rfl) 1 e2680 ?_
              refine r_iconst 2 rfl ?_
              refine r_ict (by decide) ?_
              refine At.enter rfl ?_
              refine r_vret ?_
              have x2694 := HI.eqI hI2673 (p := 231) (b := 8) (((hF2674.1 231 8 (by decide)).trans hv1))
              have x2695 := HI.eqI hI2673 (p := 231) (b := 9) (e2679)
              have x2696 := HI.eqI hI2673 (p := 231) (b := 10) (e2678)
              have x2697 := HI.eqI hI2673 (p := 231) (b := 11) (e2680)
              have zv2698 : (1 : Int32).toInt = 1 := rfl
              obtain ⟨v2699, hv2699⟩ : ∃ v, gJ g2672 231 12 = v := ⟨_, rfl⟩
              have tv2699 := congrArg Int64.toInt hv2699
              have x2700 := HI.eqJ hI2673 (b := 12) (hv2699)
              have x2701 := HI.eqI hI0 (p := 231) (b := 10) (hv2)
              exact ⟨_, rfl, hI2673, hF2674, rfl, ⟨by omega, by omega, by omega, by omega, by omega, by show (gI _ 231 11).toInt = 1 → (gI _ 231 10).toInt ≤ (gI _ 231 9).toInt + 1 → (gJ _ 231 12).toInt ≤ 26; omega⟩⟩
            · have c2692_ : x2671.toInt < v1.toInt := en_i_ge_f c2692
              refine At.enter rfl ?_
              refine r_aload_n e2681 ?_
              refine q_getR (Sh.ref hI2673.1 kx_231 rfl) ?_
              refine r_aload_n e2681 ?_
              refine q_getI (Sh.int hI2673.1 kx_231 rfl) x2671 e2678 ?_
              obtain ⟨v2702, hv2702⟩ : ∃ v, eA g0 236 x2671.toInt = v := ⟨_, rfl⟩
              have tv2702 := congrArg Int32.toInt hv2702
              refine q_iald (Sh.arr hI2673.1 ka_236) x2671.toInt rfl (by omega) v2702 ((eA_c (hF2674.2.1 236 (by decide))).trans hv2702) ?_
              refine q_inlS 180 rfl [.int v2702] [] (Nat.le_of_ble_eq_true rfl) rfl ?_
              refine Ev.mk rfl rfl ⟨Nat.le_of_ble_eq_true rfl, Or.inl rfl⟩ ?_
              show At _ none _ _ (0, [(0, .int v2702)], [], (_, _)) _
              refine At.enter rfl ?_
              refine r_iload_n rfl ?_
              refine r_bipush 97 rfl ?_
              refine r_ics 6 rfl (fun c2703 => ?_) (fun c2703 => ?_)
              · have c2703_ : v2702.toInt < 97 := en_i_lt_t c2703
                refine At.enter rfl ?_
                refine r_iconst 0 rfl ?_
                refine Ar.fall 17 rfl ?_
                refine At.enter rfl ?_
                refine q_iretz (by decide) ?_
                refine At.enter rfl ?_
                refine r_ift (by decide) ?_
                refine At.enter rfl ?_
                refine r_aload_n e2681 ?_
                refine q_getI (Sh.int hI2673.1 kx_231 rfl) 1 e2680 ?_
                refine r_iconst 2 rfl ?_
                refine r_ict (by decide) ?_
                refine At.enter rfl ?_
                refine r_vret ?_
                have x2704 := HI.eqI hI2673 (p := 231) (b := 8) (((hF2674.1 231 8 (by decide)).trans hv1))
                have x2705 := HI.eqI hI2673 (p := 231) (b := 9) (e2679)
                have x2706 := HI.eqI hI2673 (p := 231) (b := 10) (e2678)
                have x2707 := HI.eqI hI2673 (p := 231) (b := 11) (e2680)
                have zv2708 : (1 : Int32).toInt = 1 := rfl
                obtain ⟨v2709, hv2709⟩ : ∃ v, gJ g2672 231 12 = v := ⟨_, rfl⟩
                have tv2709 := congrArg Int64.toInt hv2709
                have x2710 := HI.eqJ hI2673 (b := 12) (hv2709)
                have x2711 := HI.eqI hI0 (p := 231) (b := 10) (hv2)
                exact ⟨_, rfl, hI2673, hF2674, rfl, ⟨by omega, by omega, by omega, by omega, by omega, by show (gI _ 231 11).toInt = 1 → (gI _ 231 10).toInt ≤ (gI _ 231 9).toInt + 1 → (gJ _ 231 12).toInt ≤ 26; omega⟩⟩
              · have c2703_ : v2702.toInt ≥ 97 := en_i_lt_f c2703
                refine At.enter rfl ?_
                refine r_iload_n rfl ?_
                refine r_bipush 122 rfl ?_
                refine r_ics 12 rfl (fun c2712 => ?_) (fun c2712 => ?_)
                · have c2712_ : v2702.toInt > 122 := en_i_gt_t c2712
                  refine At.enter rfl ?_
                  refine r_iconst 0 rfl ?_
                  refine Ar.fall 17 rfl ?_
                  refine At.enter rfl ?_
                  refine q_iretz (by decide) ?_
                  refine At.enter rfl ?_
                  refine r_ift (by decide) ?_
                  refine At.enter rfl ?_
                  refine r_aload_n e2681 ?_
                  refine q_getI (Sh.int hI2673.1 kx_231 rfl) 1 e2680 ?_
                  refine r_iconst 2 rfl ?_
                  refine r_ict (by decide) ?_
                  refine At.enter rfl ?_
                  refine r_vret ?_
                  have x2713 := HI.eqI hI2673 (p := 231) (b := 8) (((hF2674.1 231 8 (by decide)).trans hv1))
                  have x2714 := HI.eqI hI2673 (p := 231) (b := 9) (e2679)
                  have x2715 := HI.eqI hI2673 (p := 231) (b := 10) (e2678)
                  have x2716 := HI.eqI hI2673 (p := 231) (b := 11) (e2680)
                  have zv2717 : (1 : Int32).toInt = 1 := rfl
                  obtain ⟨v2718, hv2718⟩ : ∃ v, gJ g2672 231 12 = v := ⟨_, rfl⟩
                  have tv2718 := congrArg Int64.toInt hv2718
                  have x2719 := HI.eqJ hI2673 (b := 12) (hv2718)
                  have x2720 := HI.eqI hI0 (p := 231) (b := 10) (hv2)
                  exact ⟨_, rfl, hI2673, hF2674, rfl, ⟨by omega, by omega, by omega, by omega, by omega, by show (gI _ 231 11).toInt = 1 → (gI _ 231 10).toInt ≤ (gI _ 231 9).toInt + 1 → (gJ _ 231 12).toInt ≤ 26; omega⟩⟩
                · have c2712_ : v2702.toInt ≤ 122 := en_i_gt_f c2712
                  refine At.enter rfl ?_
                  refine r_iconst 1 rfl ?_
                  refine r_goto ?_
                  refine At.enter rfl ?_
                  refine q_iretz (by decide) ?_
                  refine At.enter rfl ?_
                  refine r_iff 183 rfl (by decide) ?_
                  refine At.enter rfl ?_
                  refine r_aload_n e2681 ?_
                  refine r_aload_n e2681 ?_
                  refine q_getI (Sh.int hI2673.1 kx_231 rfl) x2671 e2678 ?_
                  refine r_aload_n e2681 ?_
                  refine q_getI (Sh.int hI2673.1 kx_231 rfl) x2167 e2679 ?_
                  refine q_isub (x2671.toInt - x2167.toInt) rfl (by omega) (fun v2721 hv2721 => ?_)
                  refine r_bipush 10 rfl ?_
                  refine r_ics 198 rfl (fun c2722 => ?_) (fun c2722 => ?_)
                  · have c2722_ : v2721.toInt ≥ 10 := en_i_ge_t c2722
                    refine At.enter rfl ?_
                    refine r_ldc2 (-1) rfl ?_
                    refine Ar.fall 227 rfl ?_
                    refine At.enter rfl ?_
                    refine q_putJ (Sh.long hI2673.1 kx_231 rfl) rfl ?_
                    have hI2723 := HI.wJ hI2673 kx_231 rfl (p := 231) (b := 12) (v := (-1))
                    have hF2724 := Fr.wJ (p := 231) (b := 12) (v := (-1)) hF2674 rfl
                    refine r_aload_n e2681 ?_
                    refine r_dup rfl ?_
                    refine q_getI (Sh.int hI2723.1 kx_231 rfl) x2671 ((gI_sJ_ne (by decide)).trans e2678) ?_
                    refine r_iconst 1 rfl ?_
                    refine q_iadd (x2671.toInt + 1) rfl (by omega) (fun v2725 hv2725 => ?_)
                    refine q_putI (Sh.int hI2723.1 kx_231 rfl) rfl ?_
                    have hI2726 := HI.wI1 hI2723 kx_231 rfl (p := 231) (b := 10) (v := v2725) rfl (by dsimp only; omega)
                    have hF2727 := Fr.wI (p := 231) (b := 10) (v := v2725) hF2724 rfl
                    refine r_goto ?_
                    exact ih2677 (400 - v2725.toInt) _ _ ⟨v2725, by first | rfl | omega, hI2726, hF2727, (gI_sI_eq hI2723.1 kx_231 rfl _), (((gI_sI_ne (by decide)).trans (gI_sJ_ne (by decide))).trans e2679), (((gI_sI_ne (by decide)).trans (gI_sJ_ne (by decide))).trans e2680), e2681, by omega, by omega, by omega, (by have jw := HI.eqJ hI2726 (b := 12) (((gJ_sI_ne (by decide)).trans (gJ_sJ_eq hI2673.1 kx_231 rfl _))); have jz : ((-1) : Int64).toInt = (-1) := rfl; omega), (by have jw := HI.eqJ hI2726 (b := 12) (((gJ_sI_ne (by decide)).trans (gJ_sJ_eq hI2673.1 kx_231 rfl _))); have jz : ((-1) : Int64).toInt = (-1) := rfl; omega), (fun h => absurd h (by omega))⟩ ⟨by omega, by omega⟩
                  · have c2722_ : v2721.toInt < 10 := en_i_ge_f c2722
                    refine At.enter rfl ?_
                    refine r_aload_n e2681 ?_
                    obtain ⟨v2728, hv2728⟩ : ∃ v, gJ g2672 231 12 = v := ⟨_, rfl⟩
                    have tv2728 := congrArg Int64.toInt hv2728
                    refine q_getJv (Sh.long hI2673.1 kx_231 rfl) v2728 hv2728 ?_
                    refine r_ldc2 32 rfl ?_
                    refine q_lmulO (fun v2729 lv2729 => ?_)
                    have kv2729 := l_mul lv2729
                    have zv2730 : (32 : Int64).toInt = 32 := rfl
                    refine r_aload_n e2681 ?_
                    refine q_getR (Sh.ref hI2673.1 kx_231 rfl) ?_
                    refine r_aload_n e2681 ?_
                    refine q_getI (Sh.int hI2673.1 kx_231 rfl) x2671 e2678 ?_
                    refine q_iald (Sh.arr hI2673.1 ka_236) x2671.toInt rfl (by omega) v2702 ((eA_c (hF2674.2.1 236 (by decide))).trans hv2702) ?_
                    refine q_i2l (fun v2731 hv2731 => ?_)
                    refine q_laddO (fun v2732 lv2732 => ?_)
                    have kv2732 := l_add lv2732
                    refine r_ldc2 96 rfl ?_
                    refine q_lsubO (fun v2733 lv2733 => ?_)
                    have kv2733 := l_sub lv2733
                    have zv2734 : (96 : Int64).toInt = 96 := rfl
                    refine r_goto ?_
                    refine At.enter rfl ?_
                    refine q_putJ (Sh.long hI2673.1 kx_231 rfl) rfl ?_
                    have hI2735 := HI.wJ hI2673 kx_231 rfl (p := 231) (b := 12) (v := v2733)
                    have hF2736 := Fr.wJ (p := 231) (b := 12) (v := v2733) hF2674 rfl
                    refine r_aload_n e2681 ?_
                    refine r_dup rfl ?_
                    refine q_getI (Sh.int hI2735.1 kx_231 rfl) x2671 ((gI_sJ_ne (by decide)).trans e2678) ?_
                    refine r_iconst 1 rfl ?_
                    refine q_iadd (x2671.toInt + 1) rfl (by omega) (fun v2737 hv2737 => ?_)
                    refine q_putI (Sh.int hI2735.1 kx_231 rfl) rfl ?_
                    have hI2738 := HI.wI1 hI2735 kx_231 rfl (p := 231) (b := 10) (v := v2737) rfl (by dsimp only; omega)
                    have hF2739 := Fr.wI (p := 231) (b := 10) (v := v2737) hF2736 rfl
                    refine r_goto ?_
                    exact ih2677 (400 - v2737.toInt) _ _ ⟨v2737, by first | rfl | omega, hI2738, hF2739, (gI_sI_eq hI2735.1 kx_231 rfl _), (((gI_sI_ne (by decide)).trans (gI_sJ_ne (by decide))).trans e2679), (((gI_sI_ne (by decide)).trans (gI_sJ_ne (by decide))).trans e2680), e2681, by omega, by omega, by omega, (by have jw := HI.eqJ hI2738 (b := 12) (((gJ_sI_ne (by decide)).trans (gJ_sJ_eq hI2673.1 kx_231 rfl _))); omega), (by have jw := HI.eqJ hI2738 (b := 12) (((gJ_sI_ne (by decide)).trans (gJ_sJ_eq hI2673.1 kx_231 rfl _))); omega), (fun h => absurd h (by omega))⟩ ⟨by omega, by omega⟩
      · have c2447_ : x2167.toInt = v1.toInt := en_i_ne_f c2447
        refine At.enter rfl ?_
        refine r_iconst 0 rfl ?_
        refine r_goto ?_
        refine At.enter rfl ?_
        refine q_putI (Sh.int hI2445.1 kx_231 rfl) rfl ?_
        have hI2740 := HI.wI0 hI2445 kx_231 rfl (p := 231) (b := 11) (v := 0) rfl
        have hF2741 := Fr.wI (p := 231) (b := 11) (v := 0) hF2446 rfl
        refine r_aload_n e2175 ?_
        refine q_getI (Sh.int hI2740.1 kx_231 rfl) 0 (gI_sI_eq hI2445.1 kx_231 rfl _) ?_
        refine r_iconst 3 rfl ?_
        refine r_ict (by decide) ?_
        refine At.enter rfl ?_
        refine r_aload_n e2175 ?_
        refine q_getI (Sh.int hI2740.1 kx_231 rfl) 0 (gI_sI_eq hI2445.1 kx_231 rfl _) ?_
        refine r_iconst 1 rfl ?_
        refine r_ict (by decide) ?_
        refine At.enter rfl ?_
        refine r_aload_n e2175 ?_
        refine q_getI (Sh.int hI2740.1 kx_231 rfl) 0 (gI_sI_eq hI2445.1 kx_231 rfl _) ?_
        refine r_iconst 2 rfl ?_
        refine r_ict (by decide) ?_
        refine At.enter rfl ?_
        refine r_vret ?_
        have x2742 := HI.eqI hI2740 (p := 231) (b := 8) ((((gI_sI_ne (by decide)).trans ((gI_sJ_ne (by decide)).trans ((gI_sI_ne (by decide)).trans (hF2170.1 231 8 (by decide))))).trans hv1))
        have x2743 := HI.eqI hI2740 (p := 231) (b := 9) ((((gI_sI_ne (by decide)).trans ((gI_sJ_ne (by decide)).trans (gI_sI_ne (by decide)))).trans e2174))
        have x2744 := HI.eqI hI2740 (p := 231) (b := 10) (((gI_sI_ne (by decide)).trans ((gI_sJ_ne (by decide)).trans (gI_sI_eq hI2169.1 kx_231 rfl _))))
        have x2745 := HI.eqI hI2740 (p := 231) (b := 11) ((gI_sI_eq hI2445.1 kx_231 rfl _))
        have zv2746 : (0 : Int32).toInt = 0 := rfl
        have x2747 := HI.eqJ hI2740 (b := 12) (((gJ_sI_ne (by decide)).trans (gJ_sJ_eq hI2443.1 kx_231 rfl _)))
        have zv2748 : (0 : Int64).toInt = 0 := rfl
        have x2749 := HI.eqI hI0 (p := 231) (b := 10) (hv2)
        exact ⟨_, rfl, hI2740, hF2741, rfl, ⟨by omega, by omega, by omega, by omega, by omega, by show (gI _ 231 11).toInt = 1 → (gI _ 231 10).toInt ≤ (gI _ 231 9).toInt + 1 → (gJ _ 231 12).toInt ≤ 26; omega⟩⟩
    · have c2442_ : v2441.toInt = 32 := en_i_ne_f c2442
      refine At.enter rfl ?_
      refine r_aload_n e2175 ?_
      refine r_dup rfl ?_
      refine q_getI (Sh.int hI2169.1 kx_231 rfl) x2167 e2174 ?_
      refine r_iconst 1 rfl ?_
      refine q_iadd (x2167.toInt + 1) rfl (by omega) (fun v2750 hv2750 => ?_)
      refine q_putI (Sh.int hI2169.1 kx_231 rfl) rfl ?_
      have hI2751 := HI.wI1 hI2169 kx_231 rfl (p := 231) (b := 9) (v := v2750) rfl (by dsimp only; omega)
      have hF2752 := Fr.wI (p := 231) (b := 9) (v := v2750) hF2170 rfl
      refine r_goto ?_
      exact ih2173 (400 - v2750.toInt) _ _ ⟨v2750, by first | rfl | omega, hI2751, hF2752, (gI_sI_eq hI2169.1 kx_231 rfl _), e2175, by omega, by omega, by omega⟩ ⟨by omega, by omega⟩
