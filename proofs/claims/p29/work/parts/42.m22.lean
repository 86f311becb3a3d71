def F_X11_drawn_231 : List (Nat × Nat) := [(231, 0)]
def A_X11_drawn_231 : List Nat := []
set_option maxRecDepth 100000 in
set_option maxHeartbeats 4000000 in
theorem T_X11_drawn_231 (d : Nat) {N : Nat} {g0 : List en_E} (hI0 : HI g0) (a1 : Int32) (a2 : Int32) : Ev (d + 2) 262 [.ref 231, .int a1, .int a2] (g0, N) (fun w h' => ∃ g', h' = (g', N) ∧ HI g' ∧ Fr F_X11_drawn_231 A_X11_drawn_231 g0 g' ∧ ∃ r : Int32, w = some (.int r) ∧ True) := by
  have hF0 : Fr F_X11_drawn_231 A_X11_drawn_231 g0 g0 := Fr.rf
  refine Ev.mk rfl rfl ⟨Nat.le_of_ble_eq_true rfl, Or.inr (q_rc hI0.1 kx_231 rfl)⟩ ?_
  show At _ none _ _ (0, [(0, .ref 231), (1, .int a1), (2, .int a2)], [], (_, _)) _
  refine At.enter rfl ?_
  refine r_aload_n rfl ?_
  refine r_iconst 0 rfl ?_
  refine q_putI (Sh.int hI0.1 kx_231 rfl) rfl ?_
  have hI29 := HI.wI0 hI0 kx_231 rfl (p := 231) (b := 0) (v := 0) rfl
  have hF30 := Fr.wI (p := 231) (b := 0) (v := 0) hF0 rfl
  refine r_iload_n rfl ?_
  refine q_i2l (fun v31 hv31 => ?_)
  refine r_lconst 0 rfl ?_
  refine r_aload_n rfl ?_
  obtain ⟨v32, hv32⟩ : ∃ v, gI g0 231 51 = v := ⟨_, rfl⟩
  have rv32 := RgF.at hI0.2.1 (p := 231) (b := 51) rfl
  rw [hv32] at rv32
  dsimp only at rv32
  refine q_getI (Sh.int hI29.1 kx_231 rfl) v32 ((gI_sI_ne (by decide)).trans hv32) ?_
  refine q_i2l (fun v33 hv33 => ?_)
  refine r_lconst 1 rfl ?_
  refine q_lsub (v33.toInt - 1) rfl (by omega) (fun v34 hv34 => ?_)
  refine q_inlS 18 rfl [.long v31, .long 0, .long v34] [] (Nat.le_of_ble_eq_true rfl) rfl ?_
  refine Ev.mk rfl rfl ⟨Nat.le_of_ble_eq_true rfl, Or.inl rfl⟩ ?_
  show At _ none _ _ (0, [(0, .long v31), (2, .long 0), (4, .long v34)], [], (_, _)) _
  refine At.enter rfl ?_
  refine r_lload_n rfl ?_
  refine r_lload_n rfl ?_
  refine r_lcmp _ rfl ?_
  refine r_ifs 6 rfl (fun c35 => ?_) (fun c35 => ?_)
  · have c35_ : v31.toInt < 0 := en_j_lt_t c35
    refine At.enter rfl ?_
    refine r_iconst 0 rfl ?_
    refine Ar.fall 18 rfl ?_
    refine At.enter rfl ?_
    refine q_iretz (by decide) ?_
    refine At.enter rfl ?_
    refine r_ift (by decide) ?_
    refine At.enter rfl ?_
    refine r_iconst (-1) rfl ?_
    refine Ar.fall 54 rfl ?_
    refine At.enter rfl ?_
    refine r_ireti ?_
    exact ⟨_, rfl, hI29, hF30, _, rfl, trivial⟩
  · have c35_ : v31.toInt ≥ 0 := en_j_lt_f c35
    refine At.enter rfl ?_
    refine r_lload_n rfl ?_
    refine r_lload rfl ?_
    refine r_lcmp _ rfl ?_
    refine r_ifs 13 rfl (fun c36 => ?_) (fun c36 => ?_)
    · have c36_ : v31.toInt > v34.toInt := en_j_gt_t c36
      refine At.enter rfl ?_
      refine r_iconst 0 rfl ?_
      refine Ar.fall 18 rfl ?_
      refine At.enter rfl ?_
      refine q_iretz (by decide) ?_
      refine At.enter rfl ?_
      refine r_ift (by decide) ?_
      refine At.enter rfl ?_
      refine r_iconst (-1) rfl ?_
      refine Ar.fall 54 rfl ?_
      refine At.enter rfl ?_
      refine r_ireti ?_
      exact ⟨_, rfl, hI29, hF30, _, rfl, trivial⟩
    · have c36_ : v31.toInt ≤ v34.toInt := en_j_gt_f c36
      refine At.enter rfl ?_
      refine r_iconst 1 rfl ?_
      refine r_goto ?_
      refine At.enter rfl ?_
      refine q_iretz (by decide) ?_
      refine At.enter rfl ?_
      refine r_iff 21 rfl (by decide) ?_
      refine At.enter rfl ?_
      refine r_iload_n rfl ?_
      refine q_i2l (fun v37 hv37 => ?_)
      refine r_lconst 0 rfl ?_
      refine r_lconst 1 rfl ?_
      refine q_inlS 28 rfl [.long v37, .long 0, .long 1] [] (Nat.le_of_ble_eq_true rfl) rfl ?_
      refine Ev.mk rfl rfl ⟨Nat.le_of_ble_eq_true rfl, Or.inl rfl⟩ ?_
      show At _ none _ _ (0, [(0, .long v37), (2, .long 0), (4, .long 1)], [], (_, _)) _
      refine At.enter rfl ?_
      refine r_lload_n rfl ?_
      refine r_lload_n rfl ?_
      refine r_lcmp _ rfl ?_
      refine r_ifs 6 rfl (fun c38 => ?_) (fun c38 => ?_)
      · have c38_ : v37.toInt < 0 := en_j_lt_t c38
        refine At.enter rfl ?_
        refine r_iconst 0 rfl ?_
        refine Ar.fall 18 rfl ?_
        refine At.enter rfl ?_
        refine q_iretz (by decide) ?_
        refine At.enter rfl ?_
        refine r_ift (by decide) ?_
        refine At.enter rfl ?_
        refine r_iconst (-1) rfl ?_
        refine Ar.fall 54 rfl ?_
        refine At.enter rfl ?_
        refine r_ireti ?_
        exact ⟨_, rfl, hI29, hF30, _, rfl, trivial⟩
      · have c38_ : v37.toInt ≥ 0 := en_j_lt_f c38
        refine At.enter rfl ?_
        refine r_lload_n rfl ?_
        refine r_lload rfl ?_
        refine r_lcmp _ rfl ?_
        refine r_ifs 13 rfl (fun c39 => ?_) (fun c39 => ?_)
        · have c39_ : v37.toInt > 1 := en_j_gt_t c39
          refine At.enter rfl ?_
          refine r_iconst 0 rfl ?_
          refine Ar.fall 18 rfl ?_
          refine At.enter rfl ?_
          refine q_iretz (by decide) ?_
          refine At.enter rfl ?_
          refine r_ift (by decide) ?_
          refine At.enter rfl ?_
          refine r_iconst (-1) rfl ?_
          refine Ar.fall 54 rfl ?_
          refine At.enter rfl ?_
          refine r_ireti ?_
          exact ⟨_, rfl, hI29, hF30, _, rfl, trivial⟩
        · have c39_ : v37.toInt ≤ 1 := en_j_gt_f c39
          refine At.enter rfl ?_
          refine r_iconst 1 rfl ?_
          refine r_goto ?_
          refine At.enter rfl ?_
          refine q_iretz (by decide) ?_
          refine At.enter rfl ?_
          refine r_iff 31 rfl (by decide) ?_
          refine At.enter rfl ?_
          refine r_iload_n rfl ?_
          refine r_ifs 35 rfl (fun c40 => ?_) (fun c40 => ?_)
          · have c40_ : a2.toInt ≠ 0 := en_k_ne_t c40
            refine At.enter rfl ?_
            refine r_aload_n rfl ?_
            refine q_getR (Sh.ref hI29.1 kx_231 rfl) ?_
            refine r_iload_n rfl ?_
            obtain ⟨v41, hv41⟩ : ∃ v, eA g0 258 a1.toInt = v := ⟨_, rfl⟩
            refine q_iald (Sh.arr hI29.1 ka_258) a1.toInt rfl (by omega) v41 ((eA_c (gA_sI)).trans hv41) ?_
            refine r_goto ?_
            refine At.enter rfl ?_
            refine r_ireti ?_
            exact ⟨_, rfl, hI29, hF30, _, rfl, trivial⟩
          · have c40_ : a2.toInt = 0 := en_k_ne_f c40
            refine At.enter rfl ?_
            refine r_aload_n rfl ?_
            refine q_getR (Sh.ref hI29.1 kx_231 rfl) ?_
            refine r_iload_n rfl ?_
            obtain ⟨v42, hv42⟩ : ∃ v, eA g0 257 a1.toInt = v := ⟨_, rfl⟩
            refine q_iald (Sh.arr hI29.1 ka_257) a1.toInt rfl (by omega) v42 ((eA_c (gA_sI)).trans hv42) ?_
            refine r_goto ?_
            refine At.enter rfl ?_
            refine r_ireti ?_
            exact ⟨_, rfl, hI29, hF30, _, rfl, trivial⟩

def F_X11_count_231 : List (Nat × Nat) := [(231, 0), (231, 27), (231, 30), (231, 31), (231, 32), (231, 36)]
def A_X11_count_231 : List Nat := [246, 247, 248, 250, 251, 252, 253, 254, 255, 256]
set_option maxRecDepth 100000 in
set_option maxHeartbeats 4000000 in
theorem T_X11_count_231 (d : Nat) {N : Nat} {g0 : List en_E} (hI0 : HI g0) (a1 : Int32) : Ev (d + 9) 263 [.ref 231, .int a1] (g0, N) (fun w h' => ∃ g', h' = (g', N) ∧ HI g' ∧ Fr F_X11_count_231 A_X11_count_231 g0 g' ∧ ∃ r : Int32, w = some (.int r) ∧ True) := by
  have hF0 : Fr F_X11_count_231 A_X11_count_231 g0 g0 := Fr.rf
  refine Ev.mk rfl rfl ⟨Nat.le_of_ble_eq_true rfl, Or.inr (q_rc hI0.1 kx_231 rfl)⟩ ?_
  show At _ none _ _ (0, [(0, .ref 231), (1, .int a1)], [], (_, _)) _
  refine At.enter rfl ?_
  refine r_aload_n rfl ?_
  refine r_iconst 0 rfl ?_
  refine q_putI (Sh.int hI0.1 kx_231 rfl) rfl ?_
  have hI1691 := HI.wI0 hI0 kx_231 rfl (p := 231) (b := 0) (v := 0) rfl
  have hF1692 := Fr.wI (p := 231) (b := 0) (v := 0) hF0 rfl
  refine r_iload_n rfl ?_
  refine r_iconst 4 rfl ?_
  refine r_ics 10 rfl (fun c1693 => ?_) (fun c1693 => ?_)
  · have c1693_ : a1.toInt = 4 := en_i_eq_t c1693
    refine At.enter rfl ?_
    refine r_aload_n rfl ?_
    refine r_callV 19 rfl [.ref 231] [] (Nat.le_of_ble_eq_true rfl) rfl (T_X11_runDay_231 _ hI1691) ?_
    rintro _ _ ⟨g1694, rfl, hI1695, hF1696, rfl⟩
    refine At.stn ?_
    have hF1699 := Fr.tr hF1692 hF1696 rfl rfl
    refine At.enter rfl ?_
    refine r_iconst 0 rfl ?_
    refine r_istore_n ([(2, .int 0), (0, .ref 231), (1, .int a1)]) rfl ?_
    refine r_iconst 0 rfl ?_
    refine r_istore_n ([(3, .int 0), (2, .int 0), (0, .ref 231), (1, .int a1)]) rfl ?_
    refine Ar.fall 23 rfl ?_
    have z_2155 : (0 : Int32).toInt = 0 := rfl
    have z_2156 : (0 : Int32).toInt = 0 := rfl
    refine w_loopI (fun n_ l_ g_ => ∃ x2142 : Int32, ∃ x2143 : Int32, n_ = 8 - x2143.toInt ∧ HI g_ ∧ Fr F_X11_count_231 A_X11_count_231 g0 g_ ∧ en_get 0 l_ = some (.ref 231) ∧ en_get 1 l_ = some (.int a1) ∧ en_get 2 l_ = some (.int x2142) ∧ en_get 3 l_ = some (.int x2143) ∧ (0 ≤ x2143.toInt ∧ x2143.toInt ≤ 8)) ?_ (8 - 0) ⟨0, 0, by first | rfl | omega, hI1695, hF1699, rfl, rfl, rfl, rfl, by decide⟩
    rintro n2148 l2147 g2144 ⟨x2142, x2143, hm2157, hI2145, hF2146, e2150, e2151, e2152, e2153, r2154⟩ ih2149
    refine At.enter rfl ?_
    refine r_iload_n e2153 ?_
    refine r_aload_n e2150 ?_
    refine q_getR (Sh.ref hI2145.1 kx_231 rfl) ?_
    refine r_iconst 1 rfl ?_
    obtain ⟨v2158, hv2158⟩ : ∃ v, eA g0 233 1 = v := ⟨_, rfl⟩
    have tv2158 := congrArg Int32.toInt hv2158
    have wv2158 := HI.t1 hI0
    rw [hv2158] at wv2158
    refine q_iald (Sh.arr hI2145.1 ka_233) 1 rfl (by decide) v2158 ((eA_c (hF2146.2.1 233 (by decide))).trans hv2158) ?_
    have bv2160 := q_bnd x2143
    have bv2161 := q_bnd v2158
    refine r_ics 33 rfl (fun c2159 => ?_) (fun c2159 => ?_)
    · have c2159_ : x2143.toInt ≥ v2158.toInt := en_i_ge_t c2159
      refine At.enter rfl ?_
      refine r_iload_n e2151 ?_
      refine r_iconst 4 rfl ?_
      refine r_ics 62 rfl (fun c2162 => ?_) (fun c2162 => ?_)
      · have c2162_ : a1.toInt ≠ 4 := en_i_ne_t c2162
        exfalso; omega
      · have c2162_ : a1.toInt = 4 := en_i_ne_f c2162
        refine At.enter rfl ?_
        refine r_aload_n e2150 ?_
        refine r_callV 66 rfl [.ref 231] [] (Nat.le_of_ble_eq_true rfl) rfl (T_X11_byNoon_231 _ hI2145) ?_
        rintro _ _ ⟨g2163, rfl, hI2164, hF2165, v2166, rfl, hr2167⟩
        refine At.sti ?_
        have hF2168 := Fr.tr hF2146 hF2165 rfl rfl
        refine At.enter rfl ?_
        refine r_goto ?_
        refine At.enter rfl ?_
        refine r_ireti ?_
        exact ⟨_, rfl, hI2164, hF2168, _, rfl, trivial⟩
    · have c2159_ : x2143.toInt < v2158.toInt := en_i_ge_f c2159
      refine At.enter rfl ?_
      refine r_iload_n e2152 ?_
      refine r_aload_n e2150 ?_
      refine q_getR (Sh.ref hI2145.1 kx_231 rfl) ?_
      refine r_iload_n e2153 ?_
      obtain ⟨v2169, hv2169⟩ : ∃ v, eA g2144 253 x2143.toInt = v := ⟨_, rfl⟩
      refine q_iald (Sh.arr hI2145.1 ka_253) x2143.toInt rfl (by omega) v2169 hv2169 ?_
      refine r_iconst (-1) rfl ?_
      refine r_ics 44 rfl (fun c2170 => ?_) (fun c2170 => ?_)
      · have c2170_ : v2169.toInt ≠ (-1) := en_i_ne_t c2170
        refine At.enter rfl ?_
        refine r_iconst 0 rfl ?_
        refine Ar.fall 49 rfl ?_
        refine At.enter rfl ?_
        have bv2171 := q_bnd x2142
        refine q_iadd (x2142.toInt + 0) rfl (by omega) (fun v2172 hv2172 => ?_)
        refine r_istore_n _ rfl ?_
        refine q_iinc (w_p1 (by decide) (Or.inr rfl) e2153) (x2143.toInt + 1) rfl (by omega) (fun v2173 hv2173 => ?_)
        refine r_goto ?_
        have bv2174 := q_bnd v2172
        exact ih2149 (8 - v2173.toInt) _ _ ⟨v2172, v2173, by first | rfl | omega, hI2145, hF2146, (w_p1 (by decide) (Or.inr rfl) (w_p1 (by decide) (Or.inr rfl) e2150)), (w_p1 (by decide) (Or.inr rfl) (w_p1 (by decide) (Or.inr rfl) e2151)), (w_p1 (by decide) (Or.inr rfl) (w_e1 _ _ _)), (w_e1 _ _ _), by omega⟩ ⟨by omega, by omega⟩
      · have c2170_ : v2169.toInt = (-1) := en_i_ne_f c2170
        refine At.enter rfl ?_
        refine r_iconst 1 rfl ?_
        refine r_goto ?_
        refine At.enter rfl ?_
        refine q_iaddO (fun v2175 _ => ?_)
        refine r_istore_n _ rfl ?_
        refine q_iinc (w_p1 (by decide) (Or.inr rfl) e2153) (x2143.toInt + 1) rfl (by omega) (fun v2176 hv2176 => ?_)
        refine r_goto ?_
        have bv2177 := q_bnd v2175
        exact ih2149 (8 - v2176.toInt) _ _ ⟨v2175, v2176, by first | rfl | omega, hI2145, hF2146, (w_p1 (by decide) (Or.inr rfl) (w_p1 (by decide) (Or.inr rfl) e2150)), (w_p1 (by decide) (Or.inr rfl) (w_p1 (by decide) (Or.inr rfl) e2151)), (w_p1 (by decide) (Or.inr rfl) (w_e1 _ _ _)), (w_e1 _ _ _), by omega⟩ ⟨by omega, by omega⟩
  · have c1693_ : a1.toInt ≠ 4 := en_i_eq_f c1693
    refine At.enter rfl ?_
    refine r_iload_n rfl ?_
    refine r_iconst 5 rfl ?_
    refine r_ics 15 rfl (fun c2178 => ?_) (fun c2178 => ?_)
    · have c2178_ : a1.toInt ≠ 5 := en_i_ne_t c2178
      refine At.enter rfl ?_
      refine r_iload_n rfl ?_
      by_cases c2179_0 : a1.toInt = 0
      · refine r_tsw 148 (by rw [c2179_0]; rfl) ?_
        refine At.enter rfl ?_
        refine r_aload_n rfl ?_
        refine q_getR (Sh.ref hI1691.1 kx_231 rfl) ?_
        refine r_iconst 0 rfl ?_
        obtain ⟨v2180, hv2180⟩ : ∃ v, eA g0 233 0 = v := ⟨_, rfl⟩
        have tv2180 := congrArg Int32.toInt hv2180
        have wv2180 := HI.t0 hI0
        rw [hv2180] at wv2180
        refine q_iald (Sh.arr hI1691.1 ka_233) 0 rfl (by decide) v2180 ((eA_c (gA_sI)).trans hv2180) ?_
        refine r_ireti ?_
        exact ⟨_, rfl, hI1691, hF1692, _, rfl, trivial⟩
      by_cases c2179_1 : a1.toInt = 1
      · refine r_tsw 155 (by rw [c2179_1]; rfl) ?_
        refine At.enter rfl ?_
        refine r_aload_n rfl ?_
        refine q_getR (Sh.ref hI1691.1 kx_231 rfl) ?_
        refine r_iconst 1 rfl ?_
        obtain ⟨v2181, hv2181⟩ : ∃ v, eA g0 233 1 = v := ⟨_, rfl⟩
        have tv2181 := congrArg Int32.toInt hv2181
        have wv2181 := HI.t1 hI0
        rw [hv2181] at wv2181
        refine q_iald (Sh.arr hI1691.1 ka_233) 1 rfl (by decide) v2181 ((eA_c (gA_sI)).trans hv2181) ?_
        refine r_ireti ?_
        exact ⟨_, rfl, hI1691, hF1692, _, rfl, trivial⟩
      by_cases c2179_2 : a1.toInt = 2
      · refine r_tsw 162 (by rw [c2179_2]; rfl) ?_
        refine At.enter rfl ?_
        refine r_aload_n rfl ?_
        refine q_getR (Sh.ref hI1691.1 kx_231 rfl) ?_
        refine r_iconst 2 rfl ?_
        obtain ⟨v2182, hv2182⟩ : ∃ v, eA g0 233 2 = v := ⟨_, rfl⟩
        have tv2182 := congrArg Int32.toInt hv2182
        have wv2182 := HI.t2 hI0
        rw [hv2182] at wv2182
        refine q_iald (Sh.arr hI1691.1 ka_233) 2 rfl (by decide) v2182 ((eA_c (gA_sI)).trans hv2182) ?_
        refine r_ireti ?_
        exact ⟨_, rfl, hI1691, hF1692, _, rfl, trivial⟩
      by_cases c2179_3 : a1.toInt = 3
      · refine r_tsw 169 (by rw [c2179_3]; rfl) ?_
        refine At.enter rfl ?_
        refine r_aload_n rfl ?_
        refine q_getR (Sh.ref hI1691.1 kx_231 rfl) ?_
        refine r_iconst 4 rfl ?_
        obtain ⟨v2183, hv2183⟩ : ∃ v, eA g0 233 4 = v := ⟨_, rfl⟩
        have wv2183 := HI.t4 hI0
        rw [hv2183] at wv2183
        refine q_iald (Sh.arr hI1691.1 ka_233) 4 rfl (by decide) v2183 ((eA_c (gA_sI)).trans hv2183) ?_
        refine r_ireti ?_
        exact ⟨_, rfl, hI1691, hF1692, _, rfl, trivial⟩
      by_cases c2179_4 : a1.toInt = 4
      · refine r_tsw 239 (by rw [c2179_4]; rfl) ?_
        refine At.enter rfl ?_
        refine r_iconst (-1) rfl ?_
        refine r_ireti ?_
        exact ⟨_, rfl, hI1691, hF1692, _, rfl, trivial⟩
      by_cases c2179_5 : a1.toInt = 5
      · refine r_tsw 239 (by rw [c2179_5]; rfl) ?_
        refine At.enter rfl ?_
        refine r_iconst (-1) rfl ?_
        refine r_ireti ?_
        exact ⟨_, rfl, hI1691, hF1692, _, rfl, trivial⟩
      by_cases c2179_6 : a1.toInt = 6
      · refine r_tsw 176 (by rw [c2179_6]; rfl) ?_
        refine At.enter rfl ?_
        refine r_aload_n rfl ?_
        obtain ⟨v2184, hv2184⟩ : ∃ v, gI g0 231 8 = v := ⟨_, rfl⟩
        have rv2184 := RgF.at hI0.2.1 (p := 231) (b := 8) rfl
        rw [hv2184] at rv2184
        dsimp only at rv2184
        refine q_getI (Sh.int hI1691.1 kx_231 rfl) v2184 ((gI_sI_ne (by decide)).trans hv2184) ?_
        refine r_ireti ?_
        exact ⟨_, rfl, hI1691, hF1692, _, rfl, trivial⟩
      by_cases c2179_7 : a1.toInt = 7
      · refine r_tsw 181 (by rw [c2179_7]; rfl) ?_
        refine At.enter rfl ?_
        refine r_aload_n rfl ?_
        refine q_getR (Sh.ref hI1691.1 kx_231 rfl) ?_
        refine r_iconst 1 rfl ?_
        obtain ⟨v2185, hv2185⟩ : ∃ v, eA g0 232 1 = v := ⟨_, rfl⟩
        refine q_iald (Sh.arr hI1691.1 ka_232) 1 rfl (by decide) v2185 ((eA_c (gA_sI)).trans hv2185) ?_
        refine r_ireti ?_
        exact ⟨_, rfl, hI1691, hF1692, _, rfl, trivial⟩
      by_cases c2179_8 : a1.toInt = 8
      · refine r_tsw 188 (by rw [c2179_8]; rfl) ?_
        refine At.enter rfl ?_
        refine r_aload_n rfl ?_
        refine q_getR (Sh.ref hI1691.1 kx_231 rfl) ?_
        refine r_iconst 2 rfl ?_
        obtain ⟨v2186, hv2186⟩ : ∃ v, eA g0 232 2 = v := ⟨_, rfl⟩
        refine q_iald (Sh.arr hI1691.1 ka_232) 2 rfl (by decide) v2186 ((eA_c (gA_sI)).trans hv2186) ?_
        refine r_ireti ?_
        exact ⟨_, rfl, hI1691, hF1692, _, rfl, trivial⟩
      by_cases c2179_9 : a1.toInt = 9
      · refine r_tsw 195 (by rw [c2179_9]; rfl) ?_
        refine At.enter rfl ?_
        refine r_aload_n rfl ?_
        refine q_getR (Sh.ref hI1691.1 kx_231 rfl) ?_
        refine r_iconst 3 rfl ?_
        obtain ⟨v2187, hv2187⟩ : ∃ v, eA g0 232 3 = v := ⟨_, rfl⟩
        refine q_iald (Sh.arr hI1691.1 ka_232) 3 rfl (by decide) v2187 ((eA_c (gA_sI)).trans hv2187) ?_
        refine r_ireti ?_
        exact ⟨_, rfl, hI1691, hF1692, _, rfl, trivial⟩
      by_cases c2179_10 : a1.toInt = 10
      · refine r_tsw 202 (by rw [c2179_10]; rfl) ?_
        refine At.enter rfl ?_
        refine r_aload_n rfl ?_
        refine q_getR (Sh.ref hI1691.1 kx_231 rfl) ?_
        refine r_iconst 5 rfl ?_
        obtain ⟨v2188, hv2188⟩ : ∃ v, eA g0 232 5 = v := ⟨_, rfl⟩
        refine q_iald (Sh.arr hI1691.1 ka_232) 5 rfl (by decide) v2188 ((eA_c (gA_sI)).trans hv2188) ?_
        refine r_ireti ?_
        exact ⟨_, rfl, hI1691, hF1692, _, rfl, trivial⟩
      by_cases c2179_11 : a1.toInt = 11
      · refine r_tsw 209 (by rw [c2179_11]; rfl) ?_
        refine At.enter rfl ?_
        refine r_aload_n rfl ?_
        refine q_getR (Sh.ref hI1691.1 kx_231 rfl) ?_
        refine r_bipush 6 rfl ?_
        obtain ⟨v2189, hv2189⟩ : ∃ v, eA g0 232 6 = v := ⟨_, rfl⟩
        refine q_iald (Sh.arr hI1691.1 ka_232) 6 rfl (by decide) v2189 ((eA_c (gA_sI)).trans hv2189) ?_
        refine r_ireti ?_
        exact ⟨_, rfl, hI1691, hF1692, _, rfl, trivial⟩
      by_cases c2179_12 : a1.toInt = 12
      · refine r_tsw 217 (by rw [c2179_12]; rfl) ?_
        refine At.enter rfl ?_
        refine r_aload_n rfl ?_
        refine q_getR (Sh.ref hI1691.1 kx_231 rfl) ?_
        refine r_iconst 3 rfl ?_
        obtain ⟨v2190, hv2190⟩ : ∃ v, eA g0 233 3 = v := ⟨_, rfl⟩
        have wv2190 := HI.t3 hI0
        rw [hv2190] at wv2190
        refine q_iald (Sh.arr hI1691.1 ka_233) 3 rfl (by decide) v2190 ((eA_c (gA_sI)).trans hv2190) ?_
        refine r_ireti ?_
        exact ⟨_, rfl, hI1691, hF1692, _, rfl, trivial⟩
      by_cases c2179_13 : a1.toInt = 13
      · refine r_tsw 224 (by rw [c2179_13]; rfl) ?_
        refine At.enter rfl ?_
        refine r_aload_n rfl ?_
        refine q_getR (Sh.ref hI1691.1 kx_231 rfl) ?_
        refine r_iconst 5 rfl ?_
        obtain ⟨v2191, hv2191⟩ : ∃ v, eA g0 233 5 = v := ⟨_, rfl⟩
        have wv2191 := HI.t5 hI0
        rw [hv2191] at wv2191
        refine q_iald (Sh.arr hI1691.1 ka_233) 5 rfl (by decide) v2191 ((eA_c (gA_sI)).trans hv2191) ?_
        refine r_ireti ?_
        exact ⟨_, rfl, hI1691, hF1692, _, rfl, trivial⟩
      by_cases c2179_14 : a1.toInt = 14
      · refine r_tsw 231 (by rw [c2179_14]; rfl) ?_
        refine At.enter rfl ?_
        refine r_aload_n rfl ?_
        refine q_getR (Sh.ref hI1691.1 kx_231 rfl) ?_
        refine r_bipush 6 rfl ?_
        obtain ⟨v2192, hv2192⟩ : ∃ v, eA g0 233 6 = v := ⟨_, rfl⟩
        have wv2192 := HI.t6 hI0
        rw [hv2192] at wv2192
        refine q_iald (Sh.arr hI1691.1 ka_233) 6 rfl (by decide) v2192 ((eA_c (gA_sI)).trans hv2192) ?_
        refine r_ireti ?_
        exact ⟨_, rfl, hI1691, hF1692, _, rfl, trivial⟩
      have c2193 : a1.toInt < 0 ∨ 14 < a1.toInt := by omega
      refine r_tsw 239 (by unfold en_sw; rw [if_pos c2193]; rfl) ?_
      refine At.enter rfl ?_
      refine r_iconst (-1) rfl ?_
      refine r_ireti ?_
      exact ⟨_, rfl, hI1691, hF1692, _, rfl, trivial⟩
    · have c2178_ : a1.toInt = 5 := en_i_ne_f c2178
      refine At.enter rfl ?_
      refine r_aload_n rfl ?_
      refine r_callV 19 rfl [.ref 231] [] (Nat.le_of_ble_eq_true rfl) rfl (T_X11_runDay_231 _ hI1691) ?_
      rintro _ _ ⟨g2194, rfl, hI2195, hF2196, rfl⟩
      refine At.stn ?_
      have hF2199 := Fr.tr hF1692 hF2196 rfl rfl
      refine At.enter rfl ?_
      refine r_iconst 0 rfl ?_
      refine r_istore_n ([(2, .int 0), (0, .ref 231), (1, .int a1)]) rfl ?_
      refine r_iconst 0 rfl ?_
      refine r_istore_n ([(3, .int 0), (2, .int 0), (0, .ref 231), (1, .int a1)]) rfl ?_
      refine Ar.fall 23 rfl ?_
      have z_2523 : (0 : Int32).toInt = 0 := rfl
      have z_2524 : (0 : Int32).toInt = 0 := rfl
      refine w_loopI (fun n_ l_ g_ => ∃ x2510 : Int32, ∃ x2511 : Int32, n_ = 8 - x2511.toInt ∧ HI g_ ∧ Fr F_X11_count_231 A_X11_count_231 g0 g_ ∧ en_get 0 l_ = some (.ref 231) ∧ en_get 1 l_ = some (.int a1) ∧ en_get 2 l_ = some (.int x2510) ∧ en_get 3 l_ = some (.int x2511) ∧ (0 ≤ x2511.toInt ∧ x2511.toInt ≤ 8)) ?_ (8 - 0) ⟨0, 0, by first | rfl | omega, hI2195, hF2199, rfl, rfl, rfl, rfl, by decide⟩
      rintro n2516 l2515 g2512 ⟨x2510, x2511, hm2525, hI2513, hF2514, e2518, e2519, e2520, e2521, r2522⟩ ih2517
      refine At.enter rfl ?_
      refine r_iload_n e2521 ?_
      refine r_aload_n e2518 ?_
      refine q_getR (Sh.ref hI2513.1 kx_231 rfl) ?_
      refine r_iconst 1 rfl ?_
      obtain ⟨v2526, hv2526⟩ : ∃ v, eA g0 233 1 = v := ⟨_, rfl⟩
      have tv2526 := congrArg Int32.toInt hv2526
      have wv2526 := HI.t1 hI0
      rw [hv2526] at wv2526
      refine q_iald (Sh.arr hI2513.1 ka_233) 1 rfl (by decide) v2526 ((eA_c (hF2514.2.1 233 (by decide))).trans hv2526) ?_
      have bv2528 := q_bnd x2511
      have bv2529 := q_bnd v2526
      refine r_ics 33 rfl (fun c2527 => ?_) (fun c2527 => ?_)
      · have c2527_ : x2511.toInt ≥ v2526.toInt := en_i_ge_t c2527
        refine At.enter rfl ?_
        refine r_iload_n e2519 ?_
        refine r_iconst 4 rfl ?_
        refine r_ics 62 rfl (fun c2530 => ?_) (fun c2530 => ?_)
        · have c2530_ : a1.toInt ≠ 4 := en_i_ne_t c2530
          refine At.enter rfl ?_
          refine r_iload_n e2520 ?_
          refine Ar.fall 70 rfl ?_
          refine At.enter rfl ?_
          refine r_ireti ?_
          exact ⟨_, rfl, hI2513, hF2514, _, rfl, trivial⟩
        · have c2530_ : a1.toInt = 4 := en_i_ne_f c2530
          exfalso; omega
      · have c2527_ : x2511.toInt < v2526.toInt := en_i_ge_f c2527
        refine At.enter rfl ?_
        refine r_iload_n e2520 ?_
        refine r_aload_n e2518 ?_
        refine q_getR (Sh.ref hI2513.1 kx_231 rfl) ?_
        refine r_iload_n e2521 ?_
        obtain ⟨v2531, hv2531⟩ : ∃ v, eA g2512 253 x2511.toInt = v := ⟨_, rfl⟩
        refine q_iald (Sh.arr hI2513.1 ka_253) x2511.toInt rfl (by omega) v2531 hv2531 ?_
        refine r_iconst (-1) rfl ?_
        refine r_ics 44 rfl (fun c2532 => ?_) (fun c2532 => ?_)
        · have c2532_ : v2531.toInt ≠ (-1) := en_i_ne_t c2532
          refine At.enter rfl ?_
          refine r_iconst 0 rfl ?_
          refine Ar.fall 49 rfl ?_
          refine At.enter rfl ?_
          have bv2533 := q_bnd x2510
          refine q_iadd (x2510.toInt + 0) rfl (by omega) (fun v2534 hv2534 => ?_)
          refine r_istore_n _ rfl ?_
          refine q_iinc (w_p1 (by decide) (Or.inr rfl) e2521) (x2511.toInt + 1) rfl (by omega) (fun v2535 hv2535 => ?_)
          refine r_goto ?_
          have bv2536 := q_bnd v2534
          exact ih2517 (8 - v2535.toInt) _ _ ⟨v2534, v2535, by first | rfl | omega, hI2513, hF2514, (w_p1 (by decide) (Or.inr rfl) (w_p1 (by decide) (Or.inr rfl) e2518)), (w_p1 (by decide) (Or.inr rfl) (w_p1 (by decide) (Or.inr rfl) e2519)), (w_p1 (by decide) (Or.inr rfl) (w_e1 _ _ _)), (w_e1 _ _ _), by omega⟩ ⟨by omega, by omega⟩
        · have c2532_ : v2531.toInt = (-1) := en_i_ne_f c2532
          refine At.enter rfl ?_
          refine r_iconst 1 rfl ?_
          refine r_goto ?_
          refine At.enter rfl ?_
          refine q_iaddO (fun v2537 _ => ?_)
          refine r_istore_n _ rfl ?_
          refine q_iinc (w_p1 (by decide) (Or.inr rfl) e2521) (x2511.toInt + 1) rfl (by omega) (fun v2538 hv2538 => ?_)
          refine r_goto ?_
          have bv2539 := q_bnd v2537
          exact ih2517 (8 - v2538.toInt) _ _ ⟨v2537, v2538, by first | rfl | omega, hI2513, hF2514, (w_p1 (by decide) (Or.inr rfl) (w_p1 (by decide) (Or.inr rfl) e2518)), (w_p1 (by decide) (Or.inr rfl) (w_p1 (by decide) (Or.inr rfl) e2519)), (w_p1 (by decide) (Or.inr rfl) (w_e1 _ _ _)), (w_e1 _ _ _), by omega⟩ ⟨by omega, by omega⟩
