def F_X11_must_231 : List (Nat × Nat) := [(231, 9), (231, 10), (231, 11), (231, 12), (231, 13), (231, 14)]
def A_X11_must_231 : List Nat := []
theorem mf_X11_next_231_231_8 : memF F_X11_next_231 231 8 = false := by decide
theorem mf_X11_next_231_231_14 : memF F_X11_next_231 231 14 = false := by decide
theorem mf_X11_next_231_231_13 : memF F_X11_next_231 231 13 = false := by decide
set_option maxRecDepth 100000 in
set_option maxHeartbeats 4000000 in
theorem T_X11_must_231 (d : Nat) {N : Nat} {g0 : List en_E} (hI0 : HI g0) (a1 : Int32) (h_a1 : 0 ≤ a1.toInt ∧ a1.toInt ≤ 1) (h1 : ((gI g0 231 9).toInt ≤ (gI g0 231 10).toInt ∧ (gI g0 231 10).toInt ≤ (gI g0 231 8).toInt ∧ 0 ≤ (gI g0 231 11).toInt ∧ (gI g0 231 11).toInt ≤ 3 * ((gI g0 231 10).toInt - (gI g0 231 9).toInt))) (hW : W26 g0) (hK : TKM g0) : Ev (d + 3) 193 [.ref 231, .int a1] (g0, N) (fun w h' => ∃ g', h' = (g', N) ∧ HI g' ∧ Fr F_X11_must_231 A_X11_must_231 g0 g' ∧ w = none ∧ ((gI g' 231 9).toInt ≤ (gI g' 231 10).toInt ∧ (gI g' 231 10).toInt ≤ (gI g' 231 8).toInt ∧ 0 ≤ (gI g' 231 11).toInt ∧ (gI g' 231 11).toInt ≤ 3 * ((gI g' 231 10).toInt - (gI g' 231 9).toInt) ∧ (gI g0 231 9).toInt ≤ (gI g' 231 9).toInt ∧ W26 g' ∧ ((gI g' 231 14).toInt = 0 → (gI g0 231 14).toInt = 0 ∧ a1.toInt ≠ 0 ∧ (gI g0 231 10).toInt ≤ (gI g' 231 9).toInt) ∧ MUSTP g0 g' a1.toInt)) := by
  have hF0 : Fr F_X11_must_231 A_X11_must_231 g0 g0 := Fr.rf
  obtain ⟨v1, hv1⟩ : ∃ v, gI g0 231 8 = v := ⟨_, rfl⟩
  have rv1 := RgF.at hI0.2.1 (p := 231) (b := 8) rfl
  rw [hv1] at rv1
  dsimp only at rv1
  have tv1 := congrArg Int32.toInt hv1
  obtain ⟨v2, hv2⟩ : ∃ v, gI g0 231 9 = v := ⟨_, rfl⟩
  have rv2 := RgF.at hI0.2.1 (p := 231) (b := 9) rfl
  rw [hv2] at rv2
  dsimp only at rv2
  have tv2 := congrArg Int32.toInt hv2
  obtain ⟨v3, hv3⟩ : ∃ v, gI g0 231 10 = v := ⟨_, rfl⟩
  have rv3 := RgF.at hI0.2.1 (p := 231) (b := 10) rfl
  rw [hv3] at rv3
  dsimp only at rv3
  have tv3 := congrArg Int32.toInt hv3
  obtain ⟨v4, hv4⟩ : ∃ v, gI g0 231 11 = v := ⟨_, rfl⟩
  have tv4 := congrArg Int32.toInt hv4
  obtain ⟨v5, hv5⟩ : ∃ v, gI g0 231 14 = v := ⟨_, rfl⟩
  have tv5 := congrArg Int32.toInt hv5
  obtain ⟨v6, hv6⟩ : ∃ v, gI g0 231 13 = v := ⟨_, rfl⟩
  have tv6 := congrArg Int32.toInt hv6
  refine Ev.mk rfl rfl ⟨Nat.le_of_ble_eq_true rfl, Or.inr (q_rc hI0.1 kx_231 rfl)⟩ ?_
  show At _ none _ _ (0, [(0, .ref 231), (1, .int a1)], [], (_, _)) _
  refine At.enter rfl ?_
  refine r_aload_n rfl ?_
  refine q_getI (Sh.int hI0.1 kx_231 rfl) v5 hv5 ?_
  refine r_ifs 7 rfl (fun c127 => ?_) (fun c127 => ?_)
  · have c127_ : v5.toInt ≠ 0 := en_k_ne_t c127
    refine At.enter rfl ?_
    refine r_aload_n rfl ?_
    refine q_getI (Sh.int hI0.1 kx_231 rfl) v5 hv5 ?_
    refine r_ifs 31 rfl (fun c128 => ?_) (fun c128 => ?_)
    · have c128_ : v5.toInt ≠ 0 := en_k_ne_t c128
      refine At.enter rfl ?_
      refine r_vret ?_
      have x129 := HI.eqI hI0 (p := 231) (b := 8) (hv1)
      have px129 : pI _ 8 = _ := HI.eqI hI0 (p := 231) (b := 8) (hv1)
      have px130 : pI _ 9 = _ := HI.eqI hI0 (p := 231) (b := 9) (hv2)
      have px131 : pI _ 10 = _ := HI.eqI hI0 (p := 231) (b := 10) (hv3)
      have px132 : pI _ 11 = _ := HI.eqI hI0 (p := 231) (b := 11) (hv4)
      have px133 : pI _ 14 = _ := HI.eqI hI0 (p := 231) (b := 14) (hv5)
      have px139 : pI _ 13 = _ := HI.eqI hI0 (p := 231) (b := 13) (hv6)
      exact ⟨_, rfl, hI0, hF0, rfl, ⟨by omega, by omega, by omega, by omega, by omega, hW, by omega, MUSTP.mk hK (fun h1 h2 => False.elim (by omega)) (fun h1 h2 => ⟨by omega, by omega⟩) (fun h1 => ⟨by omega, by omega⟩)⟩⟩
    · have c128_ : v5.toInt = 0 := en_k_ne_f c128
      refine At.enter rfl ?_
      refine r_aload_n rfl ?_
      have x143 := HI.eqI hI0 (p := 231) (b := 8) (hv1)
      have px143 : pI _ 8 = _ := HI.eqI hI0 (p := 231) (b := 8) (hv1)
      have px144 : pI _ 10 = _ := HI.eqI hI0 (p := 231) (b := 10) (hv3)
      refine r_callV 35 rfl [.ref 231] [] (Nat.le_of_ble_eq_true rfl) rfl (T_X11_next_231 _ hI0 (by omega)) ?_
      rintro _ _ ⟨g145, rfl, hI146, hF147, rfl, hr149⟩
      refine At.stn ?_
      have hF150 := Fr.tr hF0 hF147 rfl rfl
      have x153 := HI.eqI hI146 (p := 231) (b := 8) (((hF147.1 231 8 mf_X11_next_231_231_8).trans hv1))
      have px153 : pI _ 8 = _ := HI.eqI hI146 (p := 231) (b := 8) (((hF147.1 231 8 mf_X11_next_231_231_8).trans hv1))
      obtain ⟨v154, hv154⟩ : ∃ v, gI g145 231 9 = v := ⟨_, rfl⟩
      have rv154 := RgF.at hI146.2.1 (p := 231) (b := 9) rfl
      rw [hv154] at rv154
      dsimp only at rv154
      have tv154 := congrArg Int32.toInt hv154
      have px155 : pI _ 9 = _ := HI.eqI hI146 (p := 231) (b := 9) (hv154)
      obtain ⟨v156, hv156⟩ : ∃ v, gI g145 231 10 = v := ⟨_, rfl⟩
      have rv156 := RgF.at hI146.2.1 (p := 231) (b := 10) rfl
      rw [hv156] at rv156
      dsimp only at rv156
      have tv156 := congrArg Int32.toInt hv156
      have px157 : pI _ 10 = _ := HI.eqI hI146 (p := 231) (b := 10) (hv156)
      obtain ⟨v158, hv158⟩ : ∃ v, gI g145 231 11 = v := ⟨_, rfl⟩
      have tv158 := congrArg Int32.toInt hv158
      have px159 : pI _ 11 = _ := HI.eqI hI146 (p := 231) (b := 11) (hv158)
      obtain ⟨c160, c161, c162, c163, c164, c165, c166⟩ := hr149
      have tok167_ := c166.2
      have tok167 := TKM.tok hK tok167_
      have hK168 := c166.1
      refine At.enter rfl ?_
      refine r_vret ?_
      have x173 := HI.eqI hI146 (p := 231) (b := 14) (((hF147.1 231 14 mf_X11_next_231_231_14).trans hv5))
      have px173 : pI _ 14 = _ := HI.eqI hI146 (p := 231) (b := 14) (((hF147.1 231 14 mf_X11_next_231_231_14).trans hv5))
      have px175 : pI _ 9 = _ := HI.eqI hI0 (p := 231) (b := 9) (hv2)
      have px177 : pI _ 11 = _ := HI.eqI hI0 (p := 231) (b := 11) (hv4)
      have px178 : pI _ 14 = _ := HI.eqI hI0 (p := 231) (b := 14) (hv5)
      have x179 := HI.eqI hI146 (p := 231) (b := 13) (((hF147.1 231 13 mf_X11_next_231_231_13).trans hv6))
      have px179 : pI _ 13 = _ := HI.eqI hI146 (p := 231) (b := 13) (((hF147.1 231 13 mf_X11_next_231_231_13).trans hv6))
      have px180 : pI _ 13 = _ := HI.eqI hI0 (p := 231) (b := 13) (hv6)
      exact ⟨_, rfl, hI146, hF150, rfl, ⟨by omega, by omega, by omega, by omega, by omega, c165, by omega, MUSTP.mk hK168 (fun h1 h2 => ⟨by omega, by omega, tok167_⟩) (fun h1 h2 => ⟨by omega, by omega⟩) (fun h1 => ⟨by omega, by omega⟩)⟩⟩
  · have c127_ : v5.toInt = 0 := en_k_ne_f c127
    refine At.enter rfl ?_
    refine r_iload_n rfl ?_
    refine r_ifs 11 rfl (fun c183 => ?_) (fun c183 => ?_)
    · have c183_ : a1.toInt ≠ 0 := en_k_ne_t c183
      refine At.enter rfl ?_
      refine r_aload_n rfl ?_
      refine q_getI (Sh.int hI0.1 kx_231 rfl) v5 hv5 ?_
      refine r_ifs 31 rfl (fun c184 => ?_) (fun c184 => ?_)
      · have c184_ : v5.toInt ≠ 0 := en_k_ne_t c184
        exfalso; omega
      · have c184_ : v5.toInt = 0 := en_k_ne_f c184
        refine At.enter rfl ?_
        refine r_aload_n rfl ?_
        have x185 := HI.eqI hI0 (p := 231) (b := 8) (hv1)
        have px185 : pI _ 8 = _ := HI.eqI hI0 (p := 231) (b := 8) (hv1)
        have px186 : pI _ 10 = _ := HI.eqI hI0 (p := 231) (b := 10) (hv3)
        refine r_callV 35 rfl [.ref 231] [] (Nat.le_of_ble_eq_true rfl) rfl (T_X11_next_231 _ hI0 (by omega)) ?_
        rintro _ _ ⟨g187, rfl, hI188, hF189, rfl, hr191⟩
        refine At.stn ?_
        have hF192 := Fr.tr hF0 hF189 rfl rfl
        have x195 := HI.eqI hI188 (p := 231) (b := 8) (((hF189.1 231 8 mf_X11_next_231_231_8).trans hv1))
        have px195 : pI _ 8 = _ := HI.eqI hI188 (p := 231) (b := 8) (((hF189.1 231 8 mf_X11_next_231_231_8).trans hv1))
        obtain ⟨v196, hv196⟩ : ∃ v, gI g187 231 9 = v := ⟨_, rfl⟩
        have rv196 := RgF.at hI188.2.1 (p := 231) (b := 9) rfl
        rw [hv196] at rv196
        dsimp only at rv196
        have tv196 := congrArg Int32.toInt hv196
        have px197 : pI _ 9 = _ := HI.eqI hI188 (p := 231) (b := 9) (hv196)
        obtain ⟨v198, hv198⟩ : ∃ v, gI g187 231 10 = v := ⟨_, rfl⟩
        have rv198 := RgF.at hI188.2.1 (p := 231) (b := 10) rfl
        rw [hv198] at rv198
        dsimp only at rv198
        have tv198 := congrArg Int32.toInt hv198
        have px199 : pI _ 10 = _ := HI.eqI hI188 (p := 231) (b := 10) (hv198)
        obtain ⟨v200, hv200⟩ : ∃ v, gI g187 231 11 = v := ⟨_, rfl⟩
        have tv200 := congrArg Int32.toInt hv200
        have px201 : pI _ 11 = _ := HI.eqI hI188 (p := 231) (b := 11) (hv200)
        obtain ⟨c202, c203, c204, c205, c206, c207, c208⟩ := hr191
        have tok209_ := c208.2
        have tok209 := TKM.tok hK tok209_
        have hK210 := c208.1
        refine At.enter rfl ?_
        refine r_vret ?_
        have x215 := HI.eqI hI188 (p := 231) (b := 14) (((hF189.1 231 14 mf_X11_next_231_231_14).trans hv5))
        have px215 : pI _ 14 = _ := HI.eqI hI188 (p := 231) (b := 14) (((hF189.1 231 14 mf_X11_next_231_231_14).trans hv5))
        have px217 : pI _ 9 = _ := HI.eqI hI0 (p := 231) (b := 9) (hv2)
        have px219 : pI _ 11 = _ := HI.eqI hI0 (p := 231) (b := 11) (hv4)
        have px220 : pI _ 14 = _ := HI.eqI hI0 (p := 231) (b := 14) (hv5)
        have x221 := HI.eqI hI188 (p := 231) (b := 13) (((hF189.1 231 13 mf_X11_next_231_231_13).trans hv6))
        have px221 : pI _ 13 = _ := HI.eqI hI188 (p := 231) (b := 13) (((hF189.1 231 13 mf_X11_next_231_231_13).trans hv6))
        have px222 : pI _ 13 = _ := HI.eqI hI0 (p := 231) (b := 13) (hv6)
        exact ⟨_, rfl, hI188, hF192, rfl, ⟨by omega, by omega, by omega, by omega, by omega, c207, by omega, MUSTP.mk hK210 (fun h1 h2 => ⟨by omega, by omega, tok209_⟩) (fun h1 h2 => ⟨by omega, by omega⟩) (fun h1 => ⟨by omega, by omega⟩)⟩⟩
    · have c183_ : a1.toInt = 0 := en_k_ne_f c183
      refine At.enter rfl ?_
      refine r_aload_n rfl ?_
      refine r_iconst 1 rfl ?_
      refine q_putI (Sh.int hI0.1 kx_231 rfl) rfl ?_
      have hI225 := HI.wI0 hI0 kx_231 rfl (p := 231) (b := 14) (v := 1) rfl
      have hF226 := Fr.wI (p := 231) (b := 14) (v := 1) hF0 rfl
      refine r_aload_n rfl ?_
      refine r_aload_n rfl ?_
      refine q_getI (Sh.int hI225.1 kx_231 rfl) v2 ((gI_sI_ne (by decide)).trans hv2) ?_
      refine q_putI (Sh.int hI225.1 kx_231 rfl) rfl ?_
      have hI227 := HI.wI0 hI225 kx_231 rfl (p := 231) (b := 13) (v := v2) rfl
      have hF228 := Fr.wI (p := 231) (b := 13) (v := v2) hF226 rfl
      refine Ar.fall 24 rfl ?_
      refine At.enter rfl ?_
      refine r_aload_n rfl ?_
      refine q_getI (Sh.int hI227.1 kx_231 rfl) 1 ((gI_sI_ne (by decide)).trans (gI_sI_eq hI0.1 kx_231 rfl _)) ?_
      refine r_ift (by decide) ?_
      refine At.enter rfl ?_
      refine r_vret ?_
      have x229 := HI.eqI hI227 (p := 231) (b := 8) ((((gI_sI_ne (by decide)).trans (gI_sI_ne (by decide))).trans hv1))
      have px229 : pI _ 8 = _ := HI.eqI hI227 (p := 231) (b := 8) ((((gI_sI_ne (by decide)).trans (gI_sI_ne (by decide))).trans hv1))
      have x230 := HI.eqI hI227 (p := 231) (b := 9) ((((gI_sI_ne (by decide)).trans (gI_sI_ne (by decide))).trans hv2))
      have px230 : pI _ 9 = _ := HI.eqI hI227 (p := 231) (b := 9) ((((gI_sI_ne (by decide)).trans (gI_sI_ne (by decide))).trans hv2))
      have x231 := HI.eqI hI227 (p := 231) (b := 10) ((((gI_sI_ne (by decide)).trans (gI_sI_ne (by decide))).trans hv3))
      have px231 : pI _ 10 = _ := HI.eqI hI227 (p := 231) (b := 10) ((((gI_sI_ne (by decide)).trans (gI_sI_ne (by decide))).trans hv3))
      have x232 := HI.eqI hI227 (p := 231) (b := 11) ((((gI_sI_ne (by decide)).trans (gI_sI_ne (by decide))).trans hv4))
      have px232 : pI _ 11 = _ := HI.eqI hI227 (p := 231) (b := 11) ((((gI_sI_ne (by decide)).trans (gI_sI_ne (by decide))).trans hv4))
      have x233 := HI.eqI hI227 (p := 231) (b := 14) (((gI_sI_ne (by decide)).trans (gI_sI_eq hI0.1 kx_231 rfl _)))
      have px233 : pI _ 14 = _ := HI.eqI hI227 (p := 231) (b := 14) (((gI_sI_ne (by decide)).trans (gI_sI_eq hI0.1 kx_231 rfl _)))
      have zv234 : (1 : Int32).toInt = 1 := rfl
      have x235 := HI.eqI hI0 (p := 231) (b := 8) (hv1)
      have px235 : pI _ 8 = _ := HI.eqI hI0 (p := 231) (b := 8) (hv1)
      have px236 : pI _ 9 = _ := HI.eqI hI0 (p := 231) (b := 9) (hv2)
      have px237 : pI _ 10 = _ := HI.eqI hI0 (p := 231) (b := 10) (hv3)
      have px238 : pI _ 11 = _ := HI.eqI hI0 (p := 231) (b := 11) (hv4)
      have px239 : pI _ 14 = _ := HI.eqI hI0 (p := 231) (b := 14) (hv5)
      have w26240 := W26.cong hW hI227 (((gI_sI_ne (by decide)).trans (gI_sI_ne (by decide)))) (((gI_sI_ne (by decide)).trans (gI_sI_ne (by decide)))) (((gI_sI_ne (by decide)).trans (gI_sI_ne (by decide)))) (((gJ_sI_ne (by decide)).trans (gJ_sI_ne (by decide))))
      have x241 := HI.eqI hI227 (p := 231) (b := 13) ((gI_sI_eq hI225.1 kx_231 rfl _))
      have px241 : pI _ 13 = _ := HI.eqI hI227 (p := 231) (b := 13) ((gI_sI_eq hI225.1 kx_231 rfl _))
      have px242 : pI _ 13 = _ := HI.eqI hI0 (p := 231) (b := 13) (hv6)
      exact ⟨_, rfl, hI227, hF228, rfl, ⟨by omega, by omega, by omega, by omega, by omega, w26240, by omega, MUSTP.mk (TKM.c hK (((gA_sI).trans (gA_sI))) (((gI_sI_ne (by decide)).trans (gI_sI_ne (by decide)))) (((gI_sI_ne (by decide)).trans (gI_sI_ne (by decide)))) (((gI_sI_ne (by decide)).trans (gI_sI_ne (by decide)))) (((gI_sI_ne (by decide)).trans (gI_sI_ne (by decide)))) (((gJ_sI_ne (by decide)).trans (gJ_sI_ne (by decide))))) (fun h1 h2 => False.elim (by omega)) (fun h1 h2 => ⟨by omega, by omega⟩) (fun h1 => ⟨by omega, by omega⟩)⟩⟩

def F_X11_isSign_231 : List (Nat × Nat) := []
def A_X11_isSign_231 : List Nat := []
set_option maxRecDepth 100000 in
set_option maxHeartbeats 4000000 in
theorem T_X11_isSign_231 (d : Nat) {N : Nat} {g0 : List en_E} (hI0 : HI g0) (a1 : Int32) (h1 : 0 ≤ (gI g0 231 11).toInt) : Ev (d + 1) 192 [.ref 231, .int a1] (g0, N) (fun w h' => ∃ g', h' = (g', N) ∧ HI g' ∧ Fr F_X11_isSign_231 A_X11_isSign_231 g0 g' ∧ ∃ r : Int32, w = some (.int r) ∧ (0 ≤ r.toInt ∧ r.toInt ≤ 1) ∧ (3 * r.toInt ≤ (gI g0 231 11).toInt ∧ BL (pI g0 11 = 3 ∧ wth g0 = a1.toInt) r.toInt)) := by
  have hF0 : Fr F_X11_isSign_231 A_X11_isSign_231 g0 g0 := Fr.rf
  obtain ⟨v1, hv1⟩ : ∃ v, gI g0 231 11 = v := ⟨_, rfl⟩
  have tv1 := congrArg Int32.toInt hv1
  refine Ev.mk rfl rfl ⟨Nat.le_of_ble_eq_true rfl, Or.inr (q_rc hI0.1 kx_231 rfl)⟩ ?_
  show At _ none _ _ (0, [(0, .ref 231), (1, .int a1)], [], (_, _)) _
  refine At.enter rfl ?_
  refine r_aload_n rfl ?_
  refine q_getI (Sh.int hI0.1 kx_231 rfl) v1 hv1 ?_
  refine r_iconst 3 rfl ?_
  refine r_ics 8 rfl (fun c10 => ?_) (fun c10 => ?_)
  · have c10_ : v1.toInt ≠ 3 := en_i_ne_t c10
    refine At.enter rfl ?_
    refine r_iconst 0 rfl ?_
    refine Ar.fall 23 rfl ?_
    refine At.enter rfl ?_
    refine r_iretz (by decide) ?_
    have x11 := HI.eqI hI0 (p := 231) (b := 11) (hv1)
    have zv13 : (0 : Int32).toInt = 0 := rfl
    obtain ⟨v17, hv17⟩ : ∃ v, gJ g0 231 12 = v := ⟨_, rfl⟩
    have x18 := HI.eqJ hI0 (b := 12) (hv17)
    exact ⟨_, rfl, hI0, hF0, _, rfl, by decide, ⟨by omega, (ISM.mk (show pI g0 11 = _ from congrArg Int32.toInt (hv1)) (show wth g0 = _ from congrArg Int64.toInt (hv17)) (by first | exact Or.inl ⟨by omega, by omega⟩ | exact Or.inr (Or.inl ⟨by omega, by omega, by omega⟩) | exact Or.inr (Or.inr ⟨by omega, by omega, by omega⟩)))⟩⟩
  · have c10_ : v1.toInt = 3 := en_i_ne_f c10
    refine At.enter rfl ?_
    refine r_aload_n rfl ?_
    obtain ⟨v19, hv19⟩ : ∃ v, gJ g0 231 12 = v := ⟨_, rfl⟩
    refine q_getJv (Sh.long hI0.1 kx_231 rfl) v19 hv19 ?_
    refine r_iload_n rfl ?_
    refine q_i2l (fun v20 hv20 => ?_)
    refine r_lcmp _ rfl ?_
    refine r_ifs 18 rfl (fun c21 => ?_) (fun c21 => ?_)
    · have c21_ : v19.toInt ≠ v20.toInt := en_j_ne_t c21
      refine At.enter rfl ?_
      refine r_iconst 0 rfl ?_
      refine Ar.fall 23 rfl ?_
      refine At.enter rfl ?_
      refine r_iretz (by decide) ?_
      have x22 := HI.eqI hI0 (p := 231) (b := 11) (hv1)
      have zv24 : (0 : Int32).toInt = 0 := rfl
      have x28 := HI.eqJ hI0 (b := 12) (hv19)
      exact ⟨_, rfl, hI0, hF0, _, rfl, by decide, ⟨by omega, (ISM.mk (show pI g0 11 = _ from congrArg Int32.toInt (hv1)) (show wth g0 = _ from congrArg Int64.toInt (hv19)) (by first | exact Or.inl ⟨by omega, by omega⟩ | exact Or.inr (Or.inl ⟨by omega, by omega, by omega⟩) | exact Or.inr (Or.inr ⟨by omega, by omega, by omega⟩)))⟩⟩
    · have c21_ : v19.toInt = v20.toInt := en_j_ne_f c21
      refine At.enter rfl ?_
      refine r_iconst 1 rfl ?_
      refine r_goto ?_
      refine At.enter rfl ?_
      refine r_iretz (by decide) ?_
      have x29 := HI.eqI hI0 (p := 231) (b := 11) (hv1)
      have zv31 : (1 : Int32).toInt = 1 := rfl
      have x35 := HI.eqJ hI0 (b := 12) (hv19)
      exact ⟨_, rfl, hI0, hF0, _, rfl, by decide, ⟨by omega, (ISM.mk (show pI g0 11 = _ from congrArg Int32.toInt (hv1)) (show wth g0 = _ from congrArg Int64.toInt (hv19)) (by first | exact Or.inl ⟨by omega, by omega⟩ | exact Or.inr (Or.inl ⟨by omega, by omega, by omega⟩) | exact Or.inr (Or.inr ⟨by omega, by omega, by omega⟩)))⟩⟩

def F_X11_isWord_231 : List (Nat × Nat) := []
def A_X11_isWord_231 : List Nat := []
set_option maxRecDepth 100000 in
set_option maxHeartbeats 4000000 in
theorem T_X11_isWord_231 (d : Nat) {N : Nat} {g0 : List en_E} (hI0 : HI g0) (a1 : Int64) (h1 : 0 ≤ (gI g0 231 11).toInt) : Ev (d + 1) 191 [.ref 231, .long a1] (g0, N) (fun w h' => ∃ g', h' = (g', N) ∧ HI g' ∧ Fr F_X11_isWord_231 A_X11_isWord_231 g0 g' ∧ ∃ r : Int32, w = some (.int r) ∧ (0 ≤ r.toInt ∧ r.toInt ≤ 1) ∧ (r.toInt ≤ (gI g0 231 11).toInt ∧ ISW g0 r.toInt a1.toInt ∧ BL (pI g0 11 = 1 ∧ wth g0 = a1.toInt) r.toInt)) := by
  have hF0 : Fr F_X11_isWord_231 A_X11_isWord_231 g0 g0 := Fr.rf
  obtain ⟨v1, hv1⟩ : ∃ v, gI g0 231 11 = v := ⟨_, rfl⟩
  have tv1 := congrArg Int32.toInt hv1
  refine Ev.mk rfl rfl ⟨Nat.le_of_ble_eq_true rfl, Or.inr (q_rc hI0.1 kx_231 rfl)⟩ ?_
  show At _ none _ _ (0, [(0, .ref 231), (1, .long a1)], [], (_, _)) _
  refine At.enter rfl ?_
  refine r_aload_n rfl ?_
  refine q_getI (Sh.int hI0.1 kx_231 rfl) v1 hv1 ?_
  refine r_iconst 1 rfl ?_
  refine r_ics 8 rfl (fun c8 => ?_) (fun c8 => ?_)
  · have c8_ : v1.toInt ≠ 1 := en_i_ne_t c8
    refine At.enter rfl ?_
    refine r_iconst 0 rfl ?_
    refine Ar.fall 22 rfl ?_
    refine At.enter rfl ?_
    refine r_iretz (by decide) ?_
    have zv11 : (0 : Int32).toInt = 0 := rfl
    obtain ⟨v12, hv12⟩ : ∃ v, gJ g0 231 12 = v := ⟨_, rfl⟩
    have x13 := HI.eqJ hI0 (b := 12) (hv12)
    exact ⟨_, rfl, hI0, hF0, _, rfl, by decide, ⟨by omega, by show _ → (gI _ 231 11).toInt = 1 ∧ _; omega, (ISM.mk (show pI g0 11 = _ from congrArg Int32.toInt (hv1)) (show wth g0 = _ from congrArg Int64.toInt (hv12)) (by first | exact Or.inl ⟨by omega, by omega⟩ | exact Or.inr (Or.inl ⟨by omega, by omega, by omega⟩) | exact Or.inr (Or.inr ⟨by omega, by omega, by omega⟩)))⟩⟩
  · have c8_ : v1.toInt = 1 := en_i_ne_f c8
    refine At.enter rfl ?_
    refine r_aload_n rfl ?_
    obtain ⟨v18, hv18⟩ : ∃ v, gJ g0 231 12 = v := ⟨_, rfl⟩
    refine q_getJv (Sh.long hI0.1 kx_231 rfl) v18 hv18 ?_
    refine r_lload_n rfl ?_
    refine r_lcmp _ rfl ?_
    refine r_ifs 17 rfl (fun c19 => ?_) (fun c19 => ?_)
    · have c19_ : v18.toInt ≠ a1.toInt := en_j_ne_t c19
      refine At.enter rfl ?_
      refine r_iconst 0 rfl ?_
      refine Ar.fall 22 rfl ?_
      refine At.enter rfl ?_
      refine r_iretz (by decide) ?_
      have zv22 : (0 : Int32).toInt = 0 := rfl
      have x23 := HI.eqJ hI0 (b := 12) (hv18)
      exact ⟨_, rfl, hI0, hF0, _, rfl, by decide, ⟨by omega, by show _ → (gI _ 231 11).toInt = 1 ∧ _; omega, (ISM.mk (show pI g0 11 = _ from congrArg Int32.toInt (hv1)) (show wth g0 = _ from congrArg Int64.toInt (hv18)) (by first | exact Or.inl ⟨by omega, by omega⟩ | exact Or.inr (Or.inl ⟨by omega, by omega, by omega⟩) | exact Or.inr (Or.inr ⟨by omega, by omega, by omega⟩)))⟩⟩
    · have c19_ : v18.toInt = a1.toInt := en_j_ne_f c19
      refine At.enter rfl ?_
      refine r_iconst 1 rfl ?_
      refine r_goto ?_
      refine At.enter rfl ?_
      refine r_iretz (by decide) ?_
      have x28 := HI.eqI hI0 (p := 231) (b := 11) (hv1)
      have zv30 : (1 : Int32).toInt = 1 := rfl
      have x31 := HI.eqJ hI0 (b := 12) (hv18)
      exact ⟨_, rfl, hI0, hF0, _, rfl, by decide, ⟨by omega, by show _ → (gI _ 231 11).toInt = 1 ∧ _; omega, (ISM.mk (show pI g0 11 = _ from congrArg Int32.toInt (hv1)) (show wth g0 = _ from congrArg Int64.toInt (hv18)) (by first | exact Or.inl ⟨by omega, by omega⟩ | exact Or.inr (Or.inl ⟨by omega, by omega, by omega⟩) | exact Or.inr (Or.inr ⟨by omega, by omega, by omega⟩)))⟩⟩
