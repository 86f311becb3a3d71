def F_X11_must_231 : List (Nat × Nat) := [(231, 9), (231, 10), (231, 11), (231, 12), (231, 13), (231, 14)]
def A_X11_must_231 : List Nat := []
set_option maxRecDepth 100000 in
set_option maxHeartbeats 4000000 in
theorem T_X11_must_231 (d : Nat) {N : Nat} {g0 : List en_E} (hI0 : HI g0) (a1 : Int32) (h_a1 : 0 ≤ a1.toInt ∧ a1.toInt ≤ 1) (h1 : ((gI g0 231 9).toInt ≤ (gI g0 231 10).toInt ∧ (gI g0 231 10).toInt ≤ (gI g0 231 8).toInt ∧ 0 ≤ (gI g0 231 11).toInt ∧ (gI g0 231 11).toInt ≤ 3 * ((gI g0 231 10).toInt - (gI g0 231 9).toInt))) (hW : W26 g0) : Ev (d + 3) 193 [.ref 231, .int a1] (g0, N) (fun w h' => ∃ g', h' = (g', N) ∧ HI g' ∧ Fr F_X11_must_231 A_X11_must_231 g0 g' ∧ w = none ∧ ((gI g' 231 9).toInt ≤ (gI g' 231 10).toInt ∧ (gI g' 231 10).toInt ≤ (gI g' 231 8).toInt ∧ 0 ≤ (gI g' 231 11).toInt ∧ (gI g' 231 11).toInt ≤ 3 * ((gI g' 231 10).toInt - (gI g' 231 9).toInt) ∧ (gI g0 231 9).toInt ≤ (gI g' 231 9).toInt ∧ W26 g' ∧ ((gI g' 231 14).toInt = 0 → (gI g0 231 14).toInt = 0 ∧ a1.toInt ≠ 0 ∧ (gI g0 231 10).toInt ≤ (gI g' 231 9).toInt))) := by
  have hF0 : Fr F_X11_must_231 A_X11_must_231 g0 g0 := Fr.rf
  obtain ⟨v1, hv1⟩ : ∃ v, gI g0 231 8 = v := ⟨_, rfl⟩
  have rv1 := RgF.at hI0.2.1 (p := 231) (b := 8) rfl
  rw [hv1] at rv1
  dsimp only at rv1
  have tv1 := congrArg Int32.toInt hv1
  obtain ⟨v2, hv2⟩ : ∃ v, gI g0 231 9 = v := ⟨_, rfl⟩
  have rv2 := RgF.at hI0.2.1 (p := 231) (b := 9) rfl
  rw [hv2] at rv2
  dsimp only at rv2
  have tv2 := congrArg Int32.toInt hv2
  obtain ⟨v3, hv3⟩ : ∃ v, gI g0 231 10 = v := ⟨_, rfl⟩
  have rv3 := RgF.at hI0.2.1 (p := 231) (b := 10) rfl
  rw [hv3] at rv3
  dsimp only at rv3
  have tv3 := congrArg Int32.toInt hv3
  obtain ⟨v4, hv4⟩ : ∃ v, gI g0 231 11 = v := ⟨_, rfl⟩
  have tv4 := congrArg Int32.toInt hv4
  obtain ⟨v5, hv5⟩ : ∃ v, gI g0 231 14 = v := ⟨_, rfl⟩
  have tv5 := congrArg Int32.toInt hv5
  refine Ev.mk rfl rfl ⟨Nat.le_of_ble_eq_true rfl, Or.inr (q_rc hI0.1 kx_231 rfl)⟩ ?_
  show At _ none _ _ (0, [(0, .ref 231), (1, .int a1)], [], (_, _)) _
  refine At.enter rfl ?_
  refine r_aload_n rfl ?_
  refine q_getI (Sh.int hI0.1 kx_231 rfl) v5 hv5 ?_
  refine r_ifs 7 rfl (fun c114 => ?_) (fun c114 => ?_)
  · have c114_ : v5.toInt ≠ 0 := en_k_ne_t c114
    refine At.enter rfl ?_
    refine r_aload_n rfl ?_
    refine q_getI (Sh.int hI0.1 kx_231 rfl) v5 hv5 ?_
    refine r_ifs 31 rfl (fun c115 => ?_) (fun c115 => ?_)
    · have c115_ : v5.toInt ≠ 0 := en_k_ne_t c115
      refine At.enter rfl ?_
      refine r_vret ?_
      have x116 := HI.eqI hI0 (p := 231) (b := 8) (hv1)
      have x117 := HI.eqI hI0 (p := 231) (b := 9) (hv2)
      have x118 := HI.eqI hI0 (p := 231) (b := 10) (hv3)
      have x119 := HI.eqI hI0 (p := 231) (b := 11) (hv4)
      have x120 := HI.eqI hI0 (p := 231) (b := 14) (hv5)
      have x121 := HI.eqI hI0 (p := 231) (b := 8) (hv1)
      have x122 := HI.eqI hI0 (p := 231) (b := 9) (hv2)
      have x123 := HI.eqI hI0 (p := 231) (b := 10) (hv3)
      have x124 := HI.eqI hI0 (p := 231) (b := 11) (hv4)
      have x125 := HI.eqI hI0 (p := 231) (b := 14) (hv5)
      exact ⟨_, rfl, hI0, hF0, rfl, ⟨by omega, by omega, by omega, by omega, by omega, hW, by omega⟩⟩
    · have c115_ : v5.toInt = 0 := en_k_ne_f c115
      refine At.enter rfl ?_
      refine r_aload_n rfl ?_
      have x126 := HI.eqI hI0 (p := 231) (b := 8) (hv1)
      have x127 := HI.eqI hI0 (p := 231) (b := 10) (hv3)
      refine r_callV 35 rfl [.ref 231] [] (Nat.le_of_ble_eq_true rfl) rfl (T_X11_next_231 _ hI0 (by omega)) ?_
      rintro _ _ ⟨g128, rfl, hI129, hF130, rfl, hr132⟩
      refine At.stn ?_
      have hF133 := Fr.tr hF0 hF130 rfl rfl
      have x134 := HI.eqI hI0 (p := 231) (b := 8) (hv1)
      have x135 := HI.eqI hI0 (p := 231) (b := 10) (hv3)
      have x136 := HI.eqI hI129 (p := 231) (b := 8) (((hF130.1 231 8 (by decide)).trans hv1))
      obtain ⟨v137, hv137⟩ : ∃ v, gI g128 231 9 = v := ⟨_, rfl⟩
      have rv137 := RgF.at hI129.2.1 (p := 231) (b := 9) rfl
      rw [hv137] at rv137
      dsimp only at rv137
      have tv137 := congrArg Int32.toInt hv137
      have x138 := HI.eqI hI129 (p := 231) (b := 9) (hv137)
      obtain ⟨v139, hv139⟩ : ∃ v, gI g128 231 10 = v := ⟨_, rfl⟩
      have rv139 := RgF.at hI129.2.1 (p := 231) (b := 10) rfl
      rw [hv139] at rv139
      dsimp only at rv139
      have tv139 := congrArg Int32.toInt hv139
      have x140 := HI.eqI hI129 (p := 231) (b := 10) (hv139)
      obtain ⟨v141, hv141⟩ : ∃ v, gI g128 231 11 = v := ⟨_, rfl⟩
      have tv141 := congrArg Int32.toInt hv141
      have x142 := HI.eqI hI129 (p := 231) (b := 11) (hv141)
      obtain ⟨c143, c144, c145, c146, c147, c148⟩ := hr132
      refine At.enter rfl ?_
      refine r_vret ?_
      have x149 := HI.eqI hI129 (p := 231) (b := 8) (((hF130.1 231 8 (by decide)).trans hv1))
      have x150 := HI.eqI hI129 (p := 231) (b := 9) (hv137)
      have x151 := HI.eqI hI129 (p := 231) (b := 10) (hv139)
      have x152 := HI.eqI hI129 (p := 231) (b := 11) (hv141)
      have x153 := HI.eqI hI129 (p := 231) (b := 14) (((hF130.1 231 14 (by decide)).trans hv5))
      have x154 := HI.eqI hI0 (p := 231) (b := 8) (hv1)
      have x155 := HI.eqI hI0 (p := 231) (b := 9) (hv2)
      have x156 := HI.eqI hI0 (p := 231) (b := 10) (hv3)
      have x157 := HI.eqI hI0 (p := 231) (b := 11) (hv4)
      have x158 := HI.eqI hI0 (p := 231) (b := 14) (hv5)
      exact ⟨_, rfl, hI129, hF133, rfl, ⟨by omega, by omega, by omega, by omega, by omega, c148, by omega⟩⟩
  · have c114_ : v5.toInt = 0 := en_k_ne_f c114
    refine At.enter rfl ?_
    refine r_iload_n rfl ?_
    refine r_ifs 11 rfl (fun c159 => ?_) (fun c159 => ?_)
    · have c159_ : a1.toInt ≠ 0 := en_k_ne_t c159
      refine At.enter rfl ?_
      refine r_aload_n rfl ?_
      refine q_getI (Sh.int hI0.1 kx_231 rfl) v5 hv5 ?_
      refine r_ifs 31 rfl (fun c160 => ?_) (fun c160 => ?_)
      · have c160_ : v5.toInt ≠ 0 := en_k_ne_t c160
        exfalso; omega
      · have c160_ : v5.toInt = 0 := en_k_ne_f c160
        refine At.enter rfl ?_
        refine r_aload_n rfl ?_
        have x161 := HI.eqI hI0 (p := 231) (b := 8) (hv1)
        have x162 := HI.eqI hI0 (p := 231) (b := 10) (hv3)
        refine r_callV 35 rfl [.ref 231] [] (Nat.le_of_ble_eq_true rfl) rfl (T_X11_next_231 _ hI0 (by omega)) ?_
        rintro _ _ ⟨g163, rfl, hI164, hF165, rfl, hr167⟩
        refine At.stn ?_
        have hF168 := Fr.tr hF0 hF165 rfl rfl
        have x169 := HI.eqI hI0 (p := 231) (b := 8) (hv1)
        have x170 := HI.eqI hI0 (p := 231) (b := 10) (hv3)
        have x171 := HI.eqI hI164 (p := 231) (b := 8) (((hF165.1 231 8 (by decide)).trans hv1))
        obtain ⟨v172, hv172⟩ : ∃ v, gI g163 231 9 = v := ⟨_, rfl⟩
        have rv172 := RgF.at hI164.2.1 (p := 231) (b := 9) rfl
        rw [hv172] at rv172
        dsimp only at rv172
        have tv172 := congrArg Int32.toInt hv172
        have x173 := HI.eqI hI164 (p := 231) (b := 9) (hv172)
        obtain ⟨v174, hv174⟩ : ∃ v, gI g163 231 10 = v := ⟨_, rfl⟩
        have rv174 := RgF.at hI164.2.1 (p := 231) (b := 10) rfl
        rw [hv174] at rv174
        dsimp only at rv174
        have tv174 := congrArg Int32.toInt hv174
        have x175 := HI.eqI hI164 (p := 231) (b := 10) (hv174)
        obtain ⟨v176, hv176⟩ : ∃ v, gI g163 231 11 = v := ⟨_, rfl⟩
        have tv176 := congrArg Int32.toInt hv176
        have x177 := HI.eqI hI164 (p := 231) (b := 11) (hv176)
        obtain ⟨c178, c179, c180, c181, c182, c183⟩ := hr167
        refine At.enter rfl ?_
        refine r_vret ?_
        have x184 := HI.eqI hI164 (p := 231) (b := 8) (((hF165.1 231 8 (by decide)).trans hv1))
        have x185 := HI.eqI hI164 (p := 231) (b := 9) (hv172)
        have x186 := HI.eqI hI164 (p := 231) (b := 10) (hv174)
        have x187 := HI.eqI hI164 (p := 231) (b := 11) (hv176)
        have x188 := HI.eqI hI164 (p := 231) (b := 14) (((hF165.1 231 14 (by decide)).trans hv5))
        have x189 := HI.eqI hI0 (p := 231) (b := 8) (hv1)
        have x190 := HI.eqI hI0 (p := 231) (b := 9) (hv2)
        have x191 := HI.eqI hI0 (p := 231) (b := 10) (hv3)
        have x192 := HI.eqI hI0 (p := 231) (b := 11) (hv4)
        have x193 := HI.eqI hI0 (p := 231) (b := 14) (hv5)
        exact ⟨_, rfl, hI164, hF168, rfl, ⟨by omega, by omega, by omega, by omega, by omega, c183, by omega⟩⟩
    · have c159_ : a1.toInt = 0 := en_k_ne_f c159
      refine At.enter rfl ?_
      refine r_aload_n rfl ?_
      refine r_iconst 1 rfl ?_
      refine q_putI (Sh.int hI0.1 kx_231 rfl) rfl ?_
      have hI194 := HI.wI0 hI0 kx_231 rfl (p := 231) (b := 14) (v := 1) rfl
      have hF195 := Fr.wI (p := 231) (b := 14) (v := 1) hF0 rfl
      refine r_aload_n rfl ?_
      refine r_aload_n rfl ?_
      refine q_getI (Sh.int hI194.1 kx_231 rfl) v2 ((gI_sI_ne (by decide)).trans hv2) ?_
      refine q_putI (Sh.int hI194.1 kx_231 rfl) rfl ?_
      have hI196 := HI.wI0 hI194 kx_231 rfl (p := 231) (b := 13) (v := v2) rfl
      have hF197 := Fr.wI (p := 231) (b := 13) (v := v2) hF195 rfl
      refine Ar.fall 24 rfl ?_
      refine At.enter rfl ?_
      refine r_aload_n rfl ?_
      refine q_getI (Sh.int hI196.1 kx_231 rfl) 1 ((gI_sI_ne (by decide)).trans (gI_sI_eq hI0.1 kx_231 rfl _)) ?_
      refine r_ift (by decide) ?_
      refine At.enter rfl ?_
      refine r_vret ?_
      have x198 := HI.eqI hI196 (p := 231) (b := 8) ((((gI_sI_ne (by decide)).trans (gI_sI_ne (by decide))).trans hv1))
      have x199 := HI.eqI hI196 (p := 231) (b := 9) ((((gI_sI_ne (by decide)).trans (gI_sI_ne (by decide))).trans hv2))
      have x200 := HI.eqI hI196 (p := 231) (b := 10) ((((gI_sI_ne (by decide)).trans (gI_sI_ne (by decide))).trans hv3))
      have x201 := HI.eqI hI196 (p := 231) (b := 11) ((((gI_sI_ne (by decide)).trans (gI_sI_ne (by decide))).trans hv4))
      have x202 := HI.eqI hI196 (p := 231) (b := 14) (((gI_sI_ne (by decide)).trans (gI_sI_eq hI0.1 kx_231 rfl _)))
      have zv203 : (1 : Int32).toInt = 1 := rfl
      have x204 := HI.eqI hI0 (p := 231) (b := 8) (hv1)
      have x205 := HI.eqI hI0 (p := 231) (b := 9) (hv2)
      have x206 := HI.eqI hI0 (p := 231) (b := 10) (hv3)
      have x207 := HI.eqI hI0 (p := 231) (b := 11) (hv4)
      have x208 := HI.eqI hI0 (p := 231) (b := 14) (hv5)
      have w26209 := W26.cong hW hI196 (((gI_sI_ne (by decide)).trans (gI_sI_ne (by decide)))) (((gI_sI_ne (by decide)).trans (gI_sI_ne (by decide)))) (((gI_sI_ne (by decide)).trans (gI_sI_ne (by decide)))) (((gJ_sI_ne (by decide)).trans (gJ_sI_ne (by decide))))
      exact ⟨_, rfl, hI196, hF197, rfl, ⟨by omega, by omega, by omega, by omega, by omega, w26209, by omega⟩⟩

def F_X11_isSign_231 : List (Nat × Nat) := []
def A_X11_isSign_231 : List Nat := []
set_option maxRecDepth 100000 in
set_option maxHeartbeats 4000000 in
theorem T_X11_isSign_231 (d : Nat) {N : Nat} {g0 : List en_E} (hI0 : HI g0) (a1 : Int32) (h1 : 0 ≤ (gI g0 231 11).toInt) : Ev (d + 1) 192 [.ref 231, .int a1] (g0, N) (fun w h' => ∃ g', h' = (g', N) ∧ HI g' ∧ Fr F_X11_isSign_231 A_X11_isSign_231 g0 g' ∧ ∃ r : Int32, w = some (.int r) ∧ (0 ≤ r.toInt ∧ r.toInt ≤ 1) ∧ (3 * r.toInt ≤ (gI g0 231 11).toInt)) := by
  have hF0 : Fr F_X11_isSign_231 A_X11_isSign_231 g0 g0 := Fr.rf
  obtain ⟨v1, hv1⟩ : ∃ v, gI g0 231 11 = v := ⟨_, rfl⟩
  have tv1 := congrArg Int32.toInt hv1
  refine Ev.mk rfl rfl ⟨Nat.le_of_ble_eq_true rfl, Or.inr (q_rc hI0.1 kx_231 rfl)⟩ ?_
  show At _ none _ _ (0, [(0, .ref 231), (1, .int a1)], [], (_, _)) _
  refine At.enter rfl ?_
  refine r_aload_n rfl ?_
  refine q_getI (Sh.int hI0.1 kx_231 rfl) v1 hv1 ?_
  refine r_iconst 3 rfl ?_
  refine r_ics 8 rfl (fun c10 => ?_) (fun c10 => ?_)
  · have c10_ : v1.toInt ≠ 3 := en_i_ne_t c10
    refine At.enter rfl ?_
    refine r_iconst 0 rfl ?_
    refine Ar.fall 23 rfl ?_
    refine At.enter rfl ?_
    refine r_iretz (by decide) ?_
    have x11 := HI.eqI hI0 (p := 231) (b := 11) (hv1)
    have x12 := HI.eqI hI0 (p := 231) (b := 11) (hv1)
    have zv13 : (0 : Int32).toInt = 0 := rfl
    exact ⟨_, rfl, hI0, hF0, _, rfl, by decide, (by omega)⟩
  · have c10_ : v1.toInt = 3 := en_i_ne_f c10
    refine At.enter rfl ?_
    refine r_aload_n rfl ?_
    obtain ⟨v14, hv14⟩ : ∃ v, gJ g0 231 12 = v := ⟨_, rfl⟩
    refine q_getJv (Sh.long hI0.1 kx_231 rfl) v14 hv14 ?_
    refine r_iload_n rfl ?_
    refine q_i2l (fun v15 hv15 => ?_)
    refine r_lcmp _ rfl ?_
    refine r_ifs 18 rfl (fun c16 => ?_) (fun c16 => ?_)
    · have c16_ : v14.toInt ≠ v15.toInt := en_j_ne_t c16
      refine At.enter rfl ?_
      refine r_iconst 0 rfl ?_
      refine Ar.fall 23 rfl ?_
      refine At.enter rfl ?_
      refine r_iretz (by decide) ?_
      have x17 := HI.eqI hI0 (p := 231) (b := 11) (hv1)
      have x18 := HI.eqI hI0 (p := 231) (b := 11) (hv1)
      have zv19 : (0 : Int32).toInt = 0 := rfl
      exact ⟨_, rfl, hI0, hF0, _, rfl, by decide, (by omega)⟩
    · have c16_ : v14.toInt = v15.toInt := en_j_ne_f c16
      refine At.enter rfl ?_
      refine r_iconst 1 rfl ?_
      refine r_goto ?_
      refine At.enter rfl ?_
      refine r_iretz (by decide) ?_
      have x20 := HI.eqI hI0 (p := 231) (b := 11) (hv1)
      have x21 := HI.eqI hI0 (p := 231) (b := 11) (hv1)
      have zv22 : (1 : Int32).toInt = 1 := rfl
      exact ⟨_, rfl, hI0, hF0, _, rfl, by decide, (by omega)⟩

def F_X11_isWord_231 : List (Nat × Nat) := []
def A_X11_isWord_231 : List Nat := []
set_option maxRecDepth 100000 in
set_option maxHeartbeats 4000000 in
theorem T_X11_isWord_231 (d : Nat) {N : Nat} {g0 : List en_E} (hI0 : HI g0) (a1 : Int64) (h1 : 0 ≤ (gI g0 231 11).toInt) : Ev (d + 1) 191 [.ref 231, .long a1] (g0, N) (fun w h' => ∃ g', h' = (g', N) ∧ HI g' ∧ Fr F_X11_isWord_231 A_X11_isWord_231 g0 g' ∧ ∃ r : Int32, w = some (.int r) ∧ (0 ≤ r.toInt ∧ r.toInt ≤ 1) ∧ (r.toInt ≤ (gI g0 231 11).toInt ∧ ISW g0 r.toInt a1.toInt)) := by
  have hF0 : Fr F_X11_isWord_231 A_X11_isWord_231 g0 g0 := Fr.rf
  obtain ⟨v1, hv1⟩ : ∃ v, gI g0 231 11 = v := ⟨_, rfl⟩
  have tv1 := congrArg Int32.toInt hv1
  refine Ev.mk rfl rfl ⟨Nat.le_of_ble_eq_true rfl, Or.inr (q_rc hI0.1 kx_231 rfl)⟩ ?_
  show At _ none _ _ (0, [(0, .ref 231), (1, .long a1)], [], (_, _)) _
  refine At.enter rfl ?_
  refine r_aload_n rfl ?_
  refine q_getI (Sh.int hI0.1 kx_231 rfl) v1 hv1 ?_
  refine r_iconst 1 rfl ?_
  refine r_ics 8 rfl (fun c8 => ?_) (fun c8 => ?_)
  · have c8_ : v1.toInt ≠ 1 := en_i_ne_t c8
    refine At.enter rfl ?_
    refine r_iconst 0 rfl ?_
    refine Ar.fall 22 rfl ?_
    refine At.enter rfl ?_
    refine r_iretz (by decide) ?_
    have x9 := HI.eqI hI0 (p := 231) (b := 11) (hv1)
    have x10 := HI.eqI hI0 (p := 231) (b := 11) (hv1)
    have zv11 : (0 : Int32).toInt = 0 := rfl
    obtain ⟨v12, hv12⟩ : ∃ v, gJ g0 231 12 = v := ⟨_, rfl⟩
    have x13 := HI.eqJ hI0 (b := 12) (hv12)
    exact ⟨_, rfl, hI0, hF0, _, rfl, by decide, ⟨by omega, by show _ → (gI _ 231 11).toInt = 1 ∧ _; omega⟩⟩
  · have c8_ : v1.toInt = 1 := en_i_ne_f c8
    refine At.enter rfl ?_
    refine r_aload_n rfl ?_
    obtain ⟨v14, hv14⟩ : ∃ v, gJ g0 231 12 = v := ⟨_, rfl⟩
    refine q_getJv (Sh.long hI0.1 kx_231 rfl) v14 hv14 ?_
    refine r_lload_n rfl ?_
    refine r_lcmp _ rfl ?_
    refine r_ifs 17 rfl (fun c15 => ?_) (fun c15 => ?_)
    · have c15_ : v14.toInt ≠ a1.toInt := en_j_ne_t c15
      refine At.enter rfl ?_
      refine r_iconst 0 rfl ?_
      refine Ar.fall 22 rfl ?_
      refine At.enter rfl ?_
      refine r_iretz (by decide) ?_
      have x16 := HI.eqI hI0 (p := 231) (b := 11) (hv1)
      have x17 := HI.eqI hI0 (p := 231) (b := 11) (hv1)
      have zv18 : (0 : Int32).toInt = 0 := rfl
      have x19 := HI.eqJ hI0 (b := 12) (hv14)
      exact ⟨_, rfl, hI0, hF0, _, rfl, by decide, ⟨by omega, by show _ → (gI _ 231 11).toInt = 1 ∧ _; omega⟩⟩
    · have c15_ : v14.toInt = a1.toInt := en_j_ne_f c15
      refine At.enter rfl ?_
      refine r_iconst 1 rfl ?_
      refine r_goto ?_
      refine At.enter rfl ?_
      refine r_iretz (by decide) ?_
      have x20 := HI.eqI hI0 (p := 231) (b := 11) (hv1)
      have x21 := HI.eqI hI0 (p := 231) (b := 11) (hv1)
      have zv22 : (1 : Int32).toInt = 1 := rfl
      have x23 := HI.eqJ hI0 (b := 12) (hv14)
      exact ⟨_, rfl, hI0, hF0, _, rfl, by decide, ⟨by omega, by show _ → (gI _ 231 11).toInt = 1 ∧ _; omega⟩⟩

def F_X11_emit_231 : List (Nat × Nat) := [(231, 17)]
def A_X11_emit_231 : List Nat := [238, 239]
set_option maxRecDepth 100000 in
set_option maxHeartbeats 4000000 in
theorem T_X11_emit_231 (d : Nat) {N : Nat} {g0 : List en_E} (hI0 : HI g0) (a1 : Int32) (a2 : Int32) (h1 : (gI g0 231 17).toInt ≤ 399) : Ev (d + 1) 195 [.ref 231, .int a1, .int a2] (g0, N) (fun w h' => ∃ g', h' = (g', N) ∧ HI g' ∧ Fr F_X11_emit_231 A_X11_emit_231 g0 g' ∧ w = none ∧ EMIT g0 g' a1.toInt) := by
  have hF0 : Fr F_X11_emit_231 A_X11_emit_231 g0 g0 := Fr.rf
  obtain ⟨v1, hv1⟩ : ∃ v, gI g0 231 17 = v := ⟨_, rfl⟩
  have rv1 := RgF.at hI0.2.1 (p := 231) (b := 17) rfl
  rw [hv1] at rv1
  dsimp only at rv1
  have tv1 := congrArg Int32.toInt hv1
  refine Ev.mk rfl rfl ⟨Nat.le_of_ble_eq_true rfl, Or.inr (q_rc hI0.1 kx_231 rfl)⟩ ?_
  show At _ none _ _ (0, [(0, .ref 231), (1, .int a1), (2, .int a2)], [], (_, _)) _
  refine At.enter rfl ?_
  refine r_aload_n rfl ?_
  refine q_getR (Sh.ref hI0.1 kx_231 rfl) ?_
  refine r_aload_n rfl ?_
  refine q_getI (Sh.int hI0.1 kx_231 rfl) v1 hv1 ?_
  refine r_iload_n rfl ?_
  refine q_iast (Sh.arr hI0.1 ka_238) (v1.toInt) rfl (by omega) ?_
  have hI16 := HI.wA0 hI0 ka_238 (p := 238) rfl rfl (v1.toInt) (a1)
  have hF17 := Fr.wA (p := 238) (j := v1.toInt) (v := a1) hF0 rfl
  refine r_aload_n rfl ?_
  refine q_getR (Sh.ref hI16.1 kx_231 rfl) ?_
  refine r_aload_n rfl ?_
  refine q_getI (Sh.int hI16.1 kx_231 rfl) v1 ((gI_sW).trans hv1) ?_
  refine r_iload_n rfl ?_
  refine q_iast (Sh.arr hI16.1 ka_239) (v1.toInt) rfl (by omega) ?_
  have hI18 := HI.wA0 hI16 ka_239 (p := 239) rfl rfl (v1.toInt) (a2)
  have hF19 := Fr.wA (p := 239) (j := v1.toInt) (v := a2) hF17 rfl
  refine r_aload_n rfl ?_
  refine r_dup rfl ?_
  refine q_getI (Sh.int hI18.1 kx_231 rfl) v1 (((gI_sW).trans (gI_sW)).trans hv1) ?_
  refine r_iconst 1 rfl ?_
  refine q_iadd (v1.toInt + 1) rfl (by omega) (fun v20 hv20 => ?_)
  refine q_putI (Sh.int hI18.1 kx_231 rfl) rfl ?_
  have hI21 := HI.wI1 hI18 kx_231 rfl (p := 231) (b := 17) (v := v20) rfl (by dsimp only; omega)
  have hF22 := Fr.wI (p := 231) (b := 17) (v := v20) hF19 rfl
  refine r_vret ?_
  have x23 := HI.eqI hI21 (p := 231) (b := 17) ((gI_sI_eq hI18.1 kx_231 rfl _))
  have x24 := HI.eqI hI0 (p := 231) (b := 17) (hv1)
  exact ⟨_, rfl, hI21, hF22, rfl, ⟨by show (gI _ 231 17).toInt = (gI _ 231 17).toInt + 1; omega, (fun i i0 hne => by have hne : i ≠ (gI g0 231 17).toInt := hne; exact ((eA_c gA_sI).trans ((eA_c (gA_sA_ne (by decide))).trans (eA_sA_ne (i := i) hI0.1 ka_238 (by omega) (by omega) (by omega))))), (fun i i0 hne => by have hne : i ≠ (gI g0 231 17).toInt := hne; exact ((eA_c gA_sI).trans ((eA_sA_ne (i := i) hI16.1 ka_239 (by omega) (by omega) (by omega)).trans (eA_c (gA_sA_ne (by decide)))))), (by show (eA _ 238 (gI g0 231 17).toInt).toInt = _; rw [hv1]; exact congrArg Int32.toInt (((eA_c gA_sI).trans ((eA_c (gA_sA_ne (by decide))).trans (eA_sA_eq hI0.1 ka_238 (by first | rfl | omega) (by first | decide | omega) (by first | decide | omega))))))⟩⟩
