def zF_X10_row_0 : List (Nat × Nat) := [(0, 14), (0, 16), (0, 17), (1, 4), (174, 1), (220, 2), (222, 2), (223, 5), (223, 10)]
def zA_X10_row_0 : List Nat := [5, 230]
set_option maxRecDepth 100000 in
set_option maxHeartbeats 4000000 in
theorem zT_X10_row_0 (d : Nat) {N : Nat} {g0 : List en_E} (hI0 : HI g0) : Ev (d + 4) 113 [.ref 0] (g0, N) (fun w h' => ∃ g', h' = (g', N) ∧ HI g' ∧ Fr zF_X10_row_0 zA_X10_row_0 g0 g' ∧ ∃ r : Int32, w = some (.int r) ∧ True ∧ (((gI g' 1 4).toInt = RLI (fun i : Int => (eA g0 175 i).toInt) (gI g0 174 1).toInt (gI g0 1 0).toInt (gI g0 1 4).toInt (6 * (((gI g0 174 1).toInt + 5) / 6)) ∧ ((gI g0 174 1).toInt = 0 → r.toInt = -6 ∧ (gI g' 0 16).toInt = (gI g0 0 16).toInt) ∧ ((gI g0 174 1).toInt ≠ 0 → r.toInt = (gI g' 1 4).toInt - (gI g0 1 4).toInt ∧ (gI g' 0 16).toInt = (6 * (((gI g0 174 1).toInt + 5) / 6)) / 6 - r.toInt) ∧ (gI g' 174 1).toInt = 0) ∧ (∀ i : Int, 0 ≤ i → i < 48 → (eA g' 5 (i)).toInt = RFI (fun i : Int => (eA g0 175 i).toInt) (gI g0 174 1).toInt (gI g0 1 0).toInt (gI g0 1 4).toInt (fun i : Int => (eA g0 5 i).toInt) (6 * (((gI g0 174 1).toInt + 5) / 6)) (i)))) := by
  have hF0 : Fr zF_X10_row_0 zA_X10_row_0 g0 g0 := Fr.rf
  refine Ev.mk rfl rfl ⟨Nat.le_of_ble_eq_true rfl, Or.inr (q_rc hI0.1 kx_0 rfl)⟩ ?_
  show At _ none _ _ (0, [(0, .ref 0)], [], (_, _)) _
  refine At.enter rfl ?_
  refine r_aload_n rfl ?_
  refine q_getR (Sh.ref hI0.1 kx_0 rfl) ?_
  obtain ⟨v4802, hv4802⟩ : ∃ v, gI g0 174 1 = v := ⟨_, rfl⟩
  have rv4802 := RgF.at hI0.2.1 (p := 174) (b := 1) rfl
  rw [hv4802] at rv4802
  dsimp only at rv4802
  refine q_getI (Sh.int hI0.1 kx_174 rfl) v4802 hv4802 ?_
  refine r_istore_n ([(1, .int v4802), (0, .ref 0)]) rfl ?_
  refine r_iload_n rfl ?_
  refine r_ifs 12 rfl (fun c4803 => ?_) (fun c4803 => ?_)
  · have c4803_ : v4802.toInt ≠ 0 := en_k_ne_t c4803
    refine At.enter rfl ?_
    refine r_iconst 0 rfl ?_
    refine r_istore_n ([(2, .int 0), (1, .int v4802), (0, .ref 0)]) rfl ?_
    refine r_iconst 0 rfl ?_
    refine r_istore_n ([(3, .int 0), (2, .int 0), (1, .int v4802), (0, .ref 0)]) rfl ?_
    refine r_iconst 0 rfl ?_
    refine r_istore ([(4, .int 0), (3, .int 0), (2, .int 0), (1, .int v4802), (0, .ref 0)]) rfl ?_
    refine Ar.fall 26 rfl ?_
    obtain ⟨v4804, hv4804⟩ : ∃ v, gI g0 1 4 = v := ⟨_, rfl⟩
    have rv4804 := RgF.at hI0.2.1 (p := 1) (b := 4) rfl
    rw [hv4804] at rv4804
    dsimp only at rv4804
    have tv4804 := congrArg Int32.toInt hv4804
    have z_7098 : (0 : Int32).toInt = 0 := rfl
    have z_7099 : (0 : Int32).toInt = 0 := rfl
    have z_7100 : (0 : Int32).toInt = 0 := rfl
    have x7101 := HI.eqI hI0 (p := 1) (b := 4) (hv4804)
    obtain ⟨v7102, hv7102⟩ : ∃ v, gI g0 1 0 = v := ⟨_, rfl⟩
    have rv7102 := RgF.at hI0.2.1 (p := 1) (b := 0) rfl
    rw [hv7102] at rv7102
    dsimp only at rv7102
    have tv7102 := congrArg Int32.toInt hv7102
    have x7103 := HI.eqI hI0 (p := 1) (b := 0) (hv7102)
    have x7104 := HI.eqI hI0 (p := 174) (b := 1) (hv4802)
    refine w_loopI (fun n_ l_ g_ => ∃ x7073 : Int32, ∃ x7074 : Int32, ∃ x7075 : Int32, ∃ x7076 : Int32, n_ = 405 - x7075.toInt ∧ HI g_ ∧ Fr zF_X10_row_0 zA_X10_row_0 g0 g_ ∧ gI g_ 1 4 = x7076 ∧ en_get 0 l_ = some (.ref 0) ∧ en_get 1 l_ = some (.int v4802) ∧ en_get 2 l_ = some (.int x7073) ∧ en_get 3 l_ = some (.int x7074) ∧ en_get 4 l_ = some (.int x7075) ∧ (0 ≤ x7075.toInt ∧ x7075.toInt ≤ 405) ∧ (0 ≤ x7076.toInt ∧ x7076.toInt ≤ 8) ∧ (x7075.toInt % 6 = 0) ∧ (0 ≤ x7075.toInt) ∧ (x7075.toInt < (gI g0 174 1).toInt + 6) ∧ (x7076.toInt = RLI (fun i : Int => (eA g0 175 i).toInt) (gI g0 174 1).toInt (gI g0 1 0).toInt (gI g0 1 4).toInt x7075.toInt) ∧ (x7073.toInt = x7076.toInt - (gI g0 1 4).toInt) ∧ (x7074.toInt = x7075.toInt / 6 - x7073.toInt) ∧ (∀ i : Int, 0 ≤ i → i < 48 → (eA g_ 5 (i)).toInt = RFI (fun i : Int => (eA g0 175 i).toInt) (gI g0 174 1).toInt (gI g0 1 0).toInt (gI g0 1 4).toInt (fun i : Int => (eA g0 5 i).toInt) x7075.toInt (i))) ?_ (405 - 0) ⟨0, 0, 0, v4804, by first | rfl | omega, hI0, hF0, hv4804, rfl, rfl, rfl, rfl, rfl, by decide, by omega, by omega, by omega, by omega, (by refine Eq.trans ?_ (RLI.z _ _ _ _ (by first | rfl | decide | omega)); omega), by omega, by omega, (by intro i i0 i1; exact RFI.z _ _ _ _ _ (by first | rfl | decide | omega) _)⟩
    rintro n7081 l7080 g7077 ⟨x7073, x7074, x7075, x7076, hm7105, hI7078, hF7079, e7083, e7084, e7085, e7086, e7087, e7088, r7089, r7090, q7091, q7092, q7093, q7094, q7095, q7096, q7097⟩ ih7082
    have tv7106 := congrArg Int32.toInt e7083
    refine At.enter rfl ?_
    refine r_iload e7088 ?_
    refine r_iload_n e7085 ?_
    have bv7108 := q_bnd x7075
    have bv7109 := q_bnd v4802
    refine r_ics 32 rfl (fun c7107 => ?_) (fun c7107 => ?_)
    · have c7107_ : x7075.toInt ≥ v4802.toInt := en_i_ge_t c7107
      refine At.enter rfl ?_
      refine r_aload_n e7084 ?_
      refine q_getR (Sh.ref hI7078.1 kx_0 rfl) ?_
      refine r_iconst 0 rfl ?_
      refine q_putI (Sh.int hI7078.1 kx_174 rfl) rfl ?_
      have hI7110 := HI.wI1 hI7078 kx_174 rfl (p := 174) (b := 1) (v := 0) rfl (by decide)
      have hF7111 := Fr.wI (p := 174) (b := 1) (v := 0) hF7079 rfl
      refine r_aload_n e7084 ?_
      refine r_iload_n e7087 ?_
      refine q_putI (Sh.int hI7110.1 kx_0 rfl) rfl ?_
      have hI7112 := HI.wI0 hI7110 kx_0 rfl (p := 0) (b := 16) (v := x7074) rfl
      have hF7113 := Fr.wI (p := 0) (b := 16) (v := x7074) hF7111 rfl
      refine r_aload_n e7084 ?_
      refine r_callV 82 rfl [.ref 0] [] (Nat.le_of_ble_eq_true rfl) rfl (T_X10_changed_0 _ hI7112) ?_
      rintro _ _ ⟨g7114, rfl, hI7115, hF7116, rfl⟩
      refine At.stn ?_
      have hF7119 := Fr.tr hF7113 hF7116 rfl rfl
      refine At.enter rfl ?_
      refine r_aload_n e7084 ?_
      refine r_iload_n e7086 ?_
      refine q_inlV 87 rfl [.ref 0, .int x7073] [] (Nat.le_of_ble_eq_true rfl) rfl ?_
      refine Ev.mk rfl rfl ⟨Nat.le_of_ble_eq_true rfl, Or.inr (q_rc hI7115.1 kx_0 rfl)⟩ ?_
      show At _ none _ _ (0, [(0, .ref 0), (1, .int x7073)], [], (_, _)) _
      refine At.enter rfl ?_
      refine r_aload_n rfl ?_
      refine r_iconst 0 rfl ?_
      refine q_putI (Sh.int hI7115.1 kx_0 rfl) rfl ?_
      have hI7120 := HI.wI0 hI7115 kx_0 rfl (p := 0) (b := 17) (v := 0) rfl
      have hF7121 := Fr.wI (p := 0) (b := 17) (v := 0) hF7119 rfl
      refine r_iload_n rfl ?_
      refine q_ireti ?_
      refine At.enter rfl ?_
      refine r_ireti ?_
      have x7122 := HI.eqI hI7120 (p := 1) (b := 4) ((((gI_sI_ne (by decide)).trans ((hF7116.1 1 4 (by decide)).trans ((gI_sI_ne (by decide)).trans (gI_sI_ne (by decide))))).trans e7083))
      have x7123 := HI.eqI hI0 (p := 1) (b := 4) (hv4804)
      have x7124 := HI.eqI hI7120 (p := 174) (b := 1) (((gI_sI_ne (by decide)).trans ((hF7116.1 174 1 (by decide)).trans ((gI_sI_ne (by decide)).trans (gI_sI_eq hI7078.1 kx_174 rfl _)))))
      have zv7125 : (0 : Int32).toInt = 0 := rfl
      have x7126 := HI.eqI hI0 (p := 174) (b := 1) (hv4802)
      have x7127 := HI.eqI hI7120 (p := 0) (b := 16) (((gI_sI_ne (by decide)).trans ((hF7116.1 0 16 (by decide)).trans (gI_sI_eq hI7110.1 kx_0 rfl _))))
      obtain ⟨v7128, hv7128⟩ : ∃ v, gI g0 0 16 = v := ⟨_, rfl⟩
      have tv7128 := congrArg Int32.toInt hv7128
      have x7129 := HI.eqI hI0 (p := 0) (b := 16) (hv7128)
      have x7130 := HI.eqI hI0 (p := 1) (b := 0) (hv7102)
      exact ⟨_, rfl, hI7120, hF7121, _, rfl, trivial, ⟨⟨(by rw [show (6 * (((gI g0 174 1).toInt + 5) / 6)) = x7075.toInt from by omega]; refine Eq.trans ?_ q7094; omega), by omega, by omega, by omega⟩, (by intro i i0 i1; rw [show (6 * (((gI g0 174 1).toInt + 5) / 6)) = x7075.toInt from by omega]; refine (eA_ti (((gA_sI).trans ((hF7116.2.1 5 (by decide)).trans ((gA_sI).trans (gA_sI)))))).trans ?_; exact q7097 i i0 i1)⟩⟩
    · have c7107_ : x7075.toInt < v4802.toInt := en_i_ge_f c7107
      refine At.enter rfl ?_
      refine r_iload e7088 ?_
      refine r_bipush 6 rfl ?_
      refine q_iadd (x7075.toInt + 6) rfl (by omega) (fun v7131 hv7131 => ?_)
      refine r_iload_n e7085 ?_
      have bv7133 := q_bnd v7131
      refine r_ics 41 rfl (fun c7132 => ?_) (fun c7132 => ?_)
      · have c7132_ : v7131.toInt > v4802.toInt := en_i_gt_t c7132
        refine At.enter rfl ?_
        refine q_iincO e7087 (fun v7134 _ => ?_)
        refine Ar.fall 59 rfl ?_
        refine At.enter rfl ?_
        refine q_iinc (w_p1 (by decide) (Or.inr rfl) e7088) (x7075.toInt + 6) rfl (by omega) (fun v7135 hv7135 => ?_)
        refine r_goto ?_
        have bv7136 := q_bnd x7073
        have bv7137 := q_bnd v7134
        exact ih7082 (405 - v7135.toInt) _ _ ⟨x7073, v7134, v7135, x7076, by first | rfl | omega, hI7078, hF7079, e7083, (w_p1 (by decide) (Or.inr rfl) (w_p1 (by decide) (Or.inr rfl) e7084)), (w_p1 (by decide) (Or.inr rfl) (w_p1 (by decide) (Or.inr rfl) e7085)), (w_p1 (by decide) (Or.inr rfl) (w_p1 (by decide) (Or.inr rfl) e7086)), (w_p1 (by decide) (Or.inr rfl) (w_e1 _ _ _)), (w_e1 _ _ _), by omega, by omega, by omega, by omega, by omega, (RLI.n (by omega) (by omega) q7094 (fun h => by have h2 : x7075.toInt + 6 ≤ (gI g0 174 1).toInt ∧ x7076.toInt < 8 ∧ (1 ≤ (eA g0 175 x7075.toInt).toInt ∧ (eA g0 175 x7075.toInt).toInt ≤ 9) ∧ (0 ≤ (eA g0 175 (x7075.toInt + 3)).toInt ∧ (eA g0 175 (x7075.toInt + 3)).toInt ≤ 99) ∧ (0 ≤ (eA g0 175 (x7075.toInt + 4)).toInt ∧ (eA g0 175 (x7075.toInt + 4)).toInt ≤ 9) ∧ (0 ≤ (eA g0 175 (x7075.toInt + 5)).toInt ∧ (eA g0 175 (x7075.toInt + 5)).toInt ≤ 9999) ∧ (0 ≤ (eA g0 175 (x7075.toInt + 1)).toInt ∧ (eA g0 175 (x7075.toInt + 1)).toInt < (gI g0 1 0).toInt) ∧ (0 ≤ (eA g0 175 (x7075.toInt + 2)).toInt ∧ (eA g0 175 (x7075.toInt + 2)).toInt < (gI g0 1 0).toInt) := h; omega) (by omega) (by omega)), by omega, by omega, (by intro i i0 i1; refine (eA_ti (rfl)).trans ?_; refine (q7097 i i0 i1).trans ?_; exact RFI.n (by omega) (by omega) q7094 (by omega) rfl (fun k => absurd k.1 (fun h => by have h2 : x7075.toInt + 6 ≤ (gI g0 174 1).toInt ∧ x7076.toInt < 8 ∧ (1 ≤ (eA g0 175 x7075.toInt).toInt ∧ (eA g0 175 x7075.toInt).toInt ≤ 9) ∧ (0 ≤ (eA g0 175 (x7075.toInt + 3)).toInt ∧ (eA g0 175 (x7075.toInt + 3)).toInt ≤ 99) ∧ (0 ≤ (eA g0 175 (x7075.toInt + 4)).toInt ∧ (eA g0 175 (x7075.toInt + 4)).toInt ≤ 9) ∧ (0 ≤ (eA g0 175 (x7075.toInt + 5)).toInt ∧ (eA g0 175 (x7075.toInt + 5)).toInt ≤ 9999) ∧ (0 ≤ (eA g0 175 (x7075.toInt + 1)).toInt ∧ (eA g0 175 (x7075.toInt + 1)).toInt < (gI g0 1 0).toInt) ∧ (0 ≤ (eA g0 175 (x7075.toInt + 2)).toInt ∧ (eA g0 175 (x7075.toInt + 2)).toInt < (gI g0 1 0).toInt) := h; omega)))⟩ ⟨by omega, by omega⟩
      · have c7132_ : v7131.toInt ≤ v4802.toInt := en_i_gt_f c7132
        refine At.enter rfl ?_
        refine r_aload_n e7084 ?_
        refine r_iload e7088 ?_
        refine q_inlV 47 rfl [.ref 0, .int x7075] [] (Nat.le_of_ble_eq_true rfl) rfl ?_
        refine Ev.mk rfl rfl ⟨Nat.le_of_ble_eq_true rfl, Or.inr (q_rc hI7078.1 kx_0 rfl)⟩ ?_
        show At _ none _ _ (0, [(0, .ref 0), (1, .int x7075)], [], (_, _)) _
        refine At.enter rfl ?_
        refine r_aload_n rfl ?_
        refine q_getR (Sh.ref hI7078.1 kx_0 rfl) ?_
        refine r_iload_n rfl ?_
        refine r_iconst 0 rfl ?_
        refine q_iadd (x7075.toInt + 0) rfl (by omega) (fun v7138 hv7138 => ?_)
        refine r_callV 10 rfl [.ref 174, .int v7138] [] (Nat.le_of_ble_eq_true rfl) rfl (zT_X8_at_174 _ hI7078 v7138) ?_
        rintro _ _ ⟨g7139, rfl, hI7140, hF7141, v7142, rfl, hr7143⟩
        refine At.sti ?_
        have hF7144 := Fr.tr hF7079 hF7141 rfl rfl
        obtain ⟨v7145, hv7145⟩ : ∃ v, gI g7077 174 1 = v := ⟨_, rfl⟩
        have rv7145 := RgF.at hI7078.2.1 (p := 174) (b := 1) rfl
        rw [hv7145] at rv7145
        dsimp only at rv7145
        have tv7145 := congrArg Int32.toInt hv7145
        have x7146 := HI.eqI hI7078 (p := 174) (b := 1) (hv7145)
        have y7147 := (eA_ix (g := g0) (p := 175) (show x7075.toInt = v7138.toInt from by omega)).trans (eA_ti (j := v7138.toInt) ((hF7079.2.1 175 (by decide)))).symm
        have x7148 := HI.eqI hI7078 (p := 174) (b := 1) (hv7145)
        refine At.enter rfl ?_
        refine r_istore_n ([(2, .int v7142), (0, .ref 0), (1, .int x7075)]) rfl ?_
        refine r_aload_n rfl ?_
        refine q_getR (Sh.ref hI7140.1 kx_0 rfl) ?_
        refine r_iload_n rfl ?_
        refine r_iconst 1 rfl ?_
        refine q_iadd (x7075.toInt + 1) rfl (by omega) (fun v7149 hv7149 => ?_)
        refine r_callV 21 rfl [.ref 174, .int v7149] [] (Nat.le_of_ble_eq_true rfl) rfl (zT_X8_at_174 _ hI7140 v7149) ?_
        rintro _ _ ⟨g7150, rfl, hI7151, hF7152, v7153, rfl, hr7154⟩
        refine At.sti ?_
        have hF7155 := Fr.tr hF7144 hF7152 rfl rfl
        have x7156 := HI.eqI hI7140 (p := 174) (b := 1) (((hF7141.1 174 1 (by decide)).trans hv7145))
        have y7157 := (eA_ix (g := g0) (p := 175) (show (x7075.toInt + 1) = v7149.toInt from by omega)).trans (eA_ti (j := v7149.toInt) (((hF7141.2.1 175 (by decide)).trans (hF7079.2.1 175 (by decide))))).symm
        have x7158 := HI.eqI hI7140 (p := 174) (b := 1) (((hF7141.1 174 1 (by decide)).trans hv7145))
        refine At.enter rfl ?_
        refine r_istore_n ([(3, .int v7153), (2, .int v7142), (0, .ref 0), (1, .int x7075)]) rfl ?_
        refine r_aload_n rfl ?_
        refine q_getR (Sh.ref hI7151.1 kx_0 rfl) ?_
        refine r_iload_n rfl ?_
        refine r_iconst 2 rfl ?_
        refine q_iadd (x7075.toInt + 2) rfl (by omega) (fun v7159 hv7159 => ?_)
        refine r_callV 32 rfl [.ref 174, .int v7159] [] (Nat.le_of_ble_eq_true rfl) rfl (zT_X8_at_174 _ hI7151 v7159) ?_
        rintro _ _ ⟨g7160, rfl, hI7161, hF7162, v7163, rfl, hr7164⟩
        refine At.sti ?_
        have hF7165 := Fr.tr hF7155 hF7162 rfl rfl
        have x7166 := HI.eqI hI7151 (p := 174) (b := 1) ((((hF7152.1 174 1 (by decide)).trans (hF7141.1 174 1 (by decide))).trans hv7145))
        have y7167 := (eA_ix (g := g0) (p := 175) (show (x7075.toInt + 2) = v7159.toInt from by omega)).trans (eA_ti (j := v7159.toInt) (((hF7152.2.1 175 (by decide)).trans ((hF7141.2.1 175 (by decide)).trans (hF7079.2.1 175 (by decide)))))).symm
        have x7168 := HI.eqI hI7151 (p := 174) (b := 1) ((((hF7152.1 174 1 (by decide)).trans (hF7141.1 174 1 (by decide))).trans hv7145))
        refine At.enter rfl ?_
        refine r_istore ([(4, .int v7163), (3, .int v7153), (2, .int v7142), (0, .ref 0), (1, .int x7075)]) rfl ?_
        refine r_aload_n rfl ?_
        refine q_getR (Sh.ref hI7161.1 kx_0 rfl) ?_
        refine r_iload_n rfl ?_
        refine r_iconst 3 rfl ?_
        refine q_iadd (x7075.toInt + 3) rfl (by omega) (fun v7169 hv7169 => ?_)
        refine r_callV 44 rfl [.ref 174, .int v7169] [] (Nat.le_of_ble_eq_true rfl) rfl (zT_X8_at_174 _ hI7161 v7169) ?_
        rintro _ _ ⟨g7170, rfl, hI7171, hF7172, v7173, rfl, hr7174⟩
        refine At.sti ?_
        have hF7175 := Fr.tr hF7165 hF7172 rfl rfl
        have x7176 := HI.eqI hI7161 (p := 174) (b := 1) ((((hF7162.1 174 1 (by decide)).trans ((hF7152.1 174 1 (by decide)).trans (hF7141.1 174 1 (by decide)))).trans hv7145))
        have y7177 := (eA_ix (g := g0) (p := 175) (show (x7075.toInt + 3) = v7169.toInt from by omega)).trans (eA_ti (j := v7169.toInt) (((hF7162.2.1 175 (by decide)).trans ((hF7152.2.1 175 (by decide)).trans ((hF7141.2.1 175 (by decide)).trans (hF7079.2.1 175 (by decide))))))).symm
        have x7178 := HI.eqI hI7161 (p := 174) (b := 1) ((((hF7162.1 174 1 (by decide)).trans ((hF7152.1 174 1 (by decide)).trans (hF7141.1 174 1 (by decide)))).trans hv7145))
        refine At.enter rfl ?_
        refine r_istore ([(5, .int v7173), (4, .int v7163), (3, .int v7153), (2, .int v7142), (0, .ref 0), (1, .int x7075)]) rfl ?_
        refine r_aload_n rfl ?_
        refine q_getR (Sh.ref hI7171.1 kx_0 rfl) ?_
        refine r_iload_n rfl ?_
        refine r_iconst 4 rfl ?_
        refine q_iadd (x7075.toInt + 4) rfl (by omega) (fun v7179 hv7179 => ?_)
        refine r_callV 56 rfl [.ref 174, .int v7179] [] (Nat.le_of_ble_eq_true rfl) rfl (zT_X8_at_174 _ hI7171 v7179) ?_
        rintro _ _ ⟨g7180, rfl, hI7181, hF7182, v7183, rfl, hr7184⟩
        refine At.sti ?_
        have hF7185 := Fr.tr hF7175 hF7182 rfl rfl
        have x7186 := HI.eqI hI7171 (p := 174) (b := 1) ((((hF7172.1 174 1 (by decide)).trans ((hF7162.1 174 1 (by decide)).trans ((hF7152.1 174 1 (by decide)).trans (hF7141.1 174 1 (by decide))))).trans hv7145))
        have y7187 := (eA_ix (g := g0) (p := 175) (show (x7075.toInt + 4) = v7179.toInt from by omega)).trans (eA_ti (j := v7179.toInt) (((hF7172.2.1 175 (by decide)).trans ((hF7162.2.1 175 (by decide)).trans ((hF7152.2.1 175 (by decide)).trans ((hF7141.2.1 175 (by decide)).trans (hF7079.2.1 175 (by decide)))))))).symm
        have x7188 := HI.eqI hI7171 (p := 174) (b := 1) ((((hF7172.1 174 1 (by decide)).trans ((hF7162.1 174 1 (by decide)).trans ((hF7152.1 174 1 (by decide)).trans (hF7141.1 174 1 (by decide))))).trans hv7145))
        refine At.enter rfl ?_
        refine r_istore ([(6, .int v7183), (5, .int v7173), (4, .int v7163), (3, .int v7153), (2, .int v7142), (0, .ref 0), (1, .int x7075)]) rfl ?_
        refine r_aload_n rfl ?_
        refine q_getR (Sh.ref hI7181.1 kx_0 rfl) ?_
        refine r_iload_n rfl ?_
        refine r_iconst 5 rfl ?_
        refine q_iadd (x7075.toInt + 5) rfl (by omega) (fun v7189 hv7189 => ?_)
        refine r_callV 68 rfl [.ref 174, .int v7189] [] (Nat.le_of_ble_eq_true rfl) rfl (zT_X8_at_174 _ hI7181 v7189) ?_
        rintro _ _ ⟨g7190, rfl, hI7191, hF7192, v7193, rfl, hr7194⟩
        refine At.sti ?_
        have hF7195 := Fr.tr hF7185 hF7192 rfl rfl
        have x7196 := HI.eqI hI7181 (p := 174) (b := 1) ((((hF7182.1 174 1 (by decide)).trans ((hF7172.1 174 1 (by decide)).trans ((hF7162.1 174 1 (by decide)).trans ((hF7152.1 174 1 (by decide)).trans (hF7141.1 174 1 (by decide)))))).trans hv7145))
        have y7197 := (eA_ix (g := g0) (p := 175) (show (x7075.toInt + 5) = v7189.toInt from by omega)).trans (eA_ti (j := v7189.toInt) (((hF7182.2.1 175 (by decide)).trans ((hF7172.2.1 175 (by decide)).trans ((hF7162.2.1 175 (by decide)).trans ((hF7152.2.1 175 (by decide)).trans ((hF7141.2.1 175 (by decide)).trans (hF7079.2.1 175 (by decide))))))))).symm
        have x7198 := HI.eqI hI7181 (p := 174) (b := 1) ((((hF7182.1 174 1 (by decide)).trans ((hF7172.1 174 1 (by decide)).trans ((hF7162.1 174 1 (by decide)).trans ((hF7152.1 174 1 (by decide)).trans (hF7141.1 174 1 (by decide)))))).trans hv7145))
        refine At.enter rfl ?_
        refine r_istore ([(7, .int v7193), (6, .int v7183), (5, .int v7173), (4, .int v7163), (3, .int v7153), (2, .int v7142), (0, .ref 0), (1, .int x7075)]) rfl ?_
        refine r_aload_n rfl ?_
        refine r_iload_n rfl ?_
        refine r_iload_n rfl ?_
        refine r_iload rfl ?_
        refine r_iload rfl ?_
        refine r_iload rfl ?_
        refine r_iload rfl ?_
        refine r_callV 84 rfl [.ref 0, .int v7142, .int v7153, .int v7163, .int v7173, .int v7183, .int v7193] [] (Nat.le_of_ble_eq_true rfl) rfl (zT_X10_whyNoLoad_0 _ hI7191 v7142 v7153 v7163 v7173 v7183 v7193) ?_
        rintro _ _ ⟨g7199, rfl, hI7200, hF7201, v7202, rfl, hr7203⟩
        refine At.sti ?_
        have hF7204 := Fr.tr hF7195 hF7201 rfl rfl
        have x7205 := HI.eqI hI7191 (p := 1) (b := 0) ((((hF7192.1 1 0 (by decide)).trans ((hF7182.1 1 0 (by decide)).trans ((hF7172.1 1 0 (by decide)).trans ((hF7162.1 1 0 (by decide)).trans ((hF7152.1 1 0 (by decide)).trans ((hF7141.1 1 0 (by decide)).trans (hF7079.1 1 0 (by decide)))))))).trans hv7102))
        have x7206 := HI.eqI hI7191 (p := 1) (b := 4) ((((hF7192.1 1 4 (by decide)).trans ((hF7182.1 1 4 (by decide)).trans ((hF7172.1 1 4 (by decide)).trans ((hF7162.1 1 4 (by decide)).trans ((hF7152.1 1 4 (by decide)).trans (hF7141.1 1 4 (by decide))))))).trans e7083))
        refine At.enter rfl ?_
        refine r_ifs 87 rfl (fun c7207 => ?_) (fun c7207 => ?_)
        · have c7207_ : v7202.toInt = 0 := en_k_eq_t c7207
          refine At.enter rfl ?_
          refine r_aload_n rfl ?_
          refine q_getR (Sh.ref hI7200.1 kx_0 rfl) ?_
          refine r_iload_n rfl ?_
          refine r_iload_n rfl ?_
          refine r_iload rfl ?_
          refine r_iload rfl ?_
          refine r_iload rfl ?_
          refine r_iload rfl ?_
          refine r_callV 106 rfl [.ref 1, .int v7142, .int v7153, .int v7163, .int v7173, .int v7183, .int v7193] [] (Nat.le_of_ble_eq_true rfl) rfl (zT_X0_addLoad_1 _ hI7200 v7142 v7153 v7163 v7173 v7183 v7193) ?_
          rintro _ _ ⟨g7208, rfl, hI7209, hF7210, v7211, rfl, hr7212⟩
          refine At.sti ?_
          have hF7213 := Fr.tr hF7204 hF7210 rfl rfl
          have x7214 := HI.eqI hI7200 (p := 1) (b := 4) ((((hF7201.1 1 4 (by decide)).trans ((hF7192.1 1 4 (by decide)).trans ((hF7182.1 1 4 (by decide)).trans ((hF7172.1 1 4 (by decide)).trans ((hF7162.1 1 4 (by decide)).trans ((hF7152.1 1 4 (by decide)).trans (hF7141.1 1 4 (by decide)))))))).trans e7083))
          obtain ⟨v7215, hv7215⟩ : ∃ v, gI g7208 1 4 = v := ⟨_, rfl⟩
          have rv7215 := RgF.at hI7209.2.1 (p := 1) (b := 4) rfl
          rw [hv7215] at rv7215
          dsimp only at rv7215
          have tv7215 := congrArg Int32.toInt hv7215
          have x7216 := HI.eqI hI7209 (p := 1) (b := 4) (hv7215)
          refine At.enter rfl ?_
          refine r_pop rfl ?_
          refine r_iconst 1 rfl ?_
          refine q_iretz (by decide) ?_
          refine At.enter rfl ?_
          refine r_iff 50 rfl (by decide) ?_
          refine At.enter rfl ?_
          refine q_iincO e7086 (fun v7217 _ => ?_)
          refine r_goto ?_
          refine At.enter rfl ?_
          refine q_iinc (w_p1 (by decide) (Or.inr rfl) e7088) (x7075.toInt + 6) rfl (by omega) (fun v7218 hv7218 => ?_)
          refine r_goto ?_
          have bv7219 := q_bnd v7217
          have bv7220 := q_bnd x7074
          exact ih7082 (405 - v7218.toInt) _ _ ⟨v7217, x7074, v7218, v7215, by first | rfl | omega, hI7209, hF7213, hv7215, (w_p1 (by decide) (Or.inr rfl) (w_p1 (by decide) (Or.inr rfl) e7084)), (w_p1 (by decide) (Or.inr rfl) (w_p1 (by decide) (Or.inr rfl) e7085)), (w_p1 (by decide) (Or.inr rfl) (w_e1 _ _ _)), (w_p1 (by decide) (Or.inr rfl) (w_p1 (by decide) (Or.inr rfl) e7087)), (w_e1 _ _ _), by omega, by omega, by omega, by omega, by omega, (RLI.y (by omega) (by omega) q7094 (show x7075.toInt + 6 ≤ (gI g0 174 1).toInt ∧ x7076.toInt < 8 ∧ (1 ≤ (eA g0 175 x7075.toInt).toInt ∧ (eA g0 175 x7075.toInt).toInt ≤ 9) ∧ (0 ≤ (eA g0 175 (x7075.toInt + 3)).toInt ∧ (eA g0 175 (x7075.toInt + 3)).toInt ≤ 99) ∧ (0 ≤ (eA g0 175 (x7075.toInt + 4)).toInt ∧ (eA g0 175 (x7075.toInt + 4)).toInt ≤ 9) ∧ (0 ≤ (eA g0 175 (x7075.toInt + 5)).toInt ∧ (eA g0 175 (x7075.toInt + 5)).toInt ≤ 9999) ∧ (0 ≤ (eA g0 175 (x7075.toInt + 1)).toInt ∧ (eA g0 175 (x7075.toInt + 1)).toInt < (gI g0 1 0).toInt) ∧ (0 ≤ (eA g0 175 (x7075.toInt + 2)).toInt ∧ (eA g0 175 (x7075.toInt + 2)).toInt < (gI g0 1 0).toInt) from by have c := WNL.y hr7203.2 (by omega); omega) (by omega) (by omega)), by omega, by omega, (by intro i i0 i1; refine (hr7212.2.2.2 i i0 i1).trans ?_; exact (Decidable.em ((gI g7199 1 4).toInt < 8 ∧ i = 6 * (gI g7199 1 4).toInt + 0)).elim (fun k167_ => by refine (if_pos k167_).trans ?_; refine Eq.trans ?_ (RFI.y (l := x7076.toInt) (by omega) (by omega) q7094 (show x7075.toInt + 6 ≤ (gI g0 174 1).toInt ∧ x7076.toInt < 8 ∧ (1 ≤ (eA g0 175 x7075.toInt).toInt ∧ (eA g0 175 x7075.toInt).toInt ≤ 9) ∧ (0 ≤ (eA g0 175 (x7075.toInt + 3)).toInt ∧ (eA g0 175 (x7075.toInt + 3)).toInt ≤ 99) ∧ (0 ≤ (eA g0 175 (x7075.toInt + 4)).toInt ∧ (eA g0 175 (x7075.toInt + 4)).toInt ≤ 9) ∧ (0 ≤ (eA g0 175 (x7075.toInt + 5)).toInt ∧ (eA g0 175 (x7075.toInt + 5)).toInt ≤ 9999) ∧ (0 ≤ (eA g0 175 (x7075.toInt + 1)).toInt ∧ (eA g0 175 (x7075.toInt + 1)).toInt < (gI g0 1 0).toInt) ∧ (0 ≤ (eA g0 175 (x7075.toInt + 2)).toInt ∧ (eA g0 175 (x7075.toInt + 2)).toInt < (gI g0 1 0).toInt) from by have c := WNL.y hr7203.2 (by omega); omega) (by omega) (by omega)); refine Eq.trans ?_ (eA_ix (g := g0) (p := 175) (show x7075.toInt = x7075.toInt + (i - 6 * x7076.toInt) from by omega)); omega) (fun k167_ => by refine (if_neg k167_).trans ?_; exact (Decidable.em ((gI g7199 1 4).toInt < 8 ∧ i = 6 * (gI g7199 1 4).toInt + 1)).elim (fun k168_ => by refine (if_pos k168_).trans ?_; refine Eq.trans ?_ (RFI.y (l := x7076.toInt) (by omega) (by omega) q7094 (show x7075.toInt + 6 ≤ (gI g0 174 1).toInt ∧ x7076.toInt < 8 ∧ (1 ≤ (eA g0 175 x7075.toInt).toInt ∧ (eA g0 175 x7075.toInt).toInt ≤ 9) ∧ (0 ≤ (eA g0 175 (x7075.toInt + 3)).toInt ∧ (eA g0 175 (x7075.toInt + 3)).toInt ≤ 99) ∧ (0 ≤ (eA g0 175 (x7075.toInt + 4)).toInt ∧ (eA g0 175 (x7075.toInt + 4)).toInt ≤ 9) ∧ (0 ≤ (eA g0 175 (x7075.toInt + 5)).toInt ∧ (eA g0 175 (x7075.toInt + 5)).toInt ≤ 9999) ∧ (0 ≤ (eA g0 175 (x7075.toInt + 1)).toInt ∧ (eA g0 175 (x7075.toInt + 1)).toInt < (gI g0 1 0).toInt) ∧ (0 ≤ (eA g0 175 (x7075.toInt + 2)).toInt ∧ (eA g0 175 (x7075.toInt + 2)).toInt < (gI g0 1 0).toInt) from by have c := WNL.y hr7203.2 (by omega); omega) (by omega) (by omega)); refine Eq.trans ?_ (eA_ix (g := g0) (p := 175) (show x7075.toInt + 1 = x7075.toInt + (i - 6 * x7076.toInt) from by omega)); omega) (fun k168_ => by refine (if_neg k168_).trans ?_; exact (Decidable.em ((gI g7199 1 4).toInt < 8 ∧ i = 6 * (gI g7199 1 4).toInt + 2)).elim (fun k169_ => by refine (if_pos k169_).trans ?_; refine Eq.trans ?_ (RFI.y (l := x7076.toInt) (by omega) (by omega) q7094 (show x7075.toInt + 6 ≤ (gI g0 174 1).toInt ∧ x7076.toInt < 8 ∧ (1 ≤ (eA g0 175 x7075.toInt).toInt ∧ (eA g0 175 x7075.toInt).toInt ≤ 9) ∧ (0 ≤ (eA g0 175 (x7075.toInt + 3)).toInt ∧ (eA g0 175 (x7075.toInt + 3)).toInt ≤ 99) ∧ (0 ≤ (eA g0 175 (x7075.toInt + 4)).toInt ∧ (eA g0 175 (x7075.toInt + 4)).toInt ≤ 9) ∧ (0 ≤ (eA g0 175 (x7075.toInt + 5)).toInt ∧ (eA g0 175 (x7075.toInt + 5)).toInt ≤ 9999) ∧ (0 ≤ (eA g0 175 (x7075.toInt + 1)).toInt ∧ (eA g0 175 (x7075.toInt + 1)).toInt < (gI g0 1 0).toInt) ∧ (0 ≤ (eA g0 175 (x7075.toInt + 2)).toInt ∧ (eA g0 175 (x7075.toInt + 2)).toInt < (gI g0 1 0).toInt) from by have c := WNL.y hr7203.2 (by omega); omega) (by omega) (by omega)); refine Eq.trans ?_ (eA_ix (g := g0) (p := 175) (show x7075.toInt + 2 = x7075.toInt + (i - 6 * x7076.toInt) from by omega)); omega) (fun k169_ => by refine (if_neg k169_).trans ?_; exact (Decidable.em ((gI g7199 1 4).toInt < 8 ∧ i = 6 * (gI g7199 1 4).toInt + 3)).elim (fun k170_ => by refine (if_pos k170_).trans ?_; refine Eq.trans ?_ (RFI.y (l := x7076.toInt) (by omega) (by omega) q7094 (show x7075.toInt + 6 ≤ (gI g0 174 1).toInt ∧ x7076.toInt < 8 ∧ (1 ≤ (eA g0 175 x7075.toInt).toInt ∧ (eA g0 175 x7075.toInt).toInt ≤ 9) ∧ (0 ≤ (eA g0 175 (x7075.toInt + 3)).toInt ∧ (eA g0 175 (x7075.toInt + 3)).toInt ≤ 99) ∧ (0 ≤ (eA g0 175 (x7075.toInt + 4)).toInt ∧ (eA g0 175 (x7075.toInt + 4)).toInt ≤ 9) ∧ (0 ≤ (eA g0 175 (x7075.toInt + 5)).toInt ∧ (eA g0 175 (x7075.toInt + 5)).toInt ≤ 9999) ∧ (0 ≤ (eA g0 175 (x7075.toInt + 1)).toInt ∧ (eA g0 175 (x7075.toInt + 1)).toInt < (gI g0 1 0).toInt) ∧ (0 ≤ (eA g0 175 (x7075.toInt + 2)).toInt ∧ (eA g0 175 (x7075.toInt + 2)).toInt < (gI g0 1 0).toInt) from by have c := WNL.y hr7203.2 (by omega); omega) (by omega) (by omega)); refine Eq.trans ?_ (eA_ix (g := g0) (p := 175) (show x7075.toInt + 3 = x7075.toInt + (i - 6 * x7076.toInt) from by omega)); omega) (fun k170_ => by refine (if_neg k170_).trans ?_; exact (Decidable.em ((gI g7199 1 4).toInt < 8 ∧ i = 6 * (gI g7199 1 4).toInt + 4)).elim (fun k171_ => by refine (if_pos k171_).trans ?_; refine Eq.trans ?_ (RFI.y (l := x7076.toInt) (by omega) (by omega) q7094 (show x7075.toInt + 6 ≤ (gI g0 174 1).toInt ∧ x7076.toInt < 8 ∧ (1 ≤ (eA g0 175 x7075.toInt).toInt ∧ (eA g0 175 x7075.toInt).toInt ≤ 9) ∧ (0 ≤ (eA g0 175 (x7075.toInt + 3)).toInt ∧ (eA g0 175 (x7075.toInt + 3)).toInt ≤ 99) ∧ (0 ≤ (eA g0 175 (x7075.toInt + 4)).toInt ∧ (eA g0 175 (x7075.toInt + 4)).toInt ≤ 9) ∧ (0 ≤ (eA g0 175 (x7075.toInt + 5)).toInt ∧ (eA g0 175 (x7075.toInt + 5)).toInt ≤ 9999) ∧ (0 ≤ (eA g0 175 (x7075.toInt + 1)).toInt ∧ (eA g0 175 (x7075.toInt + 1)).toInt < (gI g0 1 0).toInt) ∧ (0 ≤ (eA g0 175 (x7075.toInt + 2)).toInt ∧ (eA g0 175 (x7075.toInt + 2)).toInt < (gI g0 1 0).toInt) from by have c := WNL.y hr7203.2 (by omega); omega) (by omega) (by omega)); refine Eq.trans ?_ (eA_ix (g := g0) (p := 175) (show x7075.toInt + 4 = x7075.toInt + (i - 6 * x7076.toInt) from by omega)); omega) (fun k171_ => by refine (if_neg k171_).trans ?_; exact (Decidable.em ((gI g7199 1 4).toInt < 8 ∧ i = 6 * (gI g7199 1 4).toInt + 5)).elim (fun k172_ => by refine (if_pos k172_).trans ?_; refine Eq.trans ?_ (RFI.y (l := x7076.toInt) (by omega) (by omega) q7094 (show x7075.toInt + 6 ≤ (gI g0 174 1).toInt ∧ x7076.toInt < 8 ∧ (1 ≤ (eA g0 175 x7075.toInt).toInt ∧ (eA g0 175 x7075.toInt).toInt ≤ 9) ∧ (0 ≤ (eA g0 175 (x7075.toInt + 3)).toInt ∧ (eA g0 175 (x7075.toInt + 3)).toInt ≤ 99) ∧ (0 ≤ (eA g0 175 (x7075.toInt + 4)).toInt ∧ (eA g0 175 (x7075.toInt + 4)).toInt ≤ 9) ∧ (0 ≤ (eA g0 175 (x7075.toInt + 5)).toInt ∧ (eA g0 175 (x7075.toInt + 5)).toInt ≤ 9999) ∧ (0 ≤ (eA g0 175 (x7075.toInt + 1)).toInt ∧ (eA g0 175 (x7075.toInt + 1)).toInt < (gI g0 1 0).toInt) ∧ (0 ≤ (eA g0 175 (x7075.toInt + 2)).toInt ∧ (eA g0 175 (x7075.toInt + 2)).toInt < (gI g0 1 0).toInt) from by have c := WNL.y hr7203.2 (by omega); omega) (by omega) (by omega)); refine Eq.trans ?_ (eA_ix (g := g0) (p := 175) (show x7075.toInt + 5 = x7075.toInt + (i - 6 * x7076.toInt) from by omega)); omega) (fun k172_ => by refine (if_neg k172_).trans ?_; refine (eA_ti (((hF7201.2.1 5 (by decide)).trans ((hF7192.2.1 5 (by decide)).trans ((hF7182.2.1 5 (by decide)).trans ((hF7172.2.1 5 (by decide)).trans ((hF7162.2.1 5 (by decide)).trans ((hF7152.2.1 5 (by decide)).trans (hF7141.2.1 5 (by decide)))))))))).trans ?_; refine (q7097 i i0 i1).trans ?_; exact RFI.n (by omega) (by omega) q7094 (by omega) rfl (fun k => absurd k.2 (by omega)))))))))⟩ ⟨by omega, by omega⟩
        · have c7207_ : v7202.toInt ≠ 0 := en_k_eq_f c7207
          refine At.enter rfl ?_
          refine r_iconst 0 rfl ?_
          refine q_iretz (by decide) ?_
          refine At.enter rfl ?_
          refine r_ift (by decide) ?_
          refine At.enter rfl ?_
          refine q_iincO e7087 (fun v7221 _ => ?_)
          refine Ar.fall 59 rfl ?_
          refine At.enter rfl ?_
          refine q_iinc (w_p1 (by decide) (Or.inr rfl) e7088) (x7075.toInt + 6) rfl (by omega) (fun v7222 hv7222 => ?_)
          refine r_goto ?_
          have bv7223 := q_bnd x7073
          have bv7224 := q_bnd v7221
          exact ih7082 (405 - v7222.toInt) _ _ ⟨x7073, v7221, v7222, x7076, by first | rfl | omega, hI7200, hF7204, (((hF7201.1 1 4 (by decide)).trans ((hF7192.1 1 4 (by decide)).trans ((hF7182.1 1 4 (by decide)).trans ((hF7172.1 1 4 (by decide)).trans ((hF7162.1 1 4 (by decide)).trans ((hF7152.1 1 4 (by decide)).trans (hF7141.1 1 4 (by decide)))))))).trans e7083), (w_p1 (by decide) (Or.inr rfl) (w_p1 (by decide) (Or.inr rfl) e7084)), (w_p1 (by decide) (Or.inr rfl) (w_p1 (by decide) (Or.inr rfl) e7085)), (w_p1 (by decide) (Or.inr rfl) (w_p1 (by decide) (Or.inr rfl) e7086)), (w_p1 (by decide) (Or.inr rfl) (w_e1 _ _ _)), (w_e1 _ _ _), by omega, by omega, by omega, by omega, by omega, (RLI.n (by omega) (by omega) q7094 (fun h => by have h2 : x7075.toInt + 6 ≤ (gI g0 174 1).toInt ∧ x7076.toInt < 8 ∧ (1 ≤ (eA g0 175 x7075.toInt).toInt ∧ (eA g0 175 x7075.toInt).toInt ≤ 9) ∧ (0 ≤ (eA g0 175 (x7075.toInt + 3)).toInt ∧ (eA g0 175 (x7075.toInt + 3)).toInt ≤ 99) ∧ (0 ≤ (eA g0 175 (x7075.toInt + 4)).toInt ∧ (eA g0 175 (x7075.toInt + 4)).toInt ≤ 9) ∧ (0 ≤ (eA g0 175 (x7075.toInt + 5)).toInt ∧ (eA g0 175 (x7075.toInt + 5)).toInt ≤ 9999) ∧ (0 ≤ (eA g0 175 (x7075.toInt + 1)).toInt ∧ (eA g0 175 (x7075.toInt + 1)).toInt < (gI g0 1 0).toInt) ∧ (0 ≤ (eA g0 175 (x7075.toInt + 2)).toInt ∧ (eA g0 175 (x7075.toInt + 2)).toInt < (gI g0 1 0).toInt) := h; have c := WNL.n hr7203.2 (by omega); omega) (by omega) (by omega)), by omega, by omega, (by intro i i0 i1; refine (eA_ti (((hF7201.2.1 5 (by decide)).trans ((hF7192.2.1 5 (by decide)).trans ((hF7182.2.1 5 (by decide)).trans ((hF7172.2.1 5 (by decide)).trans ((hF7162.2.1 5 (by decide)).trans ((hF7152.2.1 5 (by decide)).trans (hF7141.2.1 5 (by decide)))))))))).trans ?_; refine (q7097 i i0 i1).trans ?_; exact RFI.n (by omega) (by omega) q7094 (by omega) rfl (fun k => absurd k.1 (fun h => by have h2 : x7075.toInt + 6 ≤ (gI g0 174 1).toInt ∧ x7076.toInt < 8 ∧ (1 ≤ (eA g0 175 x7075.toInt).toInt ∧ (eA g0 175 x7075.toInt).toInt ≤ 9) ∧ (0 ≤ (eA g0 175 (x7075.toInt + 3)).toInt ∧ (eA g0 175 (x7075.toInt + 3)).toInt ≤ 99) ∧ (0 ≤ (eA g0 175 (x7075.toInt + 4)).toInt ∧ (eA g0 175 (x7075.toInt + 4)).toInt ≤ 9) ∧ (0 ≤ (eA g0 175 (x7075.toInt + 5)).toInt ∧ (eA g0 175 (x7075.toInt + 5)).toInt ≤ 9999) ∧ (0 ≤ (eA g0 175 (x7075.toInt + 1)).toInt ∧ (eA g0 175 (x7075.toInt + 1)).toInt < (gI g0 1 0).toInt) ∧ (0 ≤ (eA g0 175 (x7075.toInt + 2)).toInt ∧ (eA g0 175 (x7075.toInt + 2)).toInt < (gI g0 1 0).toInt) := h; have c := WNL.n hr7203.2 (by omega); omega)))⟩ ⟨by omega, by omega⟩
  · have c4803_ : v4802.toInt = 0 := en_k_ne_f c4803
    refine At.enter rfl ?_
    refine r_aload_n rfl ?_
    refine r_bipush (-6) rfl ?_
    refine r_callV 18 rfl [.ref 0, .int (-6)] [] (Nat.le_of_ble_eq_true rfl) rfl (T_X10_refused_0 _ hI0 (-6) (by decide)) ?_
    rintro _ _ ⟨g7225, rfl, hI7226, hF7227, v7228, rfl, hr7229⟩
    refine At.sti ?_
    have hF7230 := Fr.tr hF0 hF7227 rfl rfl
    have zv7231 : ((-6) : Int32).toInt = (-6) := rfl
    refine At.enter rfl ?_
    refine r_ireti ?_
    obtain ⟨v7232, hv7232⟩ : ∃ v, gI g0 1 4 = v := ⟨_, rfl⟩
    have rv7232 := RgF.at hI0.2.1 (p := 1) (b := 4) rfl
    rw [hv7232] at rv7232
    dsimp only at rv7232
    have tv7232 := congrArg Int32.toInt hv7232
    have x7233 := HI.eqI hI7226 (p := 1) (b := 4) (((hF7227.1 1 4 (by decide)).trans hv7232))
    have x7234 := HI.eqI hI0 (p := 1) (b := 4) (hv7232)
    have x7235 := HI.eqI hI7226 (p := 174) (b := 1) (((hF7227.1 174 1 (by decide)).trans hv4802))
    have x7236 := HI.eqI hI0 (p := 174) (b := 1) (hv4802)
    obtain ⟨v7237, hv7237⟩ : ∃ v, gI g0 0 16 = v := ⟨_, rfl⟩
    have tv7237 := congrArg Int32.toInt hv7237
    have x7238 := HI.eqI hI7226 (p := 0) (b := 16) (((hF7227.1 0 16 (by decide)).trans hv7237))
    have x7239 := HI.eqI hI0 (p := 0) (b := 16) (hv7237)
    obtain ⟨v7240, hv7240⟩ : ∃ v, gI g0 1 0 = v := ⟨_, rfl⟩
    have rv7240 := RgF.at hI0.2.1 (p := 1) (b := 0) rfl
    rw [hv7240] at rv7240
    dsimp only at rv7240
    have tv7240 := congrArg Int32.toInt hv7240
    have x7241 := HI.eqI hI0 (p := 1) (b := 0) (hv7240)
    exact ⟨_, rfl, hI7226, hF7230, _, rfl, trivial, ⟨⟨(by refine Eq.trans ?_ (RLI.z _ _ _ _ (by omega)); omega), by omega, by omega, by omega⟩, (by intro i i0 i1; refine (eA_ti ((hF7227.2.1 5 (by decide)))).trans ?_; exact RFI.z _ _ _ _ _ (by omega) _)⟩⟩

