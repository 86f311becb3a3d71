set_option maxRecDepth 100000 in
set_option maxHeartbeats 4000000 in
theorem S_X5_readPlain_176 (n : Nat) (IHJ : QJ n) (IHP : QP n) (IHT : QT n) : QP (n + 1) := by
  intro e he N g0 hI0 a1 h_a1 hm
  obtain ⟨d, rfl⟩ : ∃ d, e = d + 4 := ⟨e - 4, by omega⟩
  have hF0 : Fr F_rd A_rd g0 g0 := Fr.rf
  refine Ev.mk rfl rfl ⟨Nat.le_of_ble_eq_true rfl, Or.inr (q_rc hI0.1 kx_176 rfl)⟩ ?_
  show At _ none _ _ (0, [(0, .ref 176), (1, .int a1)], [], (_, _)) _
  refine At.enter rfl ?_
  refine r_iconst 0 rfl ?_
  refine r_istore_n ([(2, .int 0), (0, .ref 176), (1, .int a1)]) rfl ?_
  refine r_iconst 0 rfl ?_
  refine r_istore_n ([(3, .int 0), (2, .int 0), (0, .ref 176), (1, .int a1)]) rfl ?_
  refine Ar.fall 4 rfl ?_
  have z_8137 : (0 : Int32).toInt = 0 := rfl
  have z_8138 : (0 : Int32).toInt = 0 := rfl
  refine w_loopI (fun n_ l_ g_ => ∃ x8123 : Int32, ∃ x8124 : Int32, n_ = 400 - x8124.toInt ∧ HI g_ ∧ Fr F_rd A_rd g0 g_ ∧ en_get 0 l_ = some (.ref 176) ∧ en_get 1 l_ = some (.int a1) ∧ en_get 2 l_ = some (.int x8123) ∧ en_get 3 l_ = some (.int x8124) ∧ (0 ≤ x8123.toInt ∧ x8123.toInt ≤ 1) ∧ (0 ≤ x8124.toInt ∧ x8124.toInt ≤ 400)) ?_ (400 - 0) ⟨0, 0, by first | rfl | omega, hI0, hF0, rfl, rfl, rfl, rfl, by decide, by decide⟩
  rintro n8129 l8128 g8125 ⟨x8123, x8124, hm8139, hI8126, hF8127, e8131, e8132, e8133, e8134, r8135, r8136⟩ ih8130
  refine At.enter rfl ?_
  refine r_iload_n e8134 ?_
  refine r_sipush 400 rfl ?_
  refine r_ics 11 rfl (fun c8140 => ?_) (fun c8140 => ?_)
  · have c8140_ : x8124.toInt ≥ 400 := en_i_ge_t c8140
    refine At.enter rfl ?_
    refine r_aload_n e8131 ?_
    refine r_bipush 40 rfl ?_
    refine r_callV 46 rfl [.ref 176, .int 40] [] (Nat.le_of_ble_eq_true rfl) rfl (T_X5_isSingle_176 _ hI8126 40) ?_
    rintro _ _ ⟨g8141, rfl, hI8142, hF8143, v8144, rfl, hr8145⟩
    refine At.sti ?_
    have hF8146 := Fr.tr hF8127 hF8143 rfl rfl
    refine At.enter rfl ?_
    refine r_ifs 49 rfl (fun c8147 => ?_) (fun c8147 => ?_)
    · have c8147_ : v8144.toInt = 0 := en_k_eq_t c8147
      refine At.enter rfl ?_
      refine r_aload_n e8131 ?_
      refine r_iconst 2 rfl ?_
      refine r_iload_n e8132 ?_
      have zv8148 : (2 : Int32).toInt = 2 := rfl
      refine r_callV 85 rfl [.ref 176, .int 2, .int a1] [] (Nat.le_of_ble_eq_true rfl) rfl (IHJ _ (by omega) hI8142 2 (by decide) a1 (by omega) (by omega)) ?_
      rintro _ _ ⟨g8149, rfl, hI8150, hF8151, rfl⟩
      refine At.stn ?_
      have hF8154 := Fr.tr hF8146 hF8151 rfl rfl
      refine At.enter rfl ?_
      refine r_aload_n e8131 ?_
      refine r_callV 89 rfl [.ref 176] [] (Nat.le_of_ble_eq_true rfl) rfl (T_X5_comparisonHere_176 _ hI8150) ?_
      rintro _ _ ⟨g8155, rfl, hI8156, hF8157, v8158, rfl, hr8159⟩
      refine At.sti ?_
      have hF8160 := Fr.tr hF8154 hF8157 rfl rfl
      refine At.enter rfl ?_
      refine r_istore_n _ rfl ?_
      refine r_iload_n (w_e1 _ _ _) ?_
      refine r_iconst (-1) rfl ?_
      refine r_ics 95 rfl (fun c8161 => ?_) (fun c8161 => ?_)
      · have c8161_ : v8158.toInt ≠ (-1) := en_i_ne_t c8161
        refine At.enter rfl ?_
        refine r_aload_n (w_p1 (by decide) (Or.inr rfl) e8131) ?_
        refine r_callV 104 rfl [.ref 176] [] (Nat.le_of_ble_eq_true rfl) rfl (T_X5_step_176 _ hI8156) ?_
        rintro _ _ ⟨g8162, rfl, hI8163, hF8164, rfl⟩
        refine At.stn ?_
        have hF8167 := Fr.tr hF8160 hF8164 rfl rfl
        refine At.enter rfl ?_
        refine r_aload_n (w_p1 (by decide) (Or.inr rfl) e8131) ?_
        refine r_iconst 2 rfl ?_
        refine r_iload_n (w_p1 (by decide) (Or.inr rfl) e8132) ?_
        have zv8168 : (2 : Int32).toInt = 2 := rfl
        refine r_callV 110 rfl [.ref 176, .int 2, .int a1] [] (Nat.le_of_ble_eq_true rfl) rfl (IHJ _ (by omega) hI8163 2 (by decide) a1 (by omega) (by omega)) ?_
        rintro _ _ ⟨g8169, rfl, hI8170, hF8171, rfl⟩
        refine At.stn ?_
        have hF8174 := Fr.tr hF8167 hF8171 rfl rfl
        refine At.enter rfl ?_
        refine r_aload_n (w_p1 (by decide) (Or.inr rfl) e8131) ?_
        refine q_getR (Sh.ref hI8170.1 kx_176 rfl) ?_
        refine r_iload_n (w_e1 _ _ _) ?_
        refine r_iconst 0 rfl ?_
        refine r_callV 119 rfl [.ref 177, .int v8158, .int 0] [] (Nat.le_of_ble_eq_true rfl) rfl (T_X4_add_177 _ hI8170 v8158 0) ?_
        rintro _ _ ⟨g8175, rfl, hI8176, hF8177, v8178, rfl, hr8179⟩
        refine At.sti ?_
        have hF8180 := Fr.tr hF8174 hF8177 rfl rfl
        refine At.enter rfl ?_
        refine r_pop rfl ?_
        refine Ar.fall 120 rfl ?_
        refine At.enter rfl ?_
        refine r_iload_n (w_p1 (by decide) (Or.inr rfl) e8133) ?_
        refine r_ifs 124 rfl (fun c8181 => ?_) (fun c8181 => ?_)
        · have c8181_ : x8123.toInt = 0 := en_k_eq_t c8181
          refine At.enter rfl ?_
          refine r_vret ?_
          exact ⟨_, rfl, hI8176, hF8180, rfl⟩
        · have c8181_ : x8123.toInt ≠ 0 := en_k_eq_f c8181
          refine At.enter rfl ?_
          refine r_aload_n (w_p1 (by decide) (Or.inr rfl) e8131) ?_
          refine q_getR (Sh.ref hI8176.1 kx_176 rfl) ?_
          refine r_bipush 9 rfl ?_
          refine r_iconst 0 rfl ?_
          refine r_callV 134 rfl [.ref 177, .int 9, .int 0] [] (Nat.le_of_ble_eq_true rfl) rfl (T_X4_add_177 _ hI8176 9 0) ?_
          rintro _ _ ⟨g8182, rfl, hI8183, hF8184, v8185, rfl, hr8186⟩
          refine At.sti ?_
          have hF8187 := Fr.tr hF8180 hF8184 rfl rfl
          refine At.enter rfl ?_
          refine r_pop rfl ?_
          refine Ar.fall 135 rfl ?_
          refine At.enter rfl ?_
          refine r_vret ?_
          exact ⟨_, rfl, hI8183, hF8187, rfl⟩
      · have c8161_ : v8158.toInt = (-1) := en_i_ne_f c8161
        refine At.enter rfl ?_
        refine r_aload_n (w_p1 (by decide) (Or.inr rfl) e8131) ?_
        refine q_inlV 99 rfl [.ref 176] [] (Nat.le_of_ble_eq_true rfl) rfl ?_
        refine Ev.mk rfl rfl ⟨Nat.le_of_ble_eq_true rfl, Or.inr (q_rc hI8156.1 kx_176 rfl)⟩ ?_
        show At _ none _ _ (0, [(0, .ref 176)], [], (_, _)) _
        refine At.enter rfl ?_
        refine r_aload_n rfl ?_
        obtain ⟨v8188, hv8188⟩ : ∃ v, gI g8149 176 2 = v := ⟨_, rfl⟩
        refine q_getI (Sh.int hI8156.1 kx_176 rfl) v8188 ((hF8157.1 176 2 (by decide)).trans hv8188) ?_
        refine r_iconst (-1) rfl ?_
        refine r_ics 8 rfl (fun c8189 => ?_) (fun c8189 => ?_)
        · have c8189_ : v8188.toInt ≠ (-1) := en_i_ne_t c8189
          refine At.enter rfl ?_
          refine q_vret ?_
          refine At.enter rfl ?_
          refine r_vret ?_
          exact ⟨_, rfl, hI8156, hF8160, rfl⟩
        · have c8189_ : v8188.toInt = (-1) := en_i_ne_f c8189
          refine At.enter rfl ?_
          refine r_aload_n rfl ?_
          refine r_aload_n rfl ?_
          obtain ⟨v8190, hv8190⟩ : ∃ v, gI g8149 176 4 = v := ⟨_, rfl⟩
          have rv8190 := RgF.at hI8150.2.1 (p := 176) (b := 4) rfl
          rw [hv8190] at rv8190
          dsimp only at rv8190
          refine q_getI (Sh.int hI8156.1 kx_176 rfl) v8190 ((hF8157.1 176 4 (by decide)).trans hv8190) ?_
          refine q_putI (Sh.int hI8156.1 kx_176 rfl) rfl ?_
          have hI8191 := HI.wI0 hI8156 kx_176 rfl (p := 176) (b := 2) (v := v8190) rfl
          have hF8192 := Fr.wI (p := 176) (b := 2) (v := v8190) hF8160 rfl
          refine Ar.fall 16 rfl ?_
          refine At.enter rfl ?_
          refine q_vret ?_
          refine At.enter rfl ?_
          refine r_vret ?_
          exact ⟨_, rfl, hI8191, hF8192, rfl⟩
    · have c8147_ : v8144.toInt ≠ 0 := en_k_eq_f c8147
      refine At.enter rfl ?_
      refine r_aload_n e8131 ?_
      refine r_iload_n e8132 ?_
      refine q_inlV 54 rfl [.ref 176, .int a1] [] (Nat.le_of_ble_eq_true rfl) rfl ?_
      refine Ev.mk rfl rfl ⟨Nat.le_of_ble_eq_true rfl, Or.inr (q_rc hI8142.1 kx_176 rfl)⟩ ?_
      show At _ none _ _ (0, [(0, .ref 176), (1, .int a1)], [], (_, _)) _
      refine At.enter rfl ?_
      refine r_iload_n rfl ?_
      refine r_bipush 8 rfl ?_
      refine r_ics 6 rfl (fun c8193 => ?_) (fun c8193 => ?_)
      · have c8193_ : a1.toInt < 8 := en_i_lt_t c8193
        refine At.enter rfl ?_
        refine r_aload_n rfl ?_
        refine r_callV 17 rfl [.ref 176] [] (Nat.le_of_ble_eq_true rfl) rfl (T_X5_step_176 _ hI8142) ?_
        rintro _ _ ⟨g8194, rfl, hI8195, hF8196, rfl⟩
        refine At.stn ?_
        have hF8199 := Fr.tr hF8146 hF8196 rfl rfl
        refine At.enter rfl ?_
        refine q_vret ?_
        refine At.enter rfl ?_
        refine r_aload_n e8131 ?_
        obtain ⟨v8200, hv8200⟩ : ∃ v, gI g8125 176 2 = v := ⟨_, rfl⟩
        refine q_getI (Sh.int hI8195.1 kx_176 rfl) v8200 (((hF8196.1 176 2 (by decide)).trans (hF8143.1 176 2 (by decide))).trans hv8200) ?_
        refine r_iconst (-1) rfl ?_
        refine r_ics 62 rfl (fun c8201 => ?_) (fun c8201 => ?_)
        · have c8201_ : v8200.toInt ≠ (-1) := en_i_ne_t c8201
          refine At.enter rfl ?_
          refine r_iload_n e8133 ?_
          refine r_ifs 124 rfl (fun c8202 => ?_) (fun c8202 => ?_)
          · have c8202_ : x8123.toInt = 0 := en_k_eq_t c8202
            refine At.enter rfl ?_
            refine r_vret ?_
            exact ⟨_, rfl, hI8195, hF8199, rfl⟩
          · have c8202_ : x8123.toInt ≠ 0 := en_k_eq_f c8202
            refine At.enter rfl ?_
            refine r_aload_n e8131 ?_
            refine q_getR (Sh.ref hI8195.1 kx_176 rfl) ?_
            refine r_bipush 9 rfl ?_
            refine r_iconst 0 rfl ?_
            refine r_callV 134 rfl [.ref 177, .int 9, .int 0] [] (Nat.le_of_ble_eq_true rfl) rfl (T_X4_add_177 _ hI8195 9 0) ?_
            rintro _ _ ⟨g8203, rfl, hI8204, hF8205, v8206, rfl, hr8207⟩
            refine At.sti ?_
            have hF8208 := Fr.tr hF8199 hF8205 rfl rfl
            refine At.enter rfl ?_
            refine r_pop rfl ?_
            refine Ar.fall 135 rfl ?_
            refine At.enter rfl ?_
            refine r_vret ?_
            exact ⟨_, rfl, hI8204, hF8208, rfl⟩
        · have c8201_ : v8200.toInt = (-1) := en_i_ne_f c8201
          refine At.enter rfl ?_
          refine r_aload_n e8131 ?_
          refine r_iconst 0 rfl ?_
          refine r_iload_n e8132 ?_
          refine r_iconst 1 rfl ?_
          refine q_iadd (a1.toInt + 1) rfl (by omega) (fun v8209 hv8209 => ?_)
          have zv8210 : (0 : Int32).toInt = 0 := rfl
          refine r_callV 70 rfl [.ref 176, .int 0, .int v8209] [] (Nat.le_of_ble_eq_true rfl) rfl (IHJ _ (by omega) hI8195 0 (by decide) v8209 (by omega) (by omega)) ?_
          rintro _ _ ⟨g8211, rfl, hI8212, hF8213, rfl⟩
          refine At.stn ?_
          have hF8216 := Fr.tr hF8199 hF8213 rfl rfl
          refine At.enter rfl ?_
          refine r_aload_n e8131 ?_
          refine r_bipush 41 rfl ?_
          refine r_callV 76 rfl [.ref 176, .int 41] [] (Nat.le_of_ble_eq_true rfl) rfl (T_X5_expect_176 _ hI8212 41) ?_
          rintro _ _ ⟨g8217, rfl, hI8218, hF8219, rfl⟩
          refine At.stn ?_
          have hF8222 := Fr.tr hF8216 hF8219 rfl rfl
          refine At.enter rfl ?_
          refine r_goto ?_
          refine At.enter rfl ?_
          refine r_iload_n e8133 ?_
          refine r_ifs 124 rfl (fun c8223 => ?_) (fun c8223 => ?_)
          · have c8223_ : x8123.toInt = 0 := en_k_eq_t c8223
            refine At.enter rfl ?_
            refine r_vret ?_
            exact ⟨_, rfl, hI8218, hF8222, rfl⟩
          · have c8223_ : x8123.toInt ≠ 0 := en_k_eq_f c8223
            refine At.enter rfl ?_
            refine r_aload_n e8131 ?_
            refine q_getR (Sh.ref hI8218.1 kx_176 rfl) ?_
            refine r_bipush 9 rfl ?_
            refine r_iconst 0 rfl ?_
            refine r_callV 134 rfl [.ref 177, .int 9, .int 0] [] (Nat.le_of_ble_eq_true rfl) rfl (T_X4_add_177 _ hI8218 9 0) ?_
            rintro _ _ ⟨g8224, rfl, hI8225, hF8226, v8227, rfl, hr8228⟩
            refine At.sti ?_
            have hF8229 := Fr.tr hF8222 hF8226 rfl rfl
            refine At.enter rfl ?_
            refine r_pop rfl ?_
            refine Ar.fall 135 rfl ?_
            refine At.enter rfl ?_
            refine r_vret ?_
            exact ⟨_, rfl, hI8225, hF8229, rfl⟩
      · have c8193_ : a1.toInt ≥ 8 := en_i_lt_f c8193
        refine At.enter rfl ?_
        refine r_aload_n rfl ?_
        refine q_inlV 10 rfl [.ref 176] [] (Nat.le_of_ble_eq_true rfl) rfl ?_
        refine Ev.mk rfl rfl ⟨Nat.le_of_ble_eq_true rfl, Or.inr (q_rc hI8142.1 kx_176 rfl)⟩ ?_
        show At _ none _ _ (0, [(0, .ref 176)], [], (_, _)) _
        refine At.enter rfl ?_
        refine r_aload_n rfl ?_
        obtain ⟨v8230, hv8230⟩ : ∃ v, gI g8125 176 2 = v := ⟨_, rfl⟩
        refine q_getI (Sh.int hI8142.1 kx_176 rfl) v8230 ((hF8143.1 176 2 (by decide)).trans hv8230) ?_
        refine r_iconst (-1) rfl ?_
        refine r_ics 8 rfl (fun c8231 => ?_) (fun c8231 => ?_)
        · have c8231_ : v8230.toInt ≠ (-1) := en_i_ne_t c8231
          refine At.enter rfl ?_
          refine q_vret ?_
          refine At.enter rfl ?_
          refine r_goto ?_
          refine At.enter rfl ?_
          refine q_vret ?_
          refine At.enter rfl ?_
          refine r_aload_n e8131 ?_
          refine q_getI (Sh.int hI8142.1 kx_176 rfl) v8230 ((hF8143.1 176 2 (by decide)).trans hv8230) ?_
          refine r_iconst (-1) rfl ?_
          refine r_ics 62 rfl (fun c8232 => ?_) (fun c8232 => ?_)
          · have c8232_ : v8230.toInt ≠ (-1) := en_i_ne_t c8232
            refine At.enter rfl ?_
            refine r_iload_n e8133 ?_
            refine r_ifs 124 rfl (fun c8233 => ?_) (fun c8233 => ?_)
            · have c8233_ : x8123.toInt = 0 := en_k_eq_t c8233
              refine At.enter rfl ?_
              refine r_vret ?_
              exact ⟨_, rfl, hI8142, hF8146, rfl⟩
            · have c8233_ : x8123.toInt ≠ 0 := en_k_eq_f c8233
              refine At.enter rfl ?_
              refine r_aload_n e8131 ?_
              refine q_getR (Sh.ref hI8142.1 kx_176 rfl) ?_
              refine r_bipush 9 rfl ?_
              refine r_iconst 0 rfl ?_
              refine r_callV 134 rfl [.ref 177, .int 9, .int 0] [] (Nat.le_of_ble_eq_true rfl) rfl (T_X4_add_177 _ hI8142 9 0) ?_
              rintro _ _ ⟨g8234, rfl, hI8235, hF8236, v8237, rfl, hr8238⟩
              refine At.sti ?_
              have hF8239 := Fr.tr hF8146 hF8236 rfl rfl
              refine At.enter rfl ?_
              refine r_pop rfl ?_
              refine Ar.fall 135 rfl ?_
              refine At.enter rfl ?_
              refine r_vret ?_
              exact ⟨_, rfl, hI8235, hF8239, rfl⟩
          · have c8232_ : v8230.toInt = (-1) := en_i_ne_f c8232
            refine At.enter rfl ?_
            refine r_aload_n e8131 ?_
            refine r_iconst 0 rfl ?_
            refine r_iload_n e8132 ?_
            refine r_iconst 1 rfl ?_
            refine q_iadd (a1.toInt + 1) rfl (by omega) (fun v8240 hv8240 => ?_)
            have zv8241 : (0 : Int32).toInt = 0 := rfl
            refine r_callV 70 rfl [.ref 176, .int 0, .int v8240] [] (Nat.le_of_ble_eq_true rfl) rfl (IHJ _ (by omega) hI8142 0 (by decide) v8240 (by omega) (by omega)) ?_
            rintro _ _ ⟨g8242, rfl, hI8243, hF8244, rfl⟩
            refine At.stn ?_
            have hF8247 := Fr.tr hF8146 hF8244 rfl rfl
            refine At.enter rfl ?_
            refine r_aload_n e8131 ?_
            refine r_bipush 41 rfl ?_
            refine r_callV 76 rfl [.ref 176, .int 41] [] (Nat.le_of_ble_eq_true rfl) rfl (T_X5_expect_176 _ hI8243 41) ?_
            rintro _ _ ⟨g8248, rfl, hI8249, hF8250, rfl⟩
            refine At.stn ?_
            have hF8253 := Fr.tr hF8247 hF8250 rfl rfl
            refine At.enter rfl ?_
            refine r_goto ?_
            refine At.enter rfl ?_
            refine r_iload_n e8133 ?_
            refine r_ifs 124 rfl (fun c8254 => ?_) (fun c8254 => ?_)
            · have c8254_ : x8123.toInt = 0 := en_k_eq_t c8254
              refine At.enter rfl ?_
              refine r_vret ?_
              exact ⟨_, rfl, hI8249, hF8253, rfl⟩
            · have c8254_ : x8123.toInt ≠ 0 := en_k_eq_f c8254
              refine At.enter rfl ?_
              refine r_aload_n e8131 ?_
              refine q_getR (Sh.ref hI8249.1 kx_176 rfl) ?_
              refine r_bipush 9 rfl ?_
              refine r_iconst 0 rfl ?_
              refine r_callV 134 rfl [.ref 177, .int 9, .int 0] [] (Nat.le_of_ble_eq_true rfl) rfl (T_X4_add_177 _ hI8249 9 0) ?_
              rintro _ _ ⟨g8255, rfl, hI8256, hF8257, v8258, rfl, hr8259⟩
              refine At.sti ?_
              have hF8260 := Fr.tr hF8253 hF8257 rfl rfl
              refine At.enter rfl ?_
              refine r_pop rfl ?_
              refine Ar.fall 135 rfl ?_
              refine At.enter rfl ?_
              refine r_vret ?_
              exact ⟨_, rfl, hI8256, hF8260, rfl⟩
        · have c8231_ : v8230.toInt = (-1) := en_i_ne_f c8231
          refine At.enter rfl ?_
          refine r_aload_n rfl ?_
          refine r_aload_n rfl ?_
          obtain ⟨v8261, hv8261⟩ : ∃ v, gI g8125 176 4 = v := ⟨_, rfl⟩
          have rv8261 := RgF.at hI8126.2.1 (p := 176) (b := 4) rfl
          rw [hv8261] at rv8261
          dsimp only at rv8261
          refine q_getI (Sh.int hI8142.1 kx_176 rfl) v8261 ((hF8143.1 176 4 (by decide)).trans hv8261) ?_
          refine q_putI (Sh.int hI8142.1 kx_176 rfl) rfl ?_
          have hI8262 := HI.wI0 hI8142 kx_176 rfl (p := 176) (b := 2) (v := v8261) rfl
          have hF8263 := Fr.wI (p := 176) (b := 2) (v := v8261) hF8146 rfl
          refine Ar.fall 16 rfl ?_
          refine At.enter rfl ?_
          refine q_vret ?_
          refine At.enter rfl ?_
          refine r_goto ?_
          refine At.enter rfl ?_
          refine q_vret ?_
          refine At.enter rfl ?_
          refine r_aload_n e8131 ?_
          refine q_getI (Sh.int hI8262.1 kx_176 rfl) v8261 (gI_sI_eq hI8142.1 kx_176 rfl _) ?_
          refine r_iconst (-1) rfl ?_
          refine r_ics 62 rfl (fun c8264 => ?_) (fun c8264 => ?_)
          · have c8264_ : v8261.toInt ≠ (-1) := en_i_ne_t c8264
            refine At.enter rfl ?_
            refine r_iload_n e8133 ?_
            refine r_ifs 124 rfl (fun c8265 => ?_) (fun c8265 => ?_)
            · have c8265_ : x8123.toInt = 0 := en_k_eq_t c8265
              refine At.enter rfl ?_
              refine r_vret ?_
              exact ⟨_, rfl, hI8262, hF8263, rfl⟩
            · have c8265_ : x8123.toInt ≠ 0 := en_k_eq_f c8265
              refine At.enter rfl ?_
              refine r_aload_n e8131 ?_
              refine q_getR (Sh.ref hI8262.1 kx_176 rfl) ?_
              refine r_bipush 9 rfl ?_
              refine r_iconst 0 rfl ?_
              refine r_callV 134 rfl [.ref 177, .int 9, .int 0] [] (Nat.le_of_ble_eq_true rfl) rfl (T_X4_add_177 _ hI8262 9 0) ?_
              rintro _ _ ⟨g8266, rfl, hI8267, hF8268, v8269, rfl, hr8270⟩
              refine At.sti ?_
              have hF8271 := Fr.tr hF8263 hF8268 rfl rfl
              refine At.enter rfl ?_
              refine r_pop rfl ?_
              refine Ar.fall 135 rfl ?_
              refine At.enter rfl ?_
              refine r_vret ?_
              exact ⟨_, rfl, hI8267, hF8271, rfl⟩
          · have c8264_ : v8261.toInt = (-1) := en_i_ne_f c8264
            exfalso; omega
  · have c8140_ : x8124.toInt < 400 := en_i_ge_f c8140
    refine At.enter rfl ?_
    refine r_aload_n e8131 ?_
    refine r_ldcS (by decide) 4 rfl ?_
    refine r_callV 17 rfl [.ref 176, .float 4] [] (Nat.le_of_ble_eq_true rfl) rfl (T_X5_isWord_176 _ hI8126 4 (by decide)) ?_
    rintro _ _ ⟨g8272, rfl, hI8273, hF8274, v8275, rfl, hr8276⟩
    refine At.sti ?_
    have hF8277 := Fr.tr hF8127 hF8274 rfl rfl
    refine At.enter rfl ?_
    refine r_ifs 20 rfl (fun c8278 => ?_) (fun c8278 => ?_)
    · have c8278_ : v8275.toInt = 0 := en_k_eq_t c8278
      refine At.enter rfl ?_
      refine r_aload_n e8131 ?_
      refine r_bipush 40 rfl ?_
      refine r_callV 46 rfl [.ref 176, .int 40] [] (Nat.le_of_ble_eq_true rfl) rfl (T_X5_isSingle_176 _ hI8273 40) ?_
      rintro _ _ ⟨g8279, rfl, hI8280, hF8281, v8282, rfl, hr8283⟩
      refine At.sti ?_
      have hF8284 := Fr.tr hF8277 hF8281 rfl rfl
      refine At.enter rfl ?_
      refine r_ifs 49 rfl (fun c8285 => ?_) (fun c8285 => ?_)
      · have c8285_ : v8282.toInt = 0 := en_k_eq_t c8285
        refine At.enter rfl ?_
        refine r_aload_n e8131 ?_
        refine r_iconst 2 rfl ?_
        refine r_iload_n e8132 ?_
        have zv8286 : (2 : Int32).toInt = 2 := rfl
        refine r_callV 85 rfl [.ref 176, .int 2, .int a1] [] (Nat.le_of_ble_eq_true rfl) rfl (IHJ _ (by omega) hI8280 2 (by decide) a1 (by omega) (by omega)) ?_
        rintro _ _ ⟨g8287, rfl, hI8288, hF8289, rfl⟩
        refine At.stn ?_
        have hF8292 := Fr.tr hF8284 hF8289 rfl rfl
        refine At.enter rfl ?_
        refine r_aload_n e8131 ?_
        refine r_callV 89 rfl [.ref 176] [] (Nat.le_of_ble_eq_true rfl) rfl (T_X5_comparisonHere_176 _ hI8288) ?_
        rintro _ _ ⟨g8293, rfl, hI8294, hF8295, v8296, rfl, hr8297⟩
        refine At.sti ?_
        have hF8298 := Fr.tr hF8292 hF8295 rfl rfl
        refine At.enter rfl ?_
        refine r_istore_n _ rfl ?_
        refine r_iload_n (w_e1 _ _ _) ?_
        refine r_iconst (-1) rfl ?_
        refine r_ics 95 rfl (fun c8299 => ?_) (fun c8299 => ?_)
        · have c8299_ : v8296.toInt ≠ (-1) := en_i_ne_t c8299
          refine At.enter rfl ?_
          refine r_aload_n (w_p1 (by decide) (Or.inr rfl) e8131) ?_
          refine r_callV 104 rfl [.ref 176] [] (Nat.le_of_ble_eq_true rfl) rfl (T_X5_step_176 _ hI8294) ?_
          rintro _ _ ⟨g8300, rfl, hI8301, hF8302, rfl⟩
          refine At.stn ?_
          have hF8305 := Fr.tr hF8298 hF8302 rfl rfl
          refine At.enter rfl ?_
          refine r_aload_n (w_p1 (by decide) (Or.inr rfl) e8131) ?_
          refine r_iconst 2 rfl ?_
          refine r_iload_n (w_p1 (by decide) (Or.inr rfl) e8132) ?_
          have zv8306 : (2 : Int32).toInt = 2 := rfl
          refine r_callV 110 rfl [.ref 176, .int 2, .int a1] [] (Nat.le_of_ble_eq_true rfl) rfl (IHJ _ (by omega) hI8301 2 (by decide) a1 (by omega) (by omega)) ?_
          rintro _ _ ⟨g8307, rfl, hI8308, hF8309, rfl⟩
          refine At.stn ?_
          have hF8312 := Fr.tr hF8305 hF8309 rfl rfl
          refine At.enter rfl ?_
          refine r_aload_n (w_p1 (by decide) (Or.inr rfl) e8131) ?_
          refine q_getR (Sh.ref hI8308.1 kx_176 rfl) ?_
          refine r_iload_n (w_e1 _ _ _) ?_
          refine r_iconst 0 rfl ?_
          refine r_callV 119 rfl [.ref 177, .int v8296, .int 0] [] (Nat.le_of_ble_eq_true rfl) rfl (T_X4_add_177 _ hI8308 v8296 0) ?_
          rintro _ _ ⟨g8313, rfl, hI8314, hF8315, v8316, rfl, hr8317⟩
          refine At.sti ?_
          have hF8318 := Fr.tr hF8312 hF8315 rfl rfl
          refine At.enter rfl ?_
          refine r_pop rfl ?_
          refine Ar.fall 120 rfl ?_
          refine At.enter rfl ?_
          refine r_iload_n (w_p1 (by decide) (Or.inr rfl) e8133) ?_
          refine r_ifs 124 rfl (fun c8319 => ?_) (fun c8319 => ?_)
          · have c8319_ : x8123.toInt = 0 := en_k_eq_t c8319
            refine At.enter rfl ?_
            refine r_vret ?_
            exact ⟨_, rfl, hI8314, hF8318, rfl⟩
          · have c8319_ : x8123.toInt ≠ 0 := en_k_eq_f c8319
            refine At.enter rfl ?_
            refine r_aload_n (w_p1 (by decide) (Or.inr rfl) e8131) ?_
            refine q_getR (Sh.ref hI8314.1 kx_176 rfl) ?_
            refine r_bipush 9 rfl ?_
            refine r_iconst 0 rfl ?_
            refine r_callV 134 rfl [.ref 177, .int 9, .int 0] [] (Nat.le_of_ble_eq_true rfl) rfl (T_X4_add_177 _ hI8314 9 0) ?_
            rintro _ _ ⟨g8320, rfl, hI8321, hF8322, v8323, rfl, hr8324⟩
            refine At.sti ?_
            have hF8325 := Fr.tr hF8318 hF8322 rfl rfl
            refine At.enter rfl ?_
            refine r_pop rfl ?_
            refine Ar.fall 135 rfl ?_
            refine At.enter rfl ?_
            refine r_vret ?_
            exact ⟨_, rfl, hI8321, hF8325, rfl⟩
        · have c8299_ : v8296.toInt = (-1) := en_i_ne_f c8299
          refine At.enter rfl ?_
          refine r_aload_n (w_p1 (by decide) (Or.inr rfl) e8131) ?_
          refine q_inlV 99 rfl [.ref 176] [] (Nat.le_of_ble_eq_true rfl) rfl ?_
          refine Ev.mk rfl rfl ⟨Nat.le_of_ble_eq_true rfl, Or.inr (q_rc hI8294.1 kx_176 rfl)⟩ ?_
          show At _ none _ _ (0, [(0, .ref 176)], [], (_, _)) _
          refine At.enter rfl ?_
          refine r_aload_n rfl ?_
          obtain ⟨v8326, hv8326⟩ : ∃ v, gI g8287 176 2 = v := ⟨_, rfl⟩
          refine q_getI (Sh.int hI8294.1 kx_176 rfl) v8326 ((hF8295.1 176 2 (by decide)).trans hv8326) ?_
          refine r_iconst (-1) rfl ?_
          refine r_ics 8 rfl (fun c8327 => ?_) (fun c8327 => ?_)
          · have c8327_ : v8326.toInt ≠ (-1) := en_i_ne_t c8327
            refine At.enter rfl ?_
            refine q_vret ?_
            refine At.enter rfl ?_
            refine r_vret ?_
            exact ⟨_, rfl, hI8294, hF8298, rfl⟩
          · have c8327_ : v8326.toInt = (-1) := en_i_ne_f c8327
            refine At.enter rfl ?_
            refine r_aload_n rfl ?_
            refine r_aload_n rfl ?_
            obtain ⟨v8328, hv8328⟩ : ∃ v, gI g8287 176 4 = v := ⟨_, rfl⟩
            have rv8328 := RgF.at hI8288.2.1 (p := 176) (b := 4) rfl
            rw [hv8328] at rv8328
            dsimp only at rv8328
            refine q_getI (Sh.int hI8294.1 kx_176 rfl) v8328 ((hF8295.1 176 4 (by decide)).trans hv8328) ?_
            refine q_putI (Sh.int hI8294.1 kx_176 rfl) rfl ?_
            have hI8329 := HI.wI0 hI8294 kx_176 rfl (p := 176) (b := 2) (v := v8328) rfl
            have hF8330 := Fr.wI (p := 176) (b := 2) (v := v8328) hF8298 rfl
            refine Ar.fall 16 rfl ?_
            refine At.enter rfl ?_
            refine q_vret ?_
            refine At.enter rfl ?_
            refine r_vret ?_
            exact ⟨_, rfl, hI8329, hF8330, rfl⟩
      · have c8285_ : v8282.toInt ≠ 0 := en_k_eq_f c8285
        refine At.enter rfl ?_
        refine r_aload_n e8131 ?_
        refine r_iload_n e8132 ?_
        refine q_inlV 54 rfl [.ref 176, .int a1] [] (Nat.le_of_ble_eq_true rfl) rfl ?_
        refine Ev.mk rfl rfl ⟨Nat.le_of_ble_eq_true rfl, Or.inr (q_rc hI8280.1 kx_176 rfl)⟩ ?_
        show At _ none _ _ (0, [(0, .ref 176), (1, .int a1)], [], (_, _)) _
        refine At.enter rfl ?_
        refine r_iload_n rfl ?_
        refine r_bipush 8 rfl ?_
        refine r_ics 6 rfl (fun c8331 => ?_) (fun c8331 => ?_)
        · have c8331_ : a1.toInt < 8 := en_i_lt_t c8331
          refine At.enter rfl ?_
          refine r_aload_n rfl ?_
          refine r_callV 17 rfl [.ref 176] [] (Nat.le_of_ble_eq_true rfl) rfl (T_X5_step_176 _ hI8280) ?_
          rintro _ _ ⟨g8332, rfl, hI8333, hF8334, rfl⟩
          refine At.stn ?_
          have hF8337 := Fr.tr hF8284 hF8334 rfl rfl
          refine At.enter rfl ?_
          refine q_vret ?_
          refine At.enter rfl ?_
          refine r_aload_n e8131 ?_
          obtain ⟨v8338, hv8338⟩ : ∃ v, gI g8125 176 2 = v := ⟨_, rfl⟩
          refine q_getI (Sh.int hI8333.1 kx_176 rfl) v8338 (((hF8334.1 176 2 (by decide)).trans ((hF8281.1 176 2 (by decide)).trans (hF8274.1 176 2 (by decide)))).trans hv8338) ?_
          refine r_iconst (-1) rfl ?_
          refine r_ics 62 rfl (fun c8339 => ?_) (fun c8339 => ?_)
          · have c8339_ : v8338.toInt ≠ (-1) := en_i_ne_t c8339
            refine At.enter rfl ?_
            refine r_iload_n e8133 ?_
            refine r_ifs 124 rfl (fun c8340 => ?_) (fun c8340 => ?_)
            · have c8340_ : x8123.toInt = 0 := en_k_eq_t c8340
              refine At.enter rfl ?_
              refine r_vret ?_
              exact ⟨_, rfl, hI8333, hF8337, rfl⟩
            · have c8340_ : x8123.toInt ≠ 0 := en_k_eq_f c8340
              refine At.enter rfl ?_
              refine r_aload_n e8131 ?_
              refine q_getR (Sh.ref hI8333.1 kx_176 rfl) ?_
              refine r_bipush 9 rfl ?_
              refine r_iconst 0 rfl ?_
              refine r_callV 134 rfl [.ref 177, .int 9, .int 0] [] (Nat.le_of_ble_eq_true rfl) rfl (T_X4_add_177 _ hI8333 9 0) ?_
              rintro _ _ ⟨g8341, rfl, hI8342, hF8343, v8344, rfl, hr8345⟩
              refine At.sti ?_
              have hF8346 := Fr.tr hF8337 hF8343 rfl rfl
              refine At.enter rfl ?_
              refine r_pop rfl ?_
              refine Ar.fall 135 rfl ?_
              refine At.enter rfl ?_
              refine r_vret ?_
              exact ⟨_, rfl, hI8342, hF8346, rfl⟩
          · have c8339_ : v8338.toInt = (-1) := en_i_ne_f c8339
            refine At.enter rfl ?_
            refine r_aload_n e8131 ?_
            refine r_iconst 0 rfl ?_
            refine r_iload_n e8132 ?_
            refine r_iconst 1 rfl ?_
            refine q_iadd (a1.toInt + 1) rfl (by omega) (fun v8347 hv8347 => ?_)
            have zv8348 : (0 : Int32).toInt = 0 := rfl
            refine r_callV 70 rfl [.ref 176, .int 0, .int v8347] [] (Nat.le_of_ble_eq_true rfl) rfl (IHJ _ (by omega) hI8333 0 (by decide) v8347 (by omega) (by omega)) ?_
            rintro _ _ ⟨g8349, rfl, hI8350, hF8351, rfl⟩
            refine At.stn ?_
            have hF8354 := Fr.tr hF8337 hF8351 rfl rfl
            refine At.enter rfl ?_
            refine r_aload_n e8131 ?_
            refine r_bipush 41 rfl ?_
            refine r_callV 76 rfl [.ref 176, .int 41] [] (Nat.le_of_ble_eq_true rfl) rfl (T_X5_expect_176 _ hI8350 41) ?_
            rintro _ _ ⟨g8355, rfl, hI8356, hF8357, rfl⟩
            refine At.stn ?_
            have hF8360 := Fr.tr hF8354 hF8357 rfl rfl
            refine At.enter rfl ?_
            refine r_goto ?_
            refine At.enter rfl ?_
            refine r_iload_n e8133 ?_
            refine r_ifs 124 rfl (fun c8361 => ?_) (fun c8361 => ?_)
            · have c8361_ : x8123.toInt = 0 := en_k_eq_t c8361
              refine At.enter rfl ?_
              refine r_vret ?_
              exact ⟨_, rfl, hI8356, hF8360, rfl⟩
            · have c8361_ : x8123.toInt ≠ 0 := en_k_eq_f c8361
              refine At.enter rfl ?_
              refine r_aload_n e8131 ?_
              refine q_getR (Sh.ref hI8356.1 kx_176 rfl) ?_
              refine r_bipush 9 rfl ?_
              refine r_iconst 0 rfl ?_
              refine r_callV 134 rfl [.ref 177, .int 9, .int 0] [] (Nat.le_of_ble_eq_true rfl) rfl (T_X4_add_177 _ hI8356 9 0) ?_
              rintro _ _ ⟨g8362, rfl, hI8363, hF8364, v8365, rfl, hr8366⟩
              refine At.sti ?_
              have hF8367 := Fr.tr hF8360 hF8364 rfl rfl
              refine At.enter rfl ?_
              refine r_pop rfl ?_
              refine Ar.fall 135 rfl ?_
              refine At.enter rfl ?_
              refine r_vret ?_
              exact ⟨_, rfl, hI8363, hF8367, rfl⟩
        · have c8331_ : a1.toInt ≥ 8 := en_i_lt_f c8331
          refine At.enter rfl ?_
          refine r_aload_n rfl ?_
          refine q_inlV 10 rfl [.ref 176] [] (Nat.le_of_ble_eq_true rfl) rfl ?_
          refine Ev.mk rfl rfl ⟨Nat.le_of_ble_eq_true rfl, Or.inr (q_rc hI8280.1 kx_176 rfl)⟩ ?_
          show At _ none _ _ (0, [(0, .ref 176)], [], (_, _)) _
          refine At.enter rfl ?_
          refine r_aload_n rfl ?_
          obtain ⟨v8368, hv8368⟩ : ∃ v, gI g8125 176 2 = v := ⟨_, rfl⟩
          refine q_getI (Sh.int hI8280.1 kx_176 rfl) v8368 (((hF8281.1 176 2 (by decide)).trans (hF8274.1 176 2 (by decide))).trans hv8368) ?_
          refine r_iconst (-1) rfl ?_
          refine r_ics 8 rfl (fun c8369 => ?_) (fun c8369 => ?_)
          · have c8369_ : v8368.toInt ≠ (-1) := en_i_ne_t c8369
            refine At.enter rfl ?_
            refine q_vret ?_
            refine At.enter rfl ?_
            refine r_goto ?_
            refine At.enter rfl ?_
            refine q_vret ?_
            refine At.enter rfl ?_
            refine r_aload_n e8131 ?_
            refine q_getI (Sh.int hI8280.1 kx_176 rfl) v8368 (((hF8281.1 176 2 (by decide)).trans (hF8274.1 176 2 (by decide))).trans hv8368) ?_
            refine r_iconst (-1) rfl ?_
            refine r_ics 62 rfl (fun c8370 => ?_) (fun c8370 => ?_)
            · have c8370_ : v8368.toInt ≠ (-1) := en_i_ne_t c8370
              refine At.enter rfl ?_
              refine r_iload_n e8133 ?_
              refine r_ifs 124 rfl (fun c8371 => ?_) (fun c8371 => ?_)
              · have c8371_ : x8123.toInt = 0 := en_k_eq_t c8371
                refine At.enter rfl ?_
                refine r_vret ?_
                exact ⟨_, rfl, hI8280, hF8284, rfl⟩
              · have c8371_ : x8123.toInt ≠ 0 := en_k_eq_f c8371
                refine At.enter rfl ?_
                refine r_aload_n e8131 ?_
                refine q_getR (Sh.ref hI8280.1 kx_176 rfl) ?_
                refine r_bipush 9 rfl ?_
                refine r_iconst 0 rfl ?_
                refine r_callV 134 rfl [.ref 177, .int 9, .int 0] [] (Nat.le_of_ble_eq_true rfl) rfl (T_X4_add_177 _ hI8280 9 0) ?_
                rintro _ _ ⟨g8372, rfl, hI8373, hF8374, v8375, rfl, hr8376⟩
                refine At.sti ?_
                have hF8377 := Fr.tr hF8284 hF8374 rfl rfl
                refine At.enter rfl ?_
                refine r_pop rfl ?_
                refine Ar.fall 135 rfl ?_
                refine At.enter rfl ?_
                refine r_vret ?_
                exact ⟨_, rfl, hI8373, hF8377, rfl⟩
            · have c8370_ : v8368.toInt = (-1) := en_i_ne_f c8370
              refine At.enter rfl ?_
              refine r_aload_n e8131 ?_
              refine r_iconst 0 rfl ?_
              refine r_iload_n e8132 ?_
              refine r_iconst 1 rfl ?_
              refine q_iadd (a1.toInt + 1) rfl (by omega) (fun v8378 hv8378 => ?_)
              have zv8379 : (0 : Int32).toInt = 0 := rfl
              refine r_callV 70 rfl [.ref 176, .int 0, .int v8378] [] (Nat.le_of_ble_eq_true rfl) rfl (IHJ _ (by omega) hI8280 0 (by decide) v8378 (by omega) (by omega)) ?_
              rintro _ _ ⟨g8380, rfl, hI8381, hF8382, rfl⟩
              refine At.stn ?_
              have hF8385 := Fr.tr hF8284 hF8382 rfl rfl
              refine At.enter rfl ?_
              refine r_aload_n e8131 ?_
              refine r_bipush 41 rfl ?_
              refine r_callV 76 rfl [.ref 176, .int 41] [] (Nat.le_of_ble_eq_true rfl) rfl (T_X5_expect_176 _ hI8381 41) ?_
              rintro _ _ ⟨g8386, rfl, hI8387, hF8388, rfl⟩
              refine At.stn ?_
              have hF8391 := Fr.tr hF8385 hF8388 rfl rfl
              refine At.enter rfl ?_
              refine r_goto ?_
              refine At.enter rfl ?_
              refine r_iload_n e8133 ?_
              refine r_ifs 124 rfl (fun c8392 => ?_) (fun c8392 => ?_)
              · have c8392_ : x8123.toInt = 0 := en_k_eq_t c8392
                refine At.enter rfl ?_
                refine r_vret ?_
                exact ⟨_, rfl, hI8387, hF8391, rfl⟩
              · have c8392_ : x8123.toInt ≠ 0 := en_k_eq_f c8392
                refine At.enter rfl ?_
                refine r_aload_n e8131 ?_
                refine q_getR (Sh.ref hI8387.1 kx_176 rfl) ?_
                refine r_bipush 9 rfl ?_
                refine r_iconst 0 rfl ?_
                refine r_callV 134 rfl [.ref 177, .int 9, .int 0] [] (Nat.le_of_ble_eq_true rfl) rfl (T_X4_add_177 _ hI8387 9 0) ?_
                rintro _ _ ⟨g8393, rfl, hI8394, hF8395, v8396, rfl, hr8397⟩
                refine At.sti ?_
                have hF8398 := Fr.tr hF8391 hF8395 rfl rfl
                refine At.enter rfl ?_
                refine r_pop rfl ?_
                refine Ar.fall 135 rfl ?_
                refine At.enter rfl ?_
                refine r_vret ?_
                exact ⟨_, rfl, hI8394, hF8398, rfl⟩
          · have c8369_ : v8368.toInt = (-1) := en_i_ne_f c8369
            refine At.enter rfl ?_
            refine r_aload_n rfl ?_
            refine r_aload_n rfl ?_
            obtain ⟨v8399, hv8399⟩ : ∃ v, gI g8125 176 4 = v := ⟨_, rfl⟩
            have rv8399 := RgF.at hI8126.2.1 (p := 176) (b := 4) rfl
            rw [hv8399] at rv8399
            dsimp only at rv8399
            refine q_getI (Sh.int hI8280.1 kx_176 rfl) v8399 (((hF8281.1 176 4 (by decide)).trans (hF8274.1 176 4 (by decide))).trans hv8399) ?_
            refine q_putI (Sh.int hI8280.1 kx_176 rfl) rfl ?_
            have hI8400 := HI.wI0 hI8280 kx_176 rfl (p := 176) (b := 2) (v := v8399) rfl
            have hF8401 := Fr.wI (p := 176) (b := 2) (v := v8399) hF8284 rfl
            refine Ar.fall 16 rfl ?_
            refine At.enter rfl ?_
            refine q_vret ?_
            refine At.enter rfl ?_
            refine r_goto ?_
            refine At.enter rfl ?_
            refine q_vret ?_
            refine At.enter rfl ?_
            refine r_aload_n e8131 ?_
            refine q_getI (Sh.int hI8400.1 kx_176 rfl) v8399 (gI_sI_eq hI8280.1 kx_176 rfl _) ?_
            refine r_iconst (-1) rfl ?_
            refine r_ics 62 rfl (fun c8402 => ?_) (fun c8402 => ?_)
            · have c8402_ : v8399.toInt ≠ (-1) := en_i_ne_t c8402
              refine At.enter rfl ?_
              refine r_iload_n e8133 ?_
              refine r_ifs 124 rfl (fun c8403 => ?_) (fun c8403 => ?_)
              · have c8403_ : x8123.toInt = 0 := en_k_eq_t c8403
                refine At.enter rfl ?_
                refine r_vret ?_
                exact ⟨_, rfl, hI8400, hF8401, rfl⟩
              · have c8403_ : x8123.toInt ≠ 0 := en_k_eq_f c8403
                refine At.enter rfl ?_
                refine r_aload_n e8131 ?_
                refine q_getR (Sh.ref hI8400.1 kx_176 rfl) ?_
                refine r_bipush 9 rfl ?_
                refine r_iconst 0 rfl ?_
                refine r_callV 134 rfl [.ref 177, .int 9, .int 0] [] (Nat.le_of_ble_eq_true rfl) rfl (T_X4_add_177 _ hI8400 9 0) ?_
                rintro _ _ ⟨g8404, rfl, hI8405, hF8406, v8407, rfl, hr8408⟩
                refine At.sti ?_
                have hF8409 := Fr.tr hF8401 hF8406 rfl rfl
                refine At.enter rfl ?_
                refine r_pop rfl ?_
                refine Ar.fall 135 rfl ?_
                refine At.enter rfl ?_
                refine r_vret ?_
                exact ⟨_, rfl, hI8405, hF8409, rfl⟩
            · have c8402_ : v8399.toInt = (-1) := en_i_ne_f c8402
              exfalso; omega
    · have c8278_ : v8275.toInt ≠ 0 := en_k_eq_f c8278
      refine At.enter rfl ?_
      refine r_aload_n e8131 ?_
      refine r_callV 24 rfl [.ref 176] [] (Nat.le_of_ble_eq_true rfl) rfl (T_X5_step_176 _ hI8273) ?_
      rintro _ _ ⟨g8410, rfl, hI8411, hF8412, rfl⟩
      refine At.stn ?_
      have hF8415 := Fr.tr hF8277 hF8412 rfl rfl
      refine At.enter rfl ?_
      refine r_iload_n e8133 ?_
      refine r_ifs 28 rfl (fun c8416 => ?_) (fun c8416 => ?_)
      · have c8416_ : x8123.toInt ≠ 0 := en_k_ne_t c8416
        refine At.enter rfl ?_
        refine r_iconst 0 rfl ?_
        refine Ar.fall 33 rfl ?_
        refine At.enter rfl ?_
        refine r_istore_n _ rfl ?_
        refine q_iinc (w_p1 (by decide) (Or.inr rfl) e8134) (x8124.toInt + 1) rfl (by omega) (fun v8417 hv8417 => ?_)
        refine r_goto ?_
        exact ih8130 (400 - v8417.toInt) _ _ ⟨0, v8417, by first | rfl | omega, hI8411, hF8415, (w_p1 (by decide) (Or.inr rfl) (w_p1 (by decide) (Or.inr rfl) e8131)), (w_p1 (by decide) (Or.inr rfl) (w_p1 (by decide) (Or.inr rfl) e8132)), (w_p1 (by decide) (Or.inr rfl) (w_e1 _ _ _)), (w_e1 _ _ _), by decide, by omega⟩ ⟨by omega, by omega⟩
      · have c8416_ : x8123.toInt = 0 := en_k_ne_f c8416
        refine At.enter rfl ?_
        refine r_iconst 1 rfl ?_
        refine r_goto ?_
        refine At.enter rfl ?_
        refine r_istore_n _ rfl ?_
        refine q_iinc (w_p1 (by decide) (Or.inr rfl) e8134) (x8124.toInt + 1) rfl (by omega) (fun v8418 hv8418 => ?_)
        refine r_goto ?_
        exact ih8130 (400 - v8418.toInt) _ _ ⟨1, v8418, by first | rfl | omega, hI8411, hF8415, (w_p1 (by decide) (Or.inr rfl) (w_p1 (by decide) (Or.inr rfl) e8131)), (w_p1 (by decide) (Or.inr rfl) (w_p1 (by decide) (Or.inr rfl) e8132)), (w_p1 (by decide) (Or.inr rfl) (w_e1 _ _ _)), (w_e1 _ _ _), by decide, by omega⟩ ⟨by omega, by omega⟩
