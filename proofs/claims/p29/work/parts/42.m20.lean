def F_X11_thieves_231 : List (Nat × Nat) := [(231, 0)]
def A_X11_thieves_231 : List Nat := []
theorem ma_X11_after_231_233 : memA A_X11_after_231 233 = false := by decide
set_option maxRecDepth 100000 in
set_option maxHeartbeats 4000000 in
theorem T_X11_thieves_231 (d : Nat) {N : Nat} {g0 : List en_E} (hI0 : HI g0) : Ev (d + 5) 257 [.ref 231] (g0, N) (fun w h' => ∃ g', h' = (g', N) ∧ HI g' ∧ Fr F_X11_thieves_231 A_X11_thieves_231 g0 g' ∧ ∃ r : Int32, w = some (.int r) ∧ True ∧ (r.toInt = (ACI (FITM g0 (eA g0 233 4).toInt) (eA g0 233 0).toInt).toInt)) := by
  have hF0 : Fr F_X11_thieves_231 A_X11_thieves_231 g0 g0 := Fr.rf
  refine Ev.mk rfl rfl ⟨Nat.le_of_ble_eq_true rfl, Or.inr (q_rc hI0.1 kx_231 rfl)⟩ ?_
  show At _ none _ _ (0, [(0, .ref 231)], [], (_, _)) _
  refine At.enter rfl ?_
  refine r_aload_n rfl ?_
  refine r_iconst 0 rfl ?_
  refine q_putI (Sh.int hI0.1 kx_231 rfl) rfl ?_
  have hI5484 := HI.wI0 hI0 kx_231 rfl (p := 231) (b := 0) (v := 0) rfl
  have hF5485 := Fr.wI (p := 231) (b := 0) (v := 0) hF0 rfl
  refine r_iconst 0 rfl ?_
  refine r_istore_n ([(1, .int 0), (0, .ref 231)]) rfl ?_
  refine r_iconst 0 rfl ?_
  refine r_istore_n ([(2, .int 0), (1, .int 0), (0, .ref 231)]) rfl ?_
  refine Ar.fall 9 rfl ?_
  have z_7949 : (0 : Int32).toInt = 0 := rfl
  have z_7950 : (0 : Int32).toInt = 0 := rfl
  obtain ⟨v7951, hv7951⟩ : ∃ v, eA g0 233 0 = v := ⟨_, rfl⟩
  have tv7951 := congrArg Int32.toInt hv7951
  have wv7951 := HI.t0 hI0
  rw [hv7951] at wv7951
  have tv7951 := congrArg Int32.toInt hv7951
  have x7952 := HI.eqA hI5484 (p := 233) (j := 0) (((eA_c gA_sI).trans hv7951))
  obtain ⟨v7953, hv7953⟩ : ∃ v, eA g0 233 4 = v := ⟨_, rfl⟩
  have wv7953 := HI.t4 hI0
  rw [hv7953] at wv7953
  have tv7953 := congrArg Int32.toInt hv7953
  have x7954 := HI.eqA hI5484 (p := 233) (j := 4) (((eA_c gA_sI).trans hv7953))
  refine w_loopI (fun n_ l_ g_ => ∃ x7934 : Int32, ∃ x7935 : Int32, n_ = 12 - x7935.toInt ∧ HI g_ ∧ Fr F_X11_thieves_231 A_X11_thieves_231 g0 g_ ∧ en_get 0 l_ = some (.ref 231) ∧ en_get 1 l_ = some (.int x7934) ∧ en_get 2 l_ = some (.int x7935) ∧ (0 ≤ x7935.toInt ∧ x7935.toInt ≤ 12) ∧ (x7934.toInt = (ACI (FITM g0 (eA g0 233 4).toInt) x7935.toInt).toInt) ∧ (0 ≤ x7935.toInt) ∧ (x7935.toInt ≤ (eA g0 233 0).toInt)) ?_ (12 - 0) ⟨0, 0, by first | rfl | omega, hI5484, hF5485, rfl, rfl, rfl, by decide, ((by first | rfl | omega : _ = (0 : Int)).trans (ACI.z _ (by first | decide | omega))), by omega, by omega⟩
  rintro n7940 l7939 g7936 ⟨x7934, x7935, hm7955, hI7937, hF7938, e7942, e7943, e7944, r7945, q7946, q7947, q7948⟩ ih7941
  refine At.enter rfl ?_
  refine r_iload_n e7944 ?_
  refine r_aload_n e7942 ?_
  refine q_getR (Sh.ref hI7937.1 kx_231 rfl) ?_
  refine r_iconst 0 rfl ?_
  refine q_iald (Sh.arr hI7937.1 ka_233) 0 rfl (by decide) v7951 ((eA_c (hF7938.2.1 233 (by decide))).trans hv7951) ?_
  have bv7957 := q_bnd x7935
  have bv7958 := q_bnd v7951
  refine r_ics 19 rfl (fun c7956 => ?_) (fun c7956 => ?_)
  · have c7956_ : x7935.toInt ≥ v7951.toInt := en_i_ge_t c7956
    refine At.enter rfl ?_
    refine r_iload_n e7943 ?_
    refine r_ireti ?_
    have x7959 := HI.eqA hI0 (p := 233) (j := 0) (hv7951)
    exact ⟨_, rfl, hI7937, hF7938, _, rfl, trivial, (by rw [show (eA g0 233 0).toInt = x7935.toInt from by omega]; exact q7946)⟩
  · have c7956_ : x7935.toInt < v7951.toInt := en_i_ge_f c7956
    refine At.enter rfl ?_
    refine r_iconst 1 rfl ?_
    refine r_istore_n _ rfl ?_
    refine r_iconst 0 rfl ?_
    refine r_istore _ rfl ?_
    refine Ar.fall 24 rfl ?_
    have z_8185 : (1 : Int32).toInt = 1 := rfl
    have z_8186 : (0 : Int32).toInt = 0 := rfl
    have x8187 := HI.eqA hI7937 (p := 233) (j := 0) (((eA_c (hF7938.2.1 233 (by decide))).trans hv7951))
    have x8188 := HI.eqA hI7937 (p := 233) (j := 4) (((eA_c (hF7938.2.1 233 (by decide))).trans hv7953))
    refine w_loopI (fun n_ l_ g_ => ∃ x8167 : Int32, ∃ x8168 : Int32, n_ = 8 - x8168.toInt ∧ HI g_ ∧ Fr F_X11_thieves_231 A_X11_thieves_231 g0 g_ ∧ en_get 0 l_ = some (.ref 231) ∧ en_get 1 l_ = some (.int x7934) ∧ en_get 2 l_ = some (.int x7935) ∧ en_get 3 l_ = some (.int x8167) ∧ en_get 4 l_ = some (.int x8168) ∧ (0 ≤ x8167.toInt ∧ x8167.toInt ≤ 1) ∧ (0 ≤ x8168.toInt ∧ x8168.toInt ≤ 8) ∧ (BL (FITM g0 x8168.toInt x7935.toInt) x8167.toInt) ∧ (0 ≤ x8168.toInt) ∧ (x8168.toInt ≤ (eA g0 233 4).toInt)) ?_ (8 - 0) ⟨1, 0, by first | rfl | omega, hI7937, hF7938, (w_p1 (by decide) (Or.inr rfl) (w_p1 (by decide) (Or.inr rfl) e7942)), (w_p1 (by decide) (Or.inr rfl) (w_p1 (by decide) (Or.inr rfl) e7943)), (w_p1 (by decide) (Or.inr rfl) (w_p1 (by decide) (Or.inr rfl) e7944)), (w_p1 (by decide) (Or.inr rfl) (w_e1 _ _ _)), (w_e1 _ _ _), by decide, by decide, (FITM.z _ _ (by first | decide | omega) (by first | rfl | decide | omega)), by omega, by omega⟩
    rintro n8173 l8172 g8169 ⟨x8167, x8168, hm8189, hI8170, hF8171, e8175, e8176, e8177, e8178, e8179, r8180, r8181, q8182, q8183, q8184⟩ ih8174
    refine At.enter rfl ?_
    refine r_iload e8179 ?_
    refine r_aload_n e8175 ?_
    refine q_getR (Sh.ref hI8170.1 kx_231 rfl) ?_
    refine r_iconst 4 rfl ?_
    refine q_iald (Sh.arr hI8170.1 ka_233) 4 rfl (by decide) v7953 ((eA_c (hF8171.2.1 233 (by decide))).trans hv7953) ?_
    have bv8191 := q_bnd x8168
    have bv8192 := q_bnd v7953
    refine r_ics 35 rfl (fun c8190 => ?_) (fun c8190 => ?_)
    · have c8190_ : x8168.toInt ≥ v7953.toInt := en_i_ge_t c8190
      refine At.enter rfl ?_
      refine r_iload_n e8176 ?_
      refine r_iload_n e8178 ?_
      refine r_ifs 90 rfl (fun c8193 => ?_) (fun c8193 => ?_)
      · have c8193_ : x8167.toInt = 0 := en_k_eq_t c8193
        refine At.enter rfl ?_
        refine r_iconst 0 rfl ?_
        refine Ar.fall 97 rfl ?_
        refine At.enter rfl ?_
        refine q_iorO (fun v8194 hv8194 => ?_)
        refine r_istore_n _ rfl ?_
        refine q_iinc (w_p1 (by decide) (Or.inr rfl) e8177) (x7935.toInt + 1) rfl (by omega) (fun v8195 hv8195 => ?_)
        refine r_goto ?_
        have bv8196 := q_bnd v8194
        exact ih7941 (12 - v8195.toInt) _ _ ⟨v8194, v8195, by first | rfl | omega, hI8170, hF8171, (w_p1 (by decide) (Or.inr rfl) (w_p1 (by decide) (Or.inr rfl) e8175)), (w_p1 (by decide) (Or.inr rfl) (w_e1 _ _ _)), (w_e1 _ _ _), by omega, (by have fz : BL (FITM g0 (eA g0 233 4).toInt x7935.toInt) x8167.toInt := (show x8168.toInt = (eA g0 233 4).toInt from by omega) ▸ q8182; first | exact ACI.yes (i := x7935) (by omega) (show v8195.toInt = x7935.toInt + 1 from by omega) (BL.yes fz (by omega)) rfl hv8194 (by assumption) q7946 | exact (q_or0 hv8194 (by first | rfl | omega)).trans (ACI.no (by omega) (show v8195.toInt = x7935.toInt + 1 from by omega) (BL.no fz (by omega)) q7946)), by omega, by omega⟩ ⟨by omega, by omega⟩
      · have c8193_ : x8167.toInt ≠ 0 := en_k_eq_f c8193
        refine At.enter rfl ?_
        refine r_iconst 1 rfl ?_
        refine r_iload_n e8177 ?_
        refine q_ishlO (fun v8197 hv8197 => ?_)
        refine r_goto ?_
        refine At.enter rfl ?_
        refine q_iorO (fun v8198 hv8198 => ?_)
        refine r_istore_n _ rfl ?_
        refine q_iinc (w_p1 (by decide) (Or.inr rfl) e8177) (x7935.toInt + 1) rfl (by omega) (fun v8199 hv8199 => ?_)
        refine r_goto ?_
        have bv8200 := q_bnd v8198
        exact ih7941 (12 - v8199.toInt) _ _ ⟨v8198, v8199, by first | rfl | omega, hI8170, hF8171, (w_p1 (by decide) (Or.inr rfl) (w_p1 (by decide) (Or.inr rfl) e8175)), (w_p1 (by decide) (Or.inr rfl) (w_e1 _ _ _)), (w_e1 _ _ _), by omega, (by have fz : BL (FITM g0 (eA g0 233 4).toInt x7935.toInt) x8167.toInt := (show x8168.toInt = (eA g0 233 4).toInt from by omega) ▸ q8182; first | exact ACI.yes (i := x7935) (by omega) (show v8199.toInt = x7935.toInt + 1 from by omega) (BL.yes fz (by omega)) rfl hv8198 (by assumption) q7946 | exact (q_or0 hv8198 (by first | rfl | omega)).trans (ACI.no (by omega) (show v8199.toInt = x7935.toInt + 1 from by omega) (BL.no fz (by omega)) q7946)), by omega, by omega⟩ ⟨by omega, by omega⟩
    · have c8190_ : x8168.toInt < v7953.toInt := en_i_ge_f c8190
      refine At.enter rfl ?_
      refine r_iload_n e8178 ?_
      refine r_ifs 39 rfl (fun c8201 => ?_) (fun c8201 => ?_)
      · have c8201_ : x8167.toInt = 0 := en_k_eq_t c8201
        refine At.enter rfl ?_
        refine r_iconst 0 rfl ?_
        refine Ar.fall 78 rfl ?_
        refine At.enter rfl ?_
        refine r_istore_n _ rfl ?_
        refine q_iinc (w_p1 (by decide) (Or.inr rfl) e8179) (x8168.toInt + 1) rfl (by omega) (fun v8202 hv8202 => ?_)
        refine r_goto ?_
        have zv8203 : (0 : Int32).toInt = 0 := rfl
        exact ih8174 (8 - v8202.toInt) _ _ ⟨0, v8202, by first | rfl | omega, hI8170, hF8171, (w_p1 (by decide) (Or.inr rfl) (w_p1 (by decide) (Or.inr rfl) e8175)), (w_p1 (by decide) (Or.inr rfl) (w_p1 (by decide) (Or.inr rfl) e8176)), (w_p1 (by decide) (Or.inr rfl) (w_p1 (by decide) (Or.inr rfl) e8177)), (w_p1 (by decide) (Or.inr rfl) (w_e1 _ _ _)), (w_e1 _ _ _), by decide, by omega, (FITM.no2 q8182 (by omega) (show v8202.toInt = x8168.toInt + 1 from by omega) (by omega)), by omega, by omega⟩ ⟨by omega, by omega⟩
      · have c8201_ : x8167.toInt ≠ 0 := en_k_eq_f c8201
        refine At.enter rfl ?_
        refine r_aload_n e8175 ?_
        refine r_iload_n e8177 ?_
        refine r_aload_n e8175 ?_
        refine q_getR (Sh.ref hI8170.1 kx_231 rfl) ?_
        refine r_bipush 94 rfl ?_
        refine r_iconst 2 rfl ?_
        refine r_iload e8179 ?_
        refine q_imul (2 * x8168.toInt) rfl (by omega) (fun v8204 hv8204 => ?_)
        refine q_iadd (94 + v8204.toInt) rfl (by omega) (fun v8205 hv8205 => ?_)
        refine r_iconst 1 rfl ?_
        refine q_iadd (v8205.toInt + 1) rfl (by omega) (fun v8206 hv8206 => ?_)
        obtain ⟨v8207, hv8207⟩ : ∃ v, eA g0 233 (2 * x8168.toInt + 95) = v := ⟨_, rfl⟩
        have wv8207 := HI.g1 hI0 (j := (2 * x8168.toInt + 95)) (x8168.toInt) (by omega) (by omega)
        rw [hv8207] at wv8207
        refine q_iald (Sh.arr hI8170.1 ka_233) (2 * x8168.toInt + 95) (by omega) (by omega) v8207 ((eA_c (hF8171.2.1 233 (by decide))).trans hv8207) ?_
        refine r_callV 58 rfl [.ref 231, .int x7935, .int v8207] [] (Nat.le_of_ble_eq_true rfl) rfl (T_X11_after_231 _ hI8170 x7935 (by omega) v8207) ?_
        rintro _ _ ⟨g8208, rfl, hI8209, hF8210, v8211, rfl, hr8212⟩
        refine At.sti ?_
        have hF8213 := Fr.tr hF8171 hF8210 rfl rfl
        rw [NMq.cI ((hF8171.2.1 233 (by decide)))] at hr8212
        refine At.enter rfl ?_
        refine r_aload_n e8175 ?_
        refine q_getR (Sh.ref hI8209.1 kx_231 rfl) ?_
        refine r_bipush 94 rfl ?_
        refine r_iconst 2 rfl ?_
        refine r_iload e8179 ?_
        refine q_imul (2 * x8168.toInt) rfl (by omega) (fun v8214 hv8214 => ?_)
        refine q_iadd (94 + v8214.toInt) rfl (by omega) (fun v8215 hv8215 => ?_)
        obtain ⟨v8216, hv8216⟩ : ∃ v, eA g0 233 (2 * x8168.toInt + 94) = v := ⟨_, rfl⟩
        have wv8216 := HI.g0 hI0 (j := (2 * x8168.toInt + 94)) (x8168.toInt) (by omega) (by omega)
        rw [hv8216] at wv8216
        refine q_iald (Sh.arr hI8209.1 ka_233) (2 * x8168.toInt + 94) (by omega) (by omega) v8216 ((eA_c ((hF8210.2.1 233 ma_X11_after_231_233).trans (hF8171.2.1 233 (by decide)))).trans hv8216) ?_
        refine r_ics 73 rfl (fun c8217 => ?_) (fun c8217 => ?_)
        · have c8217_ : v8211.toInt ≠ v8216.toInt := en_i_ne_t c8217
          refine At.enter rfl ?_
          refine r_iconst 0 rfl ?_
          refine Ar.fall 78 rfl ?_
          refine At.enter rfl ?_
          refine r_istore_n _ rfl ?_
          refine q_iinc (w_p1 (by decide) (Or.inr rfl) e8179) (x8168.toInt + 1) rfl (by omega) (fun v8218 hv8218 => ?_)
          refine r_goto ?_
          have zv8219 : (0 : Int32).toInt = 0 := rfl
          exact ih8174 (8 - v8218.toInt) _ _ ⟨0, v8218, by first | rfl | omega, hI8209, hF8213, (w_p1 (by decide) (Or.inr rfl) (w_p1 (by decide) (Or.inr rfl) e8175)), (w_p1 (by decide) (Or.inr rfl) (w_p1 (by decide) (Or.inr rfl) e8176)), (w_p1 (by decide) (Or.inr rfl) (w_p1 (by decide) (Or.inr rfl) e8177)), (w_p1 (by decide) (Or.inr rfl) (w_e1 _ _ _)), (w_e1 _ _ _), by decide, by omega, (by first | exact FITM.yes q8182 (by omega) (show v8218.toInt = x8168.toInt + 1 from by omega) (by have y1 := (eA_ix (g := g0) (p := 233) (show 94 + 2 * x8168.toInt + 1 = (2 * x8168.toInt + 95) from by omega)).trans (congrArg Int32.toInt hv8207); have y0 := (eA_ix (g := g0) (p := 233) (show 94 + 2 * x8168.toInt = (2 * x8168.toInt + 94) from by omega)).trans (congrArg Int32.toInt hv8216); rw [y1, y0]; omega) (by omega) | exact FITM.no1 (by omega) (show v8218.toInt = x8168.toInt + 1 from by omega) (by have y1 := (eA_ix (g := g0) (p := 233) (show 94 + 2 * x8168.toInt + 1 = (2 * x8168.toInt + 95) from by omega)).trans (congrArg Int32.toInt hv8207); have y0 := (eA_ix (g := g0) (p := 233) (show 94 + 2 * x8168.toInt = (2 * x8168.toInt + 94) from by omega)).trans (congrArg Int32.toInt hv8216); rw [y1, y0]; omega) (by omega)), by omega, by omega⟩ ⟨by omega, by omega⟩
        · have c8217_ : v8211.toInt = v8216.toInt := en_i_ne_f c8217
          refine At.enter rfl ?_
          refine r_iconst 1 rfl ?_
          refine r_goto ?_
          refine At.enter rfl ?_
          refine r_istore_n _ rfl ?_
          refine q_iinc (w_p1 (by decide) (Or.inr rfl) e8179) (x8168.toInt + 1) rfl (by omega) (fun v8220 hv8220 => ?_)
          refine r_goto ?_
          have zv8221 : (1 : Int32).toInt = 1 := rfl
          exact ih8174 (8 - v8220.toInt) _ _ ⟨1, v8220, by first | rfl | omega, hI8209, hF8213, (w_p1 (by decide) (Or.inr rfl) (w_p1 (by decide) (Or.inr rfl) e8175)), (w_p1 (by decide) (Or.inr rfl) (w_p1 (by decide) (Or.inr rfl) e8176)), (w_p1 (by decide) (Or.inr rfl) (w_p1 (by decide) (Or.inr rfl) e8177)), (w_p1 (by decide) (Or.inr rfl) (w_e1 _ _ _)), (w_e1 _ _ _), by decide, by omega, (by first | exact FITM.yes q8182 (by omega) (show v8220.toInt = x8168.toInt + 1 from by omega) (by have y1 := (eA_ix (g := g0) (p := 233) (show 94 + 2 * x8168.toInt + 1 = (2 * x8168.toInt + 95) from by omega)).trans (congrArg Int32.toInt hv8207); have y0 := (eA_ix (g := g0) (p := 233) (show 94 + 2 * x8168.toInt = (2 * x8168.toInt + 94) from by omega)).trans (congrArg Int32.toInt hv8216); rw [y1, y0]; omega) (by omega) | exact FITM.no1 (by omega) (show v8220.toInt = x8168.toInt + 1 from by omega) (by have y1 := (eA_ix (g := g0) (p := 233) (show 94 + 2 * x8168.toInt + 1 = (2 * x8168.toInt + 95) from by omega)).trans (congrArg Int32.toInt hv8207); have y0 := (eA_ix (g := g0) (p := 233) (show 94 + 2 * x8168.toInt = (2 * x8168.toInt + 94) from by omega)).trans (congrArg Int32.toInt hv8216); rw [y1, y0]; omega) (by omega)), by omega, by omega⟩ ⟨by omega, by omega⟩

def F_X11_meet_231 : List (Nat × Nat) := [(231, 0)]
def A_X11_meet_231 : List Nat := []
set_option maxRecDepth 100000 in
set_option maxHeartbeats 4000000 in
theorem T_X11_meet_231 (d : Nat) {N : Nat} {g0 : List en_E} (hI0 : HI g0) (a1 : Int32) (a2 : Int32) (a3 : Int32) : Ev (d + 5) 258 [.ref 231, .int a1, .int a2, .int a3] (g0, N) (fun w h' => ∃ g', h' = (g', N) ∧ HI g' ∧ Fr F_X11_meet_231 A_X11_meet_231 g0 g' ∧ ∃ r : Int32, w = some (.int r) ∧ ((-1) ≤ r.toInt ∧ r.toInt ≤ 99) ∧ (((0 ≤ a1.toInt ∧ a1.toInt < (eA g0 233 0).toInt ∧ 0 ≤ a2.toInt ∧ a2.toInt < (eA g0 233 0).toInt ∧ 0 ≤ a3.toInt ∧ a3.toInt ≤ 1) → MEET (NMq g0) 99 a1.toInt a2.toInt a3.toInt r.toInt) ∧ (¬ (0 ≤ a1.toInt ∧ a1.toInt < (eA g0 233 0).toInt ∧ 0 ≤ a2.toInt ∧ a2.toInt < (eA g0 233 0).toInt ∧ 0 ≤ a3.toInt ∧ a3.toInt ≤ 1) → r.toInt = -1))) := by
  have hF0 : Fr F_X11_meet_231 A_X11_meet_231 g0 g0 := Fr.rf
  refine Ev.mk rfl rfl ⟨Nat.le_of_ble_eq_true rfl, Or.inr (q_rc hI0.1 kx_231 rfl)⟩ ?_
  show At _ none _ _ (0, [(0, .ref 231), (1, .int a1), (2, .int a2), (3, .int a3)], [], (_, _)) _
  refine At.enter rfl ?_
  refine r_aload_n rfl ?_
  refine r_iconst 0 rfl ?_
  refine q_putI (Sh.int hI0.1 kx_231 rfl) rfl ?_
  have hI663 := HI.wI0 hI0 kx_231 rfl (p := 231) (b := 0) (v := 0) rfl
  have hF664 := Fr.wI (p := 231) (b := 0) (v := 0) hF0 rfl
  refine r_aload_n rfl ?_
  refine r_iload_n rfl ?_
  refine q_inlV 10 rfl [.ref 231, .int a1] [] (Nat.le_of_ble_eq_true rfl) rfl ?_
  refine Ev.mk rfl rfl ⟨Nat.le_of_ble_eq_true rfl, Or.inr (q_rc hI663.1 kx_231 rfl)⟩ ?_
  show At _ none _ _ (0, [(0, .ref 231), (1, .int a1)], [], (_, _)) _
  refine At.enter rfl ?_
  refine r_iload_n rfl ?_
  refine q_i2l (fun v665 hv665 => ?_)
  refine r_lconst 0 rfl ?_
  refine r_aload_n rfl ?_
  refine q_getR (Sh.ref hI663.1 kx_231 rfl) ?_
  refine r_iconst 0 rfl ?_
  obtain ⟨v666, hv666⟩ : ∃ v, eA g0 233 0 = v := ⟨_, rfl⟩
  have tv666 := congrArg Int32.toInt hv666
  have wv666 := HI.t0 hI0
  rw [hv666] at wv666
  refine q_iald (Sh.arr hI663.1 ka_233) 0 rfl (by decide) v666 ((eA_c (gA_sI)).trans hv666) ?_
  refine q_i2l (fun v667 hv667 => ?_)
  refine r_lconst 1 rfl ?_
  refine q_lsub (v667.toInt - 1) rfl (by omega) (fun v668 hv668 => ?_)
  refine q_inlS 15 rfl [.long v665, .long 0, .long v668] [] (Nat.le_of_ble_eq_true rfl) rfl ?_
  refine Ev.mk rfl rfl ⟨Nat.le_of_ble_eq_true rfl, Or.inl rfl⟩ ?_
  show At _ none _ _ (0, [(0, .long v665), (2, .long 0), (4, .long v668)], [], (_, _)) _
  refine At.enter rfl ?_
  refine r_lload_n rfl ?_
  refine r_lload_n rfl ?_
  refine r_lcmp _ rfl ?_
  refine r_ifs 6 rfl (fun c669 => ?_) (fun c669 => ?_)
  · have c669_ : v665.toInt < 0 := en_j_lt_t c669
    refine At.enter rfl ?_
    refine r_iconst 0 rfl ?_
    refine Ar.fall 18 rfl ?_
    refine At.enter rfl ?_
    refine q_iretz (by decide) ?_
    refine At.enter rfl ?_
    refine q_iretz (by decide) ?_
    refine At.enter rfl ?_
    refine r_ift (by decide) ?_
    refine At.enter rfl ?_
    refine r_iconst (-1) rfl ?_
    refine r_ireti ?_
    have zv670 : ((-1) : Int32).toInt = (-1) := rfl
    have x671 := HI.eqA hI0 (p := 233) (j := 0) (hv666)
    exact ⟨_, rfl, hI663, hF664, _, rfl, by decide, ⟨fun h => absurd h (by omega), fun _ => by omega⟩⟩
  · have c669_ : v665.toInt ≥ 0 := en_j_lt_f c669
    refine At.enter rfl ?_
    refine r_lload_n rfl ?_
    refine r_lload rfl ?_
    refine r_lcmp _ rfl ?_
    refine r_ifs 13 rfl (fun c672 => ?_) (fun c672 => ?_)
    · have c672_ : v665.toInt > v668.toInt := en_j_gt_t c672
      refine At.enter rfl ?_
      refine r_iconst 0 rfl ?_
      refine Ar.fall 18 rfl ?_
      refine At.enter rfl ?_
      refine q_iretz (by decide) ?_
      refine At.enter rfl ?_
      refine q_iretz (by decide) ?_
      refine At.enter rfl ?_
      refine r_ift (by decide) ?_
      refine At.enter rfl ?_
      refine r_iconst (-1) rfl ?_
      refine r_ireti ?_
      have zv673 : ((-1) : Int32).toInt = (-1) := rfl
      have x674 := HI.eqA hI0 (p := 233) (j := 0) (hv666)
      exact ⟨_, rfl, hI663, hF664, _, rfl, by decide, ⟨fun h => absurd h (by omega), fun _ => by omega⟩⟩
    · have c672_ : v665.toInt ≤ v668.toInt := en_j_gt_f c672
      refine At.enter rfl ?_
      refine r_iconst 1 rfl ?_
      refine r_goto ?_
      refine At.enter rfl ?_
      refine q_iretz (by decide) ?_
      refine At.enter rfl ?_
      refine q_iretz (by decide) ?_
      refine At.enter rfl ?_
      refine r_iff 13 rfl (by decide) ?_
      refine At.enter rfl ?_
      refine r_aload_n rfl ?_
      refine r_iload_n rfl ?_
      refine q_inlV 18 rfl [.ref 231, .int a2] [] (Nat.le_of_ble_eq_true rfl) rfl ?_
      refine Ev.mk rfl rfl ⟨Nat.le_of_ble_eq_true rfl, Or.inr (q_rc hI663.1 kx_231 rfl)⟩ ?_
      show At _ none _ _ (0, [(0, .ref 231), (1, .int a2)], [], (_, _)) _
      refine At.enter rfl ?_
      refine r_iload_n rfl ?_
      refine q_i2l (fun v675 hv675 => ?_)
      refine r_lconst 0 rfl ?_
      refine r_aload_n rfl ?_
      refine q_getR (Sh.ref hI663.1 kx_231 rfl) ?_
      refine r_iconst 0 rfl ?_
      refine q_iald (Sh.arr hI663.1 ka_233) 0 rfl (by decide) v666 ((eA_c (gA_sI)).trans hv666) ?_
      refine q_i2l (fun v676 hv676 => ?_)
      refine r_lconst 1 rfl ?_
      refine q_lsub (v676.toInt - 1) rfl (by omega) (fun v677 hv677 => ?_)
      refine q_inlS 15 rfl [.long v675, .long 0, .long v677] [] (Nat.le_of_ble_eq_true rfl) rfl ?_
      refine Ev.mk rfl rfl ⟨Nat.le_of_ble_eq_true rfl, Or.inl rfl⟩ ?_
      show At _ none _ _ (0, [(0, .long v675), (2, .long 0), (4, .long v677)], [], (_, _)) _
      refine At.enter rfl ?_
      refine r_lload_n rfl ?_
      refine r_lload_n rfl ?_
      refine r_lcmp _ rfl ?_
      refine r_ifs 6 rfl (fun c678 => ?_) (fun c678 => ?_)
      · have c678_ : v675.toInt < 0 := en_j_lt_t c678
        refine At.enter rfl ?_
        refine r_iconst 0 rfl ?_
        refine Ar.fall 18 rfl ?_
        refine At.enter rfl ?_
        refine q_iretz (by decide) ?_
        refine At.enter rfl ?_
        refine q_iretz (by decide) ?_
        refine At.enter rfl ?_
        refine r_ift (by decide) ?_
        refine At.enter rfl ?_
        refine r_iconst (-1) rfl ?_
        refine r_ireti ?_
        have zv679 : ((-1) : Int32).toInt = (-1) := rfl
        have x680 := HI.eqA hI0 (p := 233) (j := 0) (hv666)
        exact ⟨_, rfl, hI663, hF664, _, rfl, by decide, ⟨fun h => absurd h (by omega), fun _ => by omega⟩⟩
      · have c678_ : v675.toInt ≥ 0 := en_j_lt_f c678
        refine At.enter rfl ?_
        refine r_lload_n rfl ?_
        refine r_lload rfl ?_
        refine r_lcmp _ rfl ?_
        refine r_ifs 13 rfl (fun c681 => ?_) (fun c681 => ?_)
        · have c681_ : v675.toInt > v677.toInt := en_j_gt_t c681
          refine At.enter rfl ?_
          refine r_iconst 0 rfl ?_
          refine Ar.fall 18 rfl ?_
          refine At.enter rfl ?_
          refine q_iretz (by decide) ?_
          refine At.enter rfl ?_
          refine q_iretz (by decide) ?_
          refine At.enter rfl ?_
          refine r_ift (by decide) ?_
          refine At.enter rfl ?_
          refine r_iconst (-1) rfl ?_
          refine r_ireti ?_
          have zv682 : ((-1) : Int32).toInt = (-1) := rfl
          have x683 := HI.eqA hI0 (p := 233) (j := 0) (hv666)
          exact ⟨_, rfl, hI663, hF664, _, rfl, by decide, ⟨fun h => absurd h (by omega), fun _ => by omega⟩⟩
        · have c681_ : v675.toInt ≤ v677.toInt := en_j_gt_f c681
          refine At.enter rfl ?_
          refine r_iconst 1 rfl ?_
          refine r_goto ?_
          refine At.enter rfl ?_
          refine q_iretz (by decide) ?_
          refine At.enter rfl ?_
          refine q_iretz (by decide) ?_
          refine At.enter rfl ?_
          refine r_iff 21 rfl (by decide) ?_
          refine At.enter rfl ?_
          refine r_iload_n rfl ?_
          refine q_i2l (fun v684 hv684 => ?_)
          refine r_lconst 0 rfl ?_
          refine r_lconst 1 rfl ?_
          refine q_inlS 28 rfl [.long v684, .long 0, .long 1] [] (Nat.le_of_ble_eq_true rfl) rfl ?_
          refine Ev.mk rfl rfl ⟨Nat.le_of_ble_eq_true rfl, Or.inl rfl⟩ ?_
          show At _ none _ _ (0, [(0, .long v684), (2, .long 0), (4, .long 1)], [], (_, _)) _
          refine At.enter rfl ?_
          refine r_lload_n rfl ?_
          refine r_lload_n rfl ?_
          refine r_lcmp _ rfl ?_
          refine r_ifs 6 rfl (fun c685 => ?_) (fun c685 => ?_)
          · have c685_ : v684.toInt < 0 := en_j_lt_t c685
            refine At.enter rfl ?_
            refine r_iconst 0 rfl ?_
            refine Ar.fall 18 rfl ?_
            refine At.enter rfl ?_
            refine q_iretz (by decide) ?_
            refine At.enter rfl ?_
            refine r_iff 31 rfl (by decide) ?_
            refine At.enter rfl ?_
            refine r_iconst (-1) rfl ?_
            refine r_ireti ?_
            have zv686 : ((-1) : Int32).toInt = (-1) := rfl
            have x687 := HI.eqA hI0 (p := 233) (j := 0) (hv666)
            exact ⟨_, rfl, hI663, hF664, _, rfl, by decide, ⟨fun h => absurd h (by omega), fun _ => by omega⟩⟩
          · have c685_ : v684.toInt ≥ 0 := en_j_lt_f c685
            refine At.enter rfl ?_
            refine r_lload_n rfl ?_
            refine r_lload rfl ?_
            refine r_lcmp _ rfl ?_
            refine r_ifs 13 rfl (fun c688 => ?_) (fun c688 => ?_)
            · have c688_ : v684.toInt > 1 := en_j_gt_t c688
              refine At.enter rfl ?_
              refine r_iconst 0 rfl ?_
              refine Ar.fall 18 rfl ?_
              refine At.enter rfl ?_
              refine q_iretz (by decide) ?_
              refine At.enter rfl ?_
              refine r_iff 31 rfl (by decide) ?_
              refine At.enter rfl ?_
              refine r_iconst (-1) rfl ?_
              refine r_ireti ?_
              have zv689 : ((-1) : Int32).toInt = (-1) := rfl
              have x690 := HI.eqA hI0 (p := 233) (j := 0) (hv666)
              exact ⟨_, rfl, hI663, hF664, _, rfl, by decide, ⟨fun h => absurd h (by omega), fun _ => by omega⟩⟩
            · have c688_ : v684.toInt ≤ 1 := en_j_gt_f c688
              refine At.enter rfl ?_
              refine r_iconst 1 rfl ?_
              refine r_goto ?_
              refine At.enter rfl ?_
              refine q_iretz (by decide) ?_
              refine At.enter rfl ?_
              refine r_ift (by decide) ?_
              refine At.enter rfl ?_
              refine r_iconst 0 rfl ?_
              refine r_istore ([(4, .int 0), (0, .ref 231), (1, .int a1), (2, .int a2), (3, .int a3)]) rfl ?_
              refine Ar.fall 36 rfl ?_
              have z_986 : (0 : Int32).toInt = 0 := rfl
              refine w_loopI (fun n_ l_ g_ => ∃ x971 : Int32, n_ = 100 - x971.toInt ∧ HI g_ ∧ Fr F_X11_meet_231 A_X11_meet_231 g0 g_ ∧ en_get 0 l_ = some (.ref 231) ∧ en_get 1 l_ = some (.int a1) ∧ en_get 2 l_ = some (.int a2) ∧ en_get 3 l_ = some (.int a3) ∧ en_get 4 l_ = some (.int x971) ∧ (0 ≤ x971.toInt ∧ x971.toInt ≤ 100) ∧ (∀ j : Int, 0 ≤ j → j < x971.toInt → ¬ MT (NMq g0) a1.toInt a2.toInt j) ∧ (0 ≤ x971.toInt)) ?_ (100 - 0) ⟨0, by first | rfl | omega, hI663, hF664, rfl, rfl, rfl, rfl, rfl, by decide, (fun j h0 h1 => absurd h1 (by omega)), by omega⟩
              rintro n976 l975 g972 ⟨x971, hm987, hI973, hF974, e978, e979, e980, e981, e982, r983, q984, q985⟩ ih977
              refine At.enter rfl ?_
              refine r_iload e982 ?_
              refine r_bipush 100 rfl ?_
              refine r_ics 43 rfl (fun c988 => ?_) (fun c988 => ?_)
              · have c988_ : x971.toInt ≥ 100 := en_i_ge_t c988
                refine At.enter rfl ?_
                refine r_iconst (-1) rfl ?_
                refine r_ireti ?_
                have zv989 : ((-1) : Int32).toInt = (-1) := rfl
                have x990 := HI.eqA hI0 (p := 233) (j := 0) (hv666)
                exact ⟨_, rfl, hI973, hF974, _, rfl, by decide, ⟨fun _ => (by first | exact MEET.a x971.toInt (by omega) (by omega) (by omega) (by omega) q984 (by omega) (by omega) | exact MEET.n (NMq.e g0) q984 (by omega) (by omega)), fun h => absurd (by omega) h⟩⟩
              · have c988_ : x971.toInt < 100 := en_i_ge_f c988
                refine At.enter rfl ?_
                refine r_aload_n e978 ?_
                refine r_iload_n e979 ?_
                refine r_iload e982 ?_
                refine r_callV 50 rfl [.ref 231, .int a1, .int x971] [] (Nat.le_of_ble_eq_true rfl) rfl (T_X11_after_231 _ hI973 a1 (by omega) x971) ?_
                rintro _ _ ⟨g991, rfl, hI992, hF993, v994, rfl, hr995⟩
                refine At.sti ?_
                have hF996 := Fr.tr hF974 hF993 rfl rfl
                rw [NMq.cI ((hF974.2.1 233 (by decide)))] at hr995
                refine At.enter rfl ?_
                refine r_istore _ rfl ?_
                refine r_iload (w_e1 _ _ _) ?_
                refine r_iconst (-1) rfl ?_
                refine r_ics 58 rfl (fun c997 => ?_) (fun c997 => ?_)
                · have c997_ : v994.toInt = (-1) := en_i_eq_t c997
                  refine At.enter rfl ?_
                  refine q_iinc (w_p1 (by decide) (Or.inr rfl) e982) (x971.toInt + 1) rfl (by omega) (fun v998 hv998 => ?_)
                  refine r_goto ?_
                  exact ih977 (100 - v998.toInt) _ _ ⟨v998, by first | rfl | omega, hI992, hF996, (w_p1 (by decide) (Or.inr rfl) (w_p1 (by decide) (Or.inr rfl) e978)), (w_p1 (by decide) (Or.inr rfl) (w_p1 (by decide) (Or.inr rfl) e979)), (w_p1 (by decide) (Or.inr rfl) (w_p1 (by decide) (Or.inr rfl) e980)), (w_p1 (by decide) (Or.inr rfl) (w_p1 (by decide) (Or.inr rfl) e981)), (w_e1 _ _ _), by omega, (MT.step q984 (by omega) (show v998.toInt = x971.toInt + 1 from by omega)), by omega⟩ ⟨by omega, by omega⟩
                · have c997_ : v994.toInt ≠ (-1) := en_i_eq_f c997
                  refine At.enter rfl ?_
                  refine r_iload (w_e1 _ _ _) ?_
                  refine r_aload_n (w_p1 (by decide) (Or.inr rfl) e978) ?_
                  refine r_iload_n (w_p1 (by decide) (Or.inr rfl) e980) ?_
                  refine r_iload (w_p1 (by decide) (Or.inr rfl) e982) ?_
                  refine r_callV 67 rfl [.ref 231, .int a2, .int x971] [.int v994] (Nat.le_of_ble_eq_true rfl) rfl (T_X11_after_231 _ hI992 a2 (by omega) x971) ?_
                  rintro _ _ ⟨g999, rfl, hI1000, hF1001, v1002, rfl, hr1003⟩
                  refine At.sti ?_
                  have hF1004 := Fr.tr hF996 hF1001 rfl rfl
                  rw [NMq.cI (((hF993.2.1 233 ma_X11_after_231_233).trans (hF974.2.1 233 (by decide))))] at hr1003
                  refine At.enter rfl ?_
                  refine r_ics 70 rfl (fun c1005 => ?_) (fun c1005 => ?_)
                  · have c1005_ : v994.toInt ≠ v1002.toInt := en_i_ne_t c1005
                    refine At.enter rfl ?_
                    refine q_iinc (w_p1 (by decide) (Or.inr rfl) e982) (x971.toInt + 1) rfl (by omega) (fun v1006 hv1006 => ?_)
                    refine r_goto ?_
                    exact ih977 (100 - v1006.toInt) _ _ ⟨v1006, by first | rfl | omega, hI1000, hF1004, (w_p1 (by decide) (Or.inr rfl) (w_p1 (by decide) (Or.inr rfl) e978)), (w_p1 (by decide) (Or.inr rfl) (w_p1 (by decide) (Or.inr rfl) e979)), (w_p1 (by decide) (Or.inr rfl) (w_p1 (by decide) (Or.inr rfl) e980)), (w_p1 (by decide) (Or.inr rfl) (w_p1 (by decide) (Or.inr rfl) e981)), (w_e1 _ _ _), by omega, (MT.step q984 (by omega) (show v1006.toInt = x971.toInt + 1 from by omega)), by omega⟩ ⟨by omega, by omega⟩
                  · have c1005_ : v994.toInt = v1002.toInt := en_i_ne_f c1005
                    refine At.enter rfl ?_
                    refine r_iload_n (w_p1 (by decide) (Or.inr rfl) e981) ?_
                    refine r_ifs 74 rfl (fun c1007 => ?_) (fun c1007 => ?_)
                    · have c1007_ : a3.toInt ≠ 0 := en_k_ne_t c1007
                      refine At.enter rfl ?_
                      refine r_iload (w_e1 _ _ _) ?_
                      refine Ar.fall 81 rfl ?_
                      refine At.enter rfl ?_
                      refine r_ireti ?_
                      have x1008 := HI.eqA hI0 (p := 233) (j := 0) (hv666)
                      exact ⟨_, rfl, hI1000, hF1004, _, rfl, by omega, ⟨fun _ => (by first | exact MEET.a x971.toInt (by omega) (by omega) (by omega) (by omega) q984 (by omega) (by omega) | exact MEET.n (NMq.e g0) q984 (by omega) (by omega)), fun h => absurd (by omega) h⟩⟩
                    · have c1007_ : a3.toInt = 0 := en_k_ne_f c1007
                      refine At.enter rfl ?_
                      refine r_iload (w_p1 (by decide) (Or.inr rfl) e982) ?_
                      refine r_goto ?_
                      refine At.enter rfl ?_
                      refine r_ireti ?_
                      have x1009 := HI.eqA hI0 (p := 233) (j := 0) (hv666)
                      exact ⟨_, rfl, hI1000, hF1004, _, rfl, by omega, ⟨fun _ => (by first | exact MEET.a x971.toInt (by omega) (by omega) (by omega) (by omega) q984 (by omega) (by omega) | exact MEET.n (NMq.e g0) q984 (by omega) (by omega)), fun h => absurd (by omega) h⟩⟩
