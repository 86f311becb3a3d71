def F_X1_begin_188 : List (Nat × Nat) := []
def A_X1_begin_188 : List Nat := [194, 195, 196, 197, 198, 199, 200]
set_option maxRecDepth 100000 in
set_option maxHeartbeats 4000000 in
theorem T_X1_begin_188 (d : Nat) {N : Nat} {g0 : List en_E} (hI0 : HI g0) : Ev (d + 2) 23 [.ref 188] (g0, N) (fun w h' => ∃ g', h' = (g', N) ∧ HI g' ∧ Fr F_X1_begin_188 A_X1_begin_188 g0 g' ∧ w = none) := by
  have hF0 : Fr F_X1_begin_188 A_X1_begin_188 g0 g0 := Fr.rf
  refine Ev.mk rfl rfl ⟨Nat.le_of_ble_eq_true rfl, Or.inr (q_rc hI0.1 kx_188 rfl)⟩ ?_
  show At _ none _ _ (0, [(0, .ref 188)], [], (_, _)) _
  refine At.enter rfl ?_
  refine r_aload_n rfl ?_
  refine q_getR (Sh.ref hI0.1 kx_188 rfl) ?_
  refine r_iconst (-1) rfl ?_
  refine q_inlS 8 rfl [.ref 195, .int (-1)] [] (Nat.le_of_ble_eq_true rfl) rfl ?_
  refine Ev.mk rfl rfl ⟨Nat.le_of_ble_eq_true rfl, Or.inl rfl⟩ ?_
  show At _ none _ _ (0, [(0, .ref 195), (1, .int (-1))], [], (_, _)) _
  refine At.enter rfl ?_
  refine r_iconst 0 rfl ?_
  refine r_istore_n ([(2, .int 0), (0, .ref 195), (1, .int (-1))]) rfl ?_
  refine r_aload_n rfl ?_
  refine r_alen (Sh.arr hI0.1 ka_195).1 (by decide) 8 (by unfold en_sz; dsimp only; rw [(Sh.arr hI0.1 ka_195).2]; rfl) ?_
  refine r_istore_n ([(3, .int 8), (2, .int 0), (0, .ref 195), (1, .int (-1))]) rfl ?_
  refine Ar.fall 5 rfl ?_
  have z_11715 : (0 : Int32).toInt = 0 := rfl
  refine w_loopI (fun n_ l_ g_ => ∃ x11703 : Int32, n_ = 8 - x11703.toInt ∧ HI g_ ∧ Fr F_X1_begin_188 A_X1_begin_188 g0 g_ ∧ en_get 0 l_ = some (.ref 195) ∧ en_get 1 l_ = some (.int (-1)) ∧ en_get 2 l_ = some (.int x11703) ∧ en_get 3 l_ = some (.int 8) ∧ (0 ≤ x11703.toInt ∧ x11703.toInt ≤ 8)) ?_ (8 - 0) ⟨0, by first | rfl | omega, hI0, hF0, rfl, rfl, rfl, rfl, by decide⟩
  rintro n11708 l11707 g11704 ⟨x11703, hm11716, hI11705, hF11706, e11710, e11711, e11712, e11713, r11714⟩ ih11709
  refine At.enter rfl ?_
  refine r_iload_n e11712 ?_
  refine r_iload_n e11713 ?_
  refine r_ics 10 rfl (fun c11717 => ?_) (fun c11717 => ?_)
  · have c11717_ : x11703.toInt ≥ 8 := en_i_ge_t c11717
    refine At.enter rfl ?_
    refine q_vret ?_
    refine At.enter rfl ?_
    refine r_aload_n rfl ?_
    refine q_getR (Sh.ref hI11705.1 kx_188 rfl) ?_
    refine r_iconst (-1) rfl ?_
    refine q_inlS 16 rfl [.ref 196, .int (-1)] [] (Nat.le_of_ble_eq_true rfl) rfl ?_
    refine Ev.mk rfl rfl ⟨Nat.le_of_ble_eq_true rfl, Or.inl rfl⟩ ?_
    show At _ none _ _ (0, [(0, .ref 196), (1, .int (-1))], [], (_, _)) _
    refine At.enter rfl ?_
    refine r_iconst 0 rfl ?_
    refine r_istore_n ([(2, .int 0), (0, .ref 196), (1, .int (-1))]) rfl ?_
    refine r_aload_n rfl ?_
    refine r_alen (Sh.arr hI11705.1 ka_196).1 (by decide) 8 (by unfold en_sz; dsimp only; rw [(Sh.arr hI11705.1 ka_196).2]; rfl) ?_
    refine r_istore_n ([(3, .int 8), (2, .int 0), (0, .ref 196), (1, .int (-1))]) rfl ?_
    refine Ar.fall 5 rfl ?_
    have z_12896 : (0 : Int32).toInt = 0 := rfl
    refine w_loopI (fun n_ l_ g_ => ∃ x12884 : Int32, n_ = 8 - x12884.toInt ∧ HI g_ ∧ Fr F_X1_begin_188 A_X1_begin_188 g0 g_ ∧ en_get 0 l_ = some (.ref 196) ∧ en_get 1 l_ = some (.int (-1)) ∧ en_get 2 l_ = some (.int x12884) ∧ en_get 3 l_ = some (.int 8) ∧ (0 ≤ x12884.toInt ∧ x12884.toInt ≤ 8)) ?_ (8 - 0) ⟨0, by first | rfl | omega, hI11705, hF11706, rfl, rfl, rfl, rfl, by decide⟩
    rintro n12889 l12888 g12885 ⟨x12884, hm12897, hI12886, hF12887, e12891, e12892, e12893, e12894, r12895⟩ ih12890
    refine At.enter rfl ?_
    refine r_iload_n e12893 ?_
    refine r_iload_n e12894 ?_
    refine r_ics 10 rfl (fun c12898 => ?_) (fun c12898 => ?_)
    · have c12898_ : x12884.toInt ≥ 8 := en_i_ge_t c12898
      refine At.enter rfl ?_
      refine q_vret ?_
      refine At.enter rfl ?_
      refine r_aload_n rfl ?_
      refine q_getR (Sh.ref hI12886.1 kx_188 rfl) ?_
      refine r_iconst 0 rfl ?_
      refine q_inlS 24 rfl [.ref 198, .int 0] [] (Nat.le_of_ble_eq_true rfl) rfl ?_
      refine Ev.mk rfl rfl ⟨Nat.le_of_ble_eq_true rfl, Or.inl rfl⟩ ?_
      show At _ none _ _ (0, [(0, .ref 198), (1, .int 0)], [], (_, _)) _
      refine At.enter rfl ?_
      refine r_iconst 0 rfl ?_
      refine r_istore_n ([(2, .int 0), (0, .ref 198), (1, .int 0)]) rfl ?_
      refine r_aload_n rfl ?_
      refine r_alen (Sh.arr hI12886.1 ka_198).1 (by decide) 8 (by unfold en_sz; dsimp only; rw [(Sh.arr hI12886.1 ka_198).2]; rfl) ?_
      refine r_istore_n ([(3, .int 8), (2, .int 0), (0, .ref 198), (1, .int 0)]) rfl ?_
      refine Ar.fall 5 rfl ?_
      have z_13485 : (0 : Int32).toInt = 0 := rfl
      refine w_loopI (fun n_ l_ g_ => ∃ x13473 : Int32, n_ = 8 - x13473.toInt ∧ HI g_ ∧ Fr F_X1_begin_188 A_X1_begin_188 g0 g_ ∧ en_get 0 l_ = some (.ref 198) ∧ en_get 1 l_ = some (.int 0) ∧ en_get 2 l_ = some (.int x13473) ∧ en_get 3 l_ = some (.int 8) ∧ (0 ≤ x13473.toInt ∧ x13473.toInt ≤ 8)) ?_ (8 - 0) ⟨0, by first | rfl | omega, hI12886, hF12887, rfl, rfl, rfl, rfl, by decide⟩
      rintro n13478 l13477 g13474 ⟨x13473, hm13486, hI13475, hF13476, e13480, e13481, e13482, e13483, r13484⟩ ih13479
      refine At.enter rfl ?_
      refine r_iload_n e13482 ?_
      refine r_iload_n e13483 ?_
      refine r_ics 10 rfl (fun c13487 => ?_) (fun c13487 => ?_)
      · have c13487_ : x13473.toInt ≥ 8 := en_i_ge_t c13487
        refine At.enter rfl ?_
        refine q_vret ?_
        refine At.enter rfl ?_
        refine r_aload_n rfl ?_
        refine q_getR (Sh.ref hI13475.1 kx_188 rfl) ?_
        refine r_iconst 0 rfl ?_
        refine q_inlS 32 rfl [.ref 197, .int 0] [] (Nat.le_of_ble_eq_true rfl) rfl ?_
        refine Ev.mk rfl rfl ⟨Nat.le_of_ble_eq_true rfl, Or.inl rfl⟩ ?_
        show At _ none _ _ (0, [(0, .ref 197), (1, .int 0)], [], (_, _)) _
        refine At.enter rfl ?_
        refine r_iconst 0 rfl ?_
        refine r_istore_n ([(2, .int 0), (0, .ref 197), (1, .int 0)]) rfl ?_
        refine r_aload_n rfl ?_
        refine r_alen (Sh.arr hI13475.1 ka_197).1 (by decide) 8 (by unfold en_sz; dsimp only; rw [(Sh.arr hI13475.1 ka_197).2]; rfl) ?_
        refine r_istore_n ([(3, .int 8), (2, .int 0), (0, .ref 197), (1, .int 0)]) rfl ?_
        refine Ar.fall 5 rfl ?_
        have z_13778 : (0 : Int32).toInt = 0 := rfl
        refine w_loopI (fun n_ l_ g_ => ∃ x13766 : Int32, n_ = 8 - x13766.toInt ∧ HI g_ ∧ Fr F_X1_begin_188 A_X1_begin_188 g0 g_ ∧ en_get 0 l_ = some (.ref 197) ∧ en_get 1 l_ = some (.int 0) ∧ en_get 2 l_ = some (.int x13766) ∧ en_get 3 l_ = some (.int 8) ∧ (0 ≤ x13766.toInt ∧ x13766.toInt ≤ 8)) ?_ (8 - 0) ⟨0, by first | rfl | omega, hI13475, hF13476, rfl, rfl, rfl, rfl, by decide⟩
        rintro n13771 l13770 g13767 ⟨x13766, hm13779, hI13768, hF13769, e13773, e13774, e13775, e13776, r13777⟩ ih13772
        refine At.enter rfl ?_
        refine r_iload_n e13775 ?_
        refine r_iload_n e13776 ?_
        refine r_ics 10 rfl (fun c13780 => ?_) (fun c13780 => ?_)
        · have c13780_ : x13766.toInt ≥ 8 := en_i_ge_t c13780
          refine At.enter rfl ?_
          refine q_vret ?_
          refine At.enter rfl ?_
          refine r_aload_n rfl ?_
          refine q_getR (Sh.ref hI13768.1 kx_188 rfl) ?_
          refine r_iconst 0 rfl ?_
          refine q_inlS 40 rfl [.ref 199, .int 0] [] (Nat.le_of_ble_eq_true rfl) rfl ?_
          refine Ev.mk rfl rfl ⟨Nat.le_of_ble_eq_true rfl, Or.inl rfl⟩ ?_
          show At _ none _ _ (0, [(0, .ref 199), (1, .int 0)], [], (_, _)) _
          refine At.enter rfl ?_
          refine r_iconst 0 rfl ?_
          refine r_istore_n ([(2, .int 0), (0, .ref 199), (1, .int 0)]) rfl ?_
          refine r_aload_n rfl ?_
          refine r_alen (Sh.arr hI13768.1 ka_199).1 (by decide) 12 (by unfold en_sz; dsimp only; rw [(Sh.arr hI13768.1 ka_199).2]; rfl) ?_
          refine r_istore_n ([(3, .int 12), (2, .int 0), (0, .ref 199), (1, .int 0)]) rfl ?_
          refine Ar.fall 5 rfl ?_
          have z_13929 : (0 : Int32).toInt = 0 := rfl
          refine w_loopI (fun n_ l_ g_ => ∃ x13917 : Int32, n_ = 12 - x13917.toInt ∧ HI g_ ∧ Fr F_X1_begin_188 A_X1_begin_188 g0 g_ ∧ en_get 0 l_ = some (.ref 199) ∧ en_get 1 l_ = some (.int 0) ∧ en_get 2 l_ = some (.int x13917) ∧ en_get 3 l_ = some (.int 12) ∧ (0 ≤ x13917.toInt ∧ x13917.toInt ≤ 12)) ?_ (12 - 0) ⟨0, by first | rfl | omega, hI13768, hF13769, rfl, rfl, rfl, rfl, by decide⟩
          rintro n13922 l13921 g13918 ⟨x13917, hm13930, hI13919, hF13920, e13924, e13925, e13926, e13927, r13928⟩ ih13923
          refine At.enter rfl ?_
          refine r_iload_n e13926 ?_
          refine r_iload_n e13927 ?_
          refine r_ics 10 rfl (fun c13931 => ?_) (fun c13931 => ?_)
          · have c13931_ : x13917.toInt ≥ 12 := en_i_ge_t c13931
            refine At.enter rfl ?_
            refine q_vret ?_
            refine At.enter rfl ?_
            refine r_aload_n rfl ?_
            refine q_getR (Sh.ref hI13919.1 kx_188 rfl) ?_
            refine r_iconst 0 rfl ?_
            refine q_inlS 48 rfl [.ref 200, .int 0] [] (Nat.le_of_ble_eq_true rfl) rfl ?_
            refine Ev.mk rfl rfl ⟨Nat.le_of_ble_eq_true rfl, Or.inl rfl⟩ ?_
            show At _ none _ _ (0, [(0, .ref 200), (1, .int 0)], [], (_, _)) _
            refine At.enter rfl ?_
            refine r_iconst 0 rfl ?_
            refine r_istore_n ([(2, .int 0), (0, .ref 200), (1, .int 0)]) rfl ?_
            refine r_aload_n rfl ?_
            refine r_alen (Sh.arr hI13919.1 ka_200).1 (by decide) 12 (by unfold en_sz; dsimp only; rw [(Sh.arr hI13919.1 ka_200).2]; rfl) ?_
            refine r_istore_n ([(3, .int 12), (2, .int 0), (0, .ref 200), (1, .int 0)]) rfl ?_
            refine Ar.fall 5 rfl ?_
            have z_14003 : (0 : Int32).toInt = 0 := rfl
            refine w_loopI (fun n_ l_ g_ => ∃ x13991 : Int32, n_ = 12 - x13991.toInt ∧ HI g_ ∧ Fr F_X1_begin_188 A_X1_begin_188 g0 g_ ∧ en_get 0 l_ = some (.ref 200) ∧ en_get 1 l_ = some (.int 0) ∧ en_get 2 l_ = some (.int x13991) ∧ en_get 3 l_ = some (.int 12) ∧ (0 ≤ x13991.toInt ∧ x13991.toInt ≤ 12)) ?_ (12 - 0) ⟨0, by first | rfl | omega, hI13919, hF13920, rfl, rfl, rfl, rfl, by decide⟩
            rintro n13996 l13995 g13992 ⟨x13991, hm14004, hI13993, hF13994, e13998, e13999, e14000, e14001, r14002⟩ ih13997
            refine At.enter rfl ?_
            refine r_iload_n e14000 ?_
            refine r_iload_n e14001 ?_
            refine r_ics 10 rfl (fun c14005 => ?_) (fun c14005 => ?_)
            · have c14005_ : x13991.toInt ≥ 12 := en_i_ge_t c14005
              refine At.enter rfl ?_
              refine q_vret ?_
              refine At.enter rfl ?_
              refine r_aload_n rfl ?_
              refine q_getR (Sh.ref hI13993.1 kx_188 rfl) ?_
              refine r_iconst 0 rfl ?_
              refine r_aload_n rfl ?_
              refine q_getR (Sh.ref hI13993.1 kx_188 rfl) ?_
              refine r_iconst 0 rfl ?_
              refine r_bipush 8 rfl ?_
              have zv14006 : (0 : Int32).toInt = 0 := rfl
              have zv14007 : (0 : Int32).toInt = 0 := rfl
              have zv14008 : (8 : Int32).toInt = 8 := rfl
              refine q_cpy rfl (Nat.le_of_ble_eq_true rfl) (Sh.arr hI13993.1 ka_193) (Sh.arr hI13993.1 ka_194) ⟨by omega, by omega, by omega, by omega, by omega⟩ ?_
              have hI14009 := HI.cpy0 hI13993 ka_193 ka_194 rfl rfl ((0 : Int32).toInt.toNat) ((0 : Int32).toInt.toNat) ((8 : Int32).toInt.toNat) (by omega) (by omega)
              have hF14010 := Fr.cpy (p0 := 193) (p1 := 194) hF13994 rfl ((0 : Int32).toInt.toNat) ((0 : Int32).toInt.toNat) ((8 : Int32).toInt.toNat)
              refine r_vret ?_
              exact ⟨_, rfl, hI14009, hF14010, rfl⟩
            · have c14005_ : x13991.toInt < 12 := en_i_ge_f c14005
              refine At.enter rfl ?_
              refine r_aload_n e13998 ?_
              refine r_iload_n e14000 ?_
              refine r_iload_n e13999 ?_
              refine q_iast (Sh.arr hI13993.1 ka_200) (x13991.toInt) rfl (by omega) ?_
              have hI14011 := HI.wA0 hI13993 ka_200 (p := 200) rfl rfl (x13991.toInt) (0)
              have hF14012 := Fr.wA (p := 200) (j := x13991.toInt) (v := 0) hF13994 rfl
              refine q_iinc e14000 (x13991.toInt + 1) rfl (by omega) (fun v14013 hv14013 => ?_)
              refine r_goto ?_
              exact ih13997 (12 - v14013.toInt) _ _ ⟨v14013, by first | rfl | omega, hI14011, hF14012, (w_p1 (by decide) (Or.inr rfl) e13998), (w_p1 (by decide) (Or.inr rfl) e13999), (w_e1 _ _ _), (w_p1 (by decide) (Or.inr rfl) e14001), by omega⟩ ⟨by omega, by omega⟩
          · have c13931_ : x13917.toInt < 12 := en_i_ge_f c13931
            refine At.enter rfl ?_
            refine r_aload_n e13924 ?_
            refine r_iload_n e13926 ?_
            refine r_iload_n e13925 ?_
            refine q_iast (Sh.arr hI13919.1 ka_199) (x13917.toInt) rfl (by omega) ?_
            have hI14014 := HI.wA0 hI13919 ka_199 (p := 199) rfl rfl (x13917.toInt) (0)
            have hF14015 := Fr.wA (p := 199) (j := x13917.toInt) (v := 0) hF13920 rfl
            refine q_iinc e13926 (x13917.toInt + 1) rfl (by omega) (fun v14016 hv14016 => ?_)
            refine r_goto ?_
            exact ih13923 (12 - v14016.toInt) _ _ ⟨v14016, by first | rfl | omega, hI14014, hF14015, (w_p1 (by decide) (Or.inr rfl) e13924), (w_p1 (by decide) (Or.inr rfl) e13925), (w_e1 _ _ _), (w_p1 (by decide) (Or.inr rfl) e13927), by omega⟩ ⟨by omega, by omega⟩
        · have c13780_ : x13766.toInt < 8 := en_i_ge_f c13780
          refine At.enter rfl ?_
          refine r_aload_n e13773 ?_
          refine r_iload_n e13775 ?_
          refine r_iload_n e13774 ?_
          refine q_iast (Sh.arr hI13768.1 ka_197) (x13766.toInt) rfl (by omega) ?_
          have hI14017 := HI.wA0 hI13768 ka_197 (p := 197) rfl rfl (x13766.toInt) (0)
          have hF14018 := Fr.wA (p := 197) (j := x13766.toInt) (v := 0) hF13769 rfl
          refine q_iinc e13775 (x13766.toInt + 1) rfl (by omega) (fun v14019 hv14019 => ?_)
          refine r_goto ?_
          exact ih13772 (8 - v14019.toInt) _ _ ⟨v14019, by first | rfl | omega, hI14017, hF14018, (w_p1 (by decide) (Or.inr rfl) e13773), (w_p1 (by decide) (Or.inr rfl) e13774), (w_e1 _ _ _), (w_p1 (by decide) (Or.inr rfl) e13776), by omega⟩ ⟨by omega, by omega⟩
      · have c13487_ : x13473.toInt < 8 := en_i_ge_f c13487
        refine At.enter rfl ?_
        refine r_aload_n e13480 ?_
        refine r_iload_n e13482 ?_
        refine r_iload_n e13481 ?_
        refine q_iast (Sh.arr hI13475.1 ka_198) (x13473.toInt) rfl (by omega) ?_
        have hI14020 := HI.wA0 hI13475 ka_198 (p := 198) rfl rfl (x13473.toInt) (0)
        have hF14021 := Fr.wA (p := 198) (j := x13473.toInt) (v := 0) hF13476 rfl
        refine q_iinc e13482 (x13473.toInt + 1) rfl (by omega) (fun v14022 hv14022 => ?_)
        refine r_goto ?_
        exact ih13479 (8 - v14022.toInt) _ _ ⟨v14022, by first | rfl | omega, hI14020, hF14021, (w_p1 (by decide) (Or.inr rfl) e13480), (w_p1 (by decide) (Or.inr rfl) e13481), (w_e1 _ _ _), (w_p1 (by decide) (Or.inr rfl) e13483), by omega⟩ ⟨by omega, by omega⟩
    · have c12898_ : x12884.toInt < 8 := en_i_ge_f c12898
      refine At.enter rfl ?_
      refine r_aload_n e12891 ?_
      refine r_iload_n e12893 ?_
      refine r_iload_n e12892 ?_
      refine q_iast (Sh.arr hI12886.1 ka_196) (x12884.toInt) rfl (by omega) ?_
      have hI14023 := HI.wA0 hI12886 ka_196 (p := 196) rfl rfl (x12884.toInt) ((-1))
      have hF14024 := Fr.wA (p := 196) (j := x12884.toInt) (v := (-1)) hF12887 rfl
      refine q_iinc e12893 (x12884.toInt + 1) rfl (by omega) (fun v14025 hv14025 => ?_)
      refine r_goto ?_
      exact ih12890 (8 - v14025.toInt) _ _ ⟨v14025, by first | rfl | omega, hI14023, hF14024, (w_p1 (by decide) (Or.inr rfl) e12891), (w_p1 (by decide) (Or.inr rfl) e12892), (w_e1 _ _ _), (w_p1 (by decide) (Or.inr rfl) e12894), by omega⟩ ⟨by omega, by omega⟩
  · have c11717_ : x11703.toInt < 8 := en_i_ge_f c11717
    refine At.enter rfl ?_
    refine r_aload_n e11710 ?_
    refine r_iload_n e11712 ?_
    refine r_iload_n e11711 ?_
    refine q_iast (Sh.arr hI11705.1 ka_195) (x11703.toInt) rfl (by omega) ?_
    have hI14026 := HI.wA0 hI11705 ka_195 (p := 195) rfl rfl (x11703.toInt) ((-1))
    have hF14027 := Fr.wA (p := 195) (j := x11703.toInt) (v := (-1)) hF11706 rfl
    refine q_iinc e11712 (x11703.toInt + 1) rfl (by omega) (fun v14028 hv14028 => ?_)
    refine r_goto ?_
    exact ih11709 (8 - v14028.toInt) _ _ ⟨v14028, by first | rfl | omega, hI14026, hF14027, (w_p1 (by decide) (Or.inr rfl) e11710), (w_p1 (by decide) (Or.inr rfl) e11711), (w_e1 _ _ _), (w_p1 (by decide) (Or.inr rfl) e11713), by omega⟩ ⟨by omega, by omega⟩

def F_X1_runWhole_188 : List (Nat × Nat) := [(185, 3), (188, 16), (188, 18)]
def A_X1_runWhole_188 : List Nat := [194, 195, 196, 197, 198, 199, 200, 202, 203]
set_option maxRecDepth 100000 in
set_option maxHeartbeats 4000000 in
theorem T_X1_runWhole_188 (d : Nat) {N : Nat} {g0 : List en_E} (hI0 : HI g0) : Ev (d + 5) 18 [.ref 188] (g0, N) (fun w h' => ∃ g', h' = (g', N) ∧ HI g' ∧ Fr F_X1_runWhole_188 A_X1_runWhole_188 g0 g' ∧ w = none) := by
  have hF0 : Fr F_X1_runWhole_188 A_X1_runWhole_188 g0 g0 := Fr.rf
  refine Ev.mk rfl rfl ⟨Nat.le_of_ble_eq_true rfl, Or.inr (q_rc hI0.1 kx_188 rfl)⟩ ?_
  show At _ none _ _ (0, [(0, .ref 188)], [], (_, _)) _
  refine At.enter rfl ?_
  refine r_aload_n rfl ?_
  refine r_callV 4 rfl [.ref 188] [] (Nat.le_of_ble_eq_true rfl) rfl (T_X1_begin_188 _ hI0) ?_
  rintro _ _ ⟨g843, rfl, hI844, hF845, rfl⟩
  refine At.stn ?_
  have hF848 := Fr.tr hF0 hF845 rfl rfl
  refine At.enter rfl ?_
  refine r_iconst 0 rfl ?_
  refine r_istore_n ([(1, .int 0), (0, .ref 188)]) rfl ?_
  refine Ar.fall 6 rfl ?_
  have z_1237 : (0 : Int32).toInt = 0 := rfl
  refine w_loopI (fun n_ l_ g_ => ∃ x1227 : Int32, n_ = 100 - x1227.toInt ∧ HI g_ ∧ Fr F_X1_runWhole_188 A_X1_runWhole_188 g0 g_ ∧ en_get 0 l_ = some (.ref 188) ∧ en_get 1 l_ = some (.int x1227) ∧ (0 ≤ x1227.toInt ∧ x1227.toInt ≤ 100)) ?_ (100 - 0) ⟨0, by first | rfl | omega, hI844, hF848, rfl, rfl, by decide⟩
  rintro n1232 l1231 g1228 ⟨x1227, hm1238, hI1229, hF1230, e1234, e1235, r1236⟩ ih1233
  refine At.enter rfl ?_
  refine r_iload_n e1235 ?_
  refine r_bipush 100 rfl ?_
  refine r_ics 12 rfl (fun c1239 => ?_) (fun c1239 => ?_)
  · have c1239_ : x1227.toInt ≥ 100 := en_i_ge_t c1239
    refine At.enter rfl ?_
    refine r_vret ?_
    exact ⟨_, rfl, hI1229, hF1230, rfl⟩
  · have c1239_ : x1227.toInt < 100 := en_i_ge_f c1239
    refine At.enter rfl ?_
    refine r_aload_n e1234 ?_
    refine r_iload_n e1235 ?_
    refine r_callV 17 rfl [.ref 188, .int x1227] [] (Nat.le_of_ble_eq_true rfl) rfl (T_X1_arrive_188 _ hI1229 x1227) ?_
    rintro _ _ ⟨g1240, rfl, hI1241, hF1242, rfl⟩
    refine At.stn ?_
    have hF1245 := Fr.tr hF1230 hF1242 rfl rfl
    refine At.enter rfl ?_
    refine r_aload_n e1234 ?_
    refine r_iload_n e1235 ?_
    refine r_callV 22 rfl [.ref 188, .int x1227] [] (Nat.le_of_ble_eq_true rfl) rfl (T_X1_lineUp_188 _ hI1241 x1227) ?_
    rintro _ _ ⟨g1246, rfl, hI1247, hF1248, rfl⟩
    refine At.stn ?_
    have hF1251 := Fr.tr hF1245 hF1248 rfl rfl
    refine At.enter rfl ?_
    refine r_aload_n e1234 ?_
    refine r_iload_n e1235 ?_
    refine r_callV 27 rfl [.ref 188, .int x1227] [] (Nat.le_of_ble_eq_true rfl) rfl (T_X1_goOn_188 _ hI1247 x1227) ?_
    rintro _ _ ⟨g1252, rfl, hI1253, hF1254, rfl⟩
    refine At.stn ?_
    have hF1257 := Fr.tr hF1251 hF1254 rfl rfl
    refine At.enter rfl ?_
    refine r_aload_n e1234 ?_
    refine q_getR (Sh.ref hI1253.1 kx_188 rfl) ?_
    refine r_iconst 0 rfl ?_
    refine r_aload_n e1234 ?_
    refine q_getR (Sh.ref hI1253.1 kx_188 rfl) ?_
    refine r_iload_n e1235 ?_
    refine r_bipush 8 rfl ?_
    refine q_imul (x1227.toInt * 8) rfl (by omega) (fun v1258 hv1258 => ?_)
    refine r_bipush 8 rfl ?_
    have zv1259 : (0 : Int32).toInt = 0 := rfl
    have zv1260 : (8 : Int32).toInt = 8 := rfl
    refine q_cpy rfl (Nat.le_of_ble_eq_true rfl) (Sh.arr hI1253.1 ka_195) (Sh.arr hI1253.1 ka_203) ⟨by omega, by omega, by omega, by omega, by omega⟩ ?_
    have hI1261 := HI.cpy0 hI1253 ka_195 ka_203 rfl rfl ((0 : Int32).toInt.toNat) ((v1258 : Int32).toInt.toNat) ((8 : Int32).toInt.toNat) (by omega) (by omega)
    have hF1262 := Fr.cpy (p0 := 195) (p1 := 203) hF1257 rfl ((0 : Int32).toInt.toNat) ((v1258 : Int32).toInt.toNat) ((8 : Int32).toInt.toNat)
    refine q_iinc e1235 (x1227.toInt + 1) rfl (by omega) (fun v1263 hv1263 => ?_)
    refine r_goto ?_
    exact ih1233 (100 - v1263.toInt) _ _ ⟨v1263, by first | rfl | omega, hI1261, hF1262, (w_p1 (by decide) (Or.inr rfl) e1234), (w_e1 _ _ _), by omega⟩ ⟨by omega, by omega⟩
