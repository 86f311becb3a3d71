def F_X3_worth_185 : List (Nat × Nat) := [(185, 3)]
def A_X3_worth_185 : List Nat := []
set_option maxRecDepth 100000 in
set_option maxHeartbeats 4000000 in
theorem T_X3_worth_185 (d : Nat) {N : Nat} {g0 : List en_E} (hI0 : HI g0) (q1 : Nat) (hq1 : Lw q1) (a2 : Int32) (a3 : Int32) : Ev (d + 2) 53 [.ref 185, .ref (q1), .int a2, .int a3] (g0, N) (fun w h' => ∃ g', h' = (g', N) ∧ HI g' ∧ Fr F_X3_worth_185 A_X3_worth_185 g0 g' ∧ ∃ r : Int64, w = some (.long r) ∧ True ∧ WRS g0 g' q1 a2.toInt a3.toInt r.toInt) := by
  have hF0 : Fr F_X3_worth_185 A_X3_worth_185 g0 g0 := Fr.rf
  refine Ev.mk rfl rfl ⟨Nat.le_of_ble_eq_true rfl, Or.inr (q_rc hI0.1 kx_185 rfl)⟩ ?_
  show At _ none _ _ (0, [(0, .ref 185), (1, .ref (q1)), (2, .int a2), (3, .int a3)], [], (_, _)) _
  refine At.enter rfl ?_
  refine r_aload_n rfl ?_
  refine r_iconst 0 rfl ?_
  refine q_putI (Sh.int hI0.1 kx_185 rfl) rfl ?_
  have hI3401 := HI.wI0 hI0 kx_185 rfl (p := 185) (b := 3) (v := 0) rfl
  have hF3402 := Fr.wI (p := 185) (b := 3) (v := 0) hF0 rfl
  refine r_iload_n rfl ?_
  refine r_sipush 400 rfl ?_
  refine q_mmin rfl (Nat.le_of_ble_eq_true rfl) (fun v3403 hv3403 => ?_)
  have zv3404 : (400 : Int32).toInt = 400 := rfl
  refine r_istore ([(4, .int v3403), (0, .ref 185), (1, .ref (q1)), (2, .int a2), (3, .int a3)]) rfl ?_
  refine r_iconst 0 rfl ?_
  refine r_iload_n rfl ?_
  refine q_mmax rfl (Nat.le_of_ble_eq_true rfl) (fun v3405 hv3405 => ?_)
  have zv3406 : (0 : Int32).toInt = 0 := rfl
  refine r_istore ([(5, .int v3405), (4, .int v3403), (0, .ref 185), (1, .ref (q1)), (2, .int a2), (3, .int a3)]) rfl ?_
  refine r_iconst 0 rfl ?_
  refine r_istore ([(6, .int 0), (5, .int v3405), (4, .int v3403), (0, .ref 185), (1, .ref (q1)), (2, .int a2), (3, .int a3)]) rfl ?_
  refine r_iconst 0 rfl ?_
  refine r_istore ([(7, .int 0), (6, .int 0), (5, .int v3405), (4, .int v3403), (0, .ref 185), (1, .ref (q1)), (2, .int a2), (3, .int a3)]) rfl ?_
  refine Ar.fall 27 rfl ?_
  have z_4998 : (0 : Int32).toInt = 0 := rfl
  have z_4999 : (0 : Int32).toInt = 0 := rfl
  refine w_loopI (fun n_ l_ g_ => ∃ x4977 : Int32, ∃ x4978 : Int32, ∃ x4979 : Int32, n_ = 400 - x4979.toInt ∧ HI g_ ∧ Fr F_X3_worth_185 A_X3_worth_185 g0 g_ ∧ en_get 0 l_ = some (.ref 185) ∧ en_get 1 l_ = some (.ref (q1)) ∧ en_get 2 l_ = some (.int a2) ∧ en_get 3 l_ = some (.int a3) ∧ en_get 4 l_ = some (.int v3403) ∧ en_get 5 l_ = some (.int x4977) ∧ en_get 6 l_ = some (.int x4978) ∧ en_get 7 l_ = some (.int x4979) ∧ 0 ≤ x4977.toInt ∧ (0 ≤ x4978.toInt ∧ x4978.toInt ≤ 64) ∧ (0 ≤ x4979.toInt ∧ x4979.toInt ≤ 400) ∧ (WQX g0 g_ q1 a2.toInt a3.toInt x4977.toInt x4978.toInt x4979.toInt)) ?_ (400 - 0) ⟨v3405, 0, 0, by first | rfl | omega, hI3401, hF3402, rfl, rfl, rfl, rfl, rfl, rfl, rfl, rfl, by omega, by decide, by decide, (WQX_z gK_sI ((congrArg Int32.toInt ((gI_sI_eq hI0.1 kx_185 rfl _))).trans rfl) (fun z => by omega) rfl rfl)⟩
  rintro n4984 l4983 g4980 ⟨x4977, x4978, x4979, hm5000, hI4981, hF4982, e4986, e4987, e4988, e4989, e4990, e4991, e4992, e4993, r4994, r4995, r4996, q4997⟩ ih4985
  refine At.enter rfl ?_
  refine r_iload e4993 ?_
  refine r_sipush 400 rfl ?_
  refine r_ics 35 rfl (fun c5001 => ?_) (fun c5001 => ?_)
  · have c5001_ : x4979.toInt ≥ 400 := en_i_ge_t c5001
    refine At.enter rfl ?_
    refine r_aload_n e4986 ?_
    refine q_getR (Sh.ref hI4981.1 kx_185 rfl) ?_
    refine r_iconst 0 rfl ?_
    refine q_laldE (Sh.lar hI4981.1 ka_187) (0) rfl (by decide) (fun v5002 hv5002 => ?_)
    refine r_lret ?_
    exact ⟨_, rfl, hI4981, hF4982, _, rfl, trivial, (by first | exact WQX_out q4997 (Or.inl (by omega)) hv5002 | exact WQX_out q4997 (Or.inr (Or.inl (fun z => by omega))) hv5002)⟩
  · have c5001_ : x4979.toInt < 400 := en_i_ge_f c5001
    refine At.enter rfl ?_
    refine r_iload e4991 ?_
    refine r_iload e4990 ?_
    have bv5004 := q_bnd x4977
    have bv5005 := q_bnd v3403
    refine r_ics 42 rfl (fun c5003 => ?_) (fun c5003 => ?_)
    · have c5003_ : x4977.toInt ≥ v3403.toInt := en_i_ge_t c5003
      refine At.enter rfl ?_
      refine r_aload_n e4986 ?_
      refine q_getR (Sh.ref hI4981.1 kx_185 rfl) ?_
      refine r_iconst 0 rfl ?_
      refine q_laldE (Sh.lar hI4981.1 ka_187) (0) rfl (by decide) (fun v5006 hv5006 => ?_)
      refine r_lret ?_
      exact ⟨_, rfl, hI4981, hF4982, _, rfl, trivial, (by first | exact WQX_out q4997 (Or.inl (by omega)) hv5006 | exact WQX_out q4997 (Or.inr (Or.inl (fun z => by omega))) hv5006)⟩
    · have c5003_ : x4977.toInt < v3403.toInt := en_i_ge_f c5003
      refine At.enter rfl ?_
      refine r_aload_n e4986 ?_
      obtain ⟨v5007, hv5007⟩ : ∃ v, gI g4980 185 3 = v := ⟨_, rfl⟩
      refine q_getI (Sh.int hI4981.1 kx_185 rfl) v5007 hv5007 ?_
      refine r_ifs 49 rfl (fun c5008 => ?_) (fun c5008 => ?_)
      · have c5008_ : v5007.toInt ≠ 0 := en_k_ne_t c5008
        refine At.enter rfl ?_
        refine r_aload_n e4986 ?_
        refine q_getR (Sh.ref hI4981.1 kx_185 rfl) ?_
        refine r_iconst 0 rfl ?_
        refine q_laldE (Sh.lar hI4981.1 ka_187) (0) rfl (by decide) (fun v5009 hv5009 => ?_)
        refine r_lret ?_
        exact ⟨_, rfl, hI4981, hF4982, _, rfl, trivial, (by first | exact WQX_out q4997 (Or.inl (by omega)) hv5009 | exact WQX_out q4997 (Or.inr (Or.inl (fun z => by omega))) hv5009 | exact WQX_out q4997 (Or.inr (Or.inr (fun z => by rw [hv5007] at z; omega))) hv5009)⟩
      · have c5008_ : v5007.toInt = 0 := en_k_ne_f c5008
        refine At.enter rfl ?_
        refine r_aload_n e4987 ?_
        refine q_getR (Sh.ref hI4981.1 (Lw.ko hq1) rfl) ?_
        refine r_iload e4991 ?_
        refine q_iald' (Sh.arr hI4981.1 (Lw.k1 hq1)) x4977.toInt rfl (by omega) (fun v5010 hv5010 => ?_)
        refine r_istore _ rfl ?_
        refine r_aload_n (w_p1 (by decide) (Or.inr rfl) e4987) ?_
        refine q_getR (Sh.ref hI4981.1 (Lw.ko hq1) rfl) ?_
        refine r_iload (w_p1 (by decide) (Or.inr rfl) e4991) ?_
        refine q_iald' (Sh.arr hI4981.1 (Lw.k2 hq1)) x4977.toInt rfl (by omega) (fun v5011 hv5011 => ?_)
        refine r_istore _ rfl ?_
        refine q_iinc (w_p1 (by decide) (Or.inr rfl) (w_p1 (by decide) (Or.inr rfl) e4991)) (x4977.toInt + 1) rfl (by omega) (fun v5012 hv5012 => ?_)
        refine r_iload (w_p1 (by decide) (Or.inr rfl) (w_p1 (by decide) (Or.inr rfl) (w_e1 _ _ _))) ?_
        refine r_ifs 75 rfl (fun c5013 => ?_) (fun c5013 => ?_)
        · have c5013_ : v5010.toInt = 0 := en_k_eq_t c5013
          refine At.enter rfl ?_
          refine r_iload (w_p1 (by decide) (Or.inr rfl) (w_p1 (by decide) (Or.inr rfl) (w_p1 (by decide) (Or.inr rfl) e4992))) ?_
          refine r_bipush 64 rfl ?_
          refine r_ics 88 rfl (fun c5014 => ?_) (fun c5014 => ?_)
          · have c5014_ : x4978.toInt ≥ 64 := en_i_ge_t c5014
            refine At.enter rfl ?_
            refine q_iinc (w_p1 (by decide) (Or.inr rfl) (w_p1 (by decide) (Or.inr rfl) (w_p1 (by decide) (Or.inr rfl) e4993))) (x4979.toInt + 1) rfl (by omega) (fun v5015 hv5015 => ?_)
            refine r_goto ?_
            have bv5016 := q_bnd v5011
            have bv5017 := q_bnd v5012
            exact ih4985 (400 - v5015.toInt) _ _ ⟨v5012, x4978, v5015, by first | rfl | omega, hI4981, hF4982, (w_p1 (by decide) (Or.inr rfl) (w_p1 (by decide) (Or.inr rfl) (w_p1 (by decide) (Or.inr rfl) (w_p1 (by decide) (Or.inr rfl) e4986)))), (w_p1 (by decide) (Or.inr rfl) (w_p1 (by decide) (Or.inr rfl) (w_p1 (by decide) (Or.inr rfl) (w_p1 (by decide) (Or.inr rfl) e4987)))), (w_p1 (by decide) (Or.inr rfl) (w_p1 (by decide) (Or.inr rfl) (w_p1 (by decide) (Or.inr rfl) (w_p1 (by decide) (Or.inr rfl) e4988)))), (w_p1 (by decide) (Or.inr rfl) (w_p1 (by decide) (Or.inr rfl) (w_p1 (by decide) (Or.inr rfl) (w_p1 (by decide) (Or.inr rfl) e4989)))), (w_p1 (by decide) (Or.inr rfl) (w_p1 (by decide) (Or.inr rfl) (w_p1 (by decide) (Or.inr rfl) (w_p1 (by decide) (Or.inr rfl) e4990)))), (w_p1 (by decide) (Or.inr rfl) (w_e1 _ _ _)), (w_p1 (by decide) (Or.inr rfl) (w_p1 (by decide) (Or.inr rfl) (w_p1 (by decide) (Or.inr rfl) (w_p1 (by decide) (Or.inr rfl) e4992)))), (w_e1 _ _ _), by omega, by omega, by omega, (WQX_no q4997 rfl (fun L => by first | exact WQX_d0 q4997 ((congrArg Int32.toInt hv5007).trans (by omega)) (fun z => by omega) (congrArg Int32.toInt ((eA_c (hF4982.2.1 _ rfl)).symm.trans hv5010)) (congrArg Int32.toInt ((eA_c (hF4982.2.1 _ rfl)).symm.trans hv5011)) (by omega) (by omega) L | exact WQX_d9 q4997 ((congrArg Int32.toInt hv5007).trans (by omega)) (fun z => by omega) (congrArg Int32.toInt ((eA_c (hF4982.2.1 _ rfl)).symm.trans hv5010)) (congrArg Int32.toInt ((eA_c (hF4982.2.1 _ rfl)).symm.trans hv5011)) (by omega) (by omega) L | exact WQX_d2 q4997 ((congrArg Int32.toInt hv5007).trans (by omega)) (fun z => by omega) (congrArg Int32.toInt ((eA_c (hF4982.2.1 _ rfl)).symm.trans hv5010)) (congrArg Int32.toInt ((eA_c (hF4982.2.1 _ rfl)).symm.trans hv5011)) (fun z => by omega) (by omega) L))⟩ ⟨by omega, by omega⟩
          · have c5014_ : x4978.toInt < 64 := en_i_ge_f c5014
            refine At.enter rfl ?_
            refine r_aload_n (w_p1 (by decide) (Or.inr rfl) (w_p1 (by decide) (Or.inr rfl) (w_p1 (by decide) (Or.inr rfl) e4986))) ?_
            refine q_getR (Sh.ref hI4981.1 kx_185 rfl) ?_
            refine r_iload (w_p1 (by decide) (Or.inr rfl) (w_p1 (by decide) (Or.inr rfl) (w_p1 (by decide) (Or.inr rfl) e4992))) ?_
            refine r_iload (w_p1 (by decide) (Or.inr rfl) (w_p1 (by decide) (Or.inr rfl) (w_e1 _ _ _))) ?_
            refine r_ifs 99 rfl (fun c5018 => ?_) (fun c5018 => ?_)
            · have c5018_ : v5010.toInt ≠ 0 := en_k_ne_t c5018
              exfalso; omega
            · have c5018_ : v5010.toInt = 0 := en_k_ne_f c5018
              refine At.enter rfl ?_
              refine r_iload (w_p1 (by decide) (Or.inr rfl) (w_e1 _ _ _)) ?_
              refine q_i2l (fun v5019 hv5019 => ?_)
              refine r_goto ?_
              refine At.enter rfl ?_
              refine q_last (Sh.lar hI4981.1 ka_187) (x4978.toInt) rfl (by omega) ?_
              have hI5020 := HI.wK hI4981 ka_187 (x4978.toInt) (v5019) (by decide)
              have hF5021 := Fr.wK (p := 187) (j := x4978.toInt) (v := v5019) hF4982
              refine q_iinc (w_p1 (by decide) (Or.inr rfl) (w_p1 (by decide) (Or.inr rfl) (w_p1 (by decide) (Or.inr rfl) e4992))) (x4978.toInt + 1) rfl (by omega) (fun v5022 hv5022 => ?_)
              refine r_goto ?_
              refine At.enter rfl ?_
              refine q_iinc (w_p1 (by decide) (Or.inr rfl) (w_p1 (by decide) (Or.inr rfl) (w_p1 (by decide) (Or.inr rfl) (w_p1 (by decide) (Or.inr rfl) e4993)))) (x4979.toInt + 1) rfl (by omega) (fun v5023 hv5023 => ?_)
              refine r_goto ?_
              have bv5024 := q_bnd v5011
              have bv5025 := q_bnd v5012
              exact ih4985 (400 - v5023.toInt) _ _ ⟨v5012, v5022, v5023, by first | rfl | omega, hI5020, hF5021, (w_p1 (by decide) (Or.inr rfl) (w_p1 (by decide) (Or.inr rfl) (w_p1 (by decide) (Or.inr rfl) (w_p1 (by decide) (Or.inr rfl) (w_p1 (by decide) (Or.inr rfl) e4986))))), (w_p1 (by decide) (Or.inr rfl) (w_p1 (by decide) (Or.inr rfl) (w_p1 (by decide) (Or.inr rfl) (w_p1 (by decide) (Or.inr rfl) (w_p1 (by decide) (Or.inr rfl) e4987))))), (w_p1 (by decide) (Or.inr rfl) (w_p1 (by decide) (Or.inr rfl) (w_p1 (by decide) (Or.inr rfl) (w_p1 (by decide) (Or.inr rfl) (w_p1 (by decide) (Or.inr rfl) e4988))))), (w_p1 (by decide) (Or.inr rfl) (w_p1 (by decide) (Or.inr rfl) (w_p1 (by decide) (Or.inr rfl) (w_p1 (by decide) (Or.inr rfl) (w_p1 (by decide) (Or.inr rfl) e4989))))), (w_p1 (by decide) (Or.inr rfl) (w_p1 (by decide) (Or.inr rfl) (w_p1 (by decide) (Or.inr rfl) (w_p1 (by decide) (Or.inr rfl) (w_p1 (by decide) (Or.inr rfl) e4990))))), (w_p1 (by decide) (Or.inr rfl) (w_p1 (by decide) (Or.inr rfl) (w_e1 _ _ _))), (w_p1 (by decide) (Or.inr rfl) (w_e1 _ _ _)), (w_e1 _ _ _), by omega, by omega, by omega, (by first | exact WQX_num q4997 ((congrArg Int32.toInt hv5007).trans (by omega)) (fun z => by omega) (congrArg Int32.toInt ((eA_c (hF4982.2.1 _ rfl)).symm.trans hv5010)) (by omega) (congrArg Int32.toInt ((eA_c (hF4982.2.1 _ rfl)).symm.trans hv5011)) (KWR_mk hI4981.1 ka_187 (by omega) (by omega)) (gK_sX_ne (by decide)) ((congrArg Int32.toInt (((gI_sX).trans hv5007))).trans (by omega)) (by omega) (by omega) ⟨by omega, by omega⟩ (by omega) (by omega) (by omega) | exact WQX_no q4997 (gK_sX_ne (by decide)) (fun L => by have z := WQX_vv q4997 ((congrArg Int32.toInt hv5007).trans (by omega)) (fun z => by omega) (congrArg Int32.toInt ((eA_c (hF4982.2.1 _ rfl)).symm.trans hv5010)) (by omega) (congrArg Int32.toInt ((eA_c (hF4982.2.1 _ rfl)).symm.trans hv5011)) L; omega))⟩ ⟨by omega, by omega⟩
        · have c5013_ : v5010.toInt ≠ 0 := en_k_eq_f c5013
          refine At.enter rfl ?_
          refine r_iload (w_p1 (by decide) (Or.inr rfl) (w_p1 (by decide) (Or.inr rfl) (w_e1 _ _ _))) ?_
          refine r_iconst 1 rfl ?_
          refine r_ics 81 rfl (fun c5026 => ?_) (fun c5026 => ?_)
          · have c5026_ : v5010.toInt ≠ 1 := en_i_ne_t c5026
            refine At.enter rfl ?_
            refine r_iload (w_p1 (by decide) (Or.inr rfl) (w_p1 (by decide) (Or.inr rfl) (w_e1 _ _ _))) ?_
            refine r_bipush 9 rfl ?_
            refine r_ics 142 rfl (fun c5027 => ?_) (fun c5027 => ?_)
            · have c5027_ : v5010.toInt ≠ 9 := en_i_ne_t c5027
              refine At.enter rfl ?_
              refine r_iload (w_p1 (by decide) (Or.inr rfl) (w_p1 (by decide) (Or.inr rfl) (w_e1 _ _ _))) ?_
              refine r_bipush 10 rfl ?_
              refine r_ics 177 rfl (fun c5028 => ?_) (fun c5028 => ?_)
              · have c5028_ : v5010.toInt = 10 := en_i_eq_t c5028
                refine At.enter rfl ?_
                refine r_iload (w_p1 (by decide) (Or.inr rfl) (w_p1 (by decide) (Or.inr rfl) (w_p1 (by decide) (Or.inr rfl) e4992))) ?_
                refine r_ifs 189 rfl (fun c5029 => ?_) (fun c5029 => ?_)
                · have c5029_ : x4978.toInt ≤ 0 := en_k_le_t c5029
                  refine At.enter rfl ?_
                  refine r_iconst 0 rfl ?_
                  refine r_iload (w_p1 (by decide) (Or.inr rfl) (w_p1 (by decide) (Or.inr rfl) (w_p1 (by decide) (Or.inr rfl) e4992))) ?_
                  refine r_iconst 1 rfl ?_
                  refine q_isub (x4978.toInt - 1) rfl (by omega) (fun v5030 hv5030 => ?_)
                  refine q_mmax rfl (Nat.le_of_ble_eq_true rfl) (fun v5031 hv5031 => ?_)
                  have zv5032 : (0 : Int32).toInt = 0 := rfl
                  refine r_istore _ rfl ?_
                  refine r_goto ?_
                  refine At.enter rfl ?_
                  refine q_iinc (w_p1 (by decide) (Or.inr rfl) (w_p1 (by decide) (Or.inr rfl) (w_p1 (by decide) (Or.inr rfl) (w_p1 (by decide) (Or.inr rfl) e4993)))) (x4979.toInt + 1) rfl (by omega) (fun v5033 hv5033 => ?_)
                  refine r_goto ?_
                  have bv5034 := q_bnd v5011
                  have bv5035 := q_bnd v5012
                  exact ih4985 (400 - v5033.toInt) _ _ ⟨v5012, v5031, v5033, by first | rfl | omega, hI4981, hF4982, (w_p1 (by decide) (Or.inr rfl) (w_p1 (by decide) (Or.inr rfl) (w_p1 (by decide) (Or.inr rfl) (w_p1 (by decide) (Or.inr rfl) (w_p1 (by decide) (Or.inr rfl) e4986))))), (w_p1 (by decide) (Or.inr rfl) (w_p1 (by decide) (Or.inr rfl) (w_p1 (by decide) (Or.inr rfl) (w_p1 (by decide) (Or.inr rfl) (w_p1 (by decide) (Or.inr rfl) e4987))))), (w_p1 (by decide) (Or.inr rfl) (w_p1 (by decide) (Or.inr rfl) (w_p1 (by decide) (Or.inr rfl) (w_p1 (by decide) (Or.inr rfl) (w_p1 (by decide) (Or.inr rfl) e4988))))), (w_p1 (by decide) (Or.inr rfl) (w_p1 (by decide) (Or.inr rfl) (w_p1 (by decide) (Or.inr rfl) (w_p1 (by decide) (Or.inr rfl) (w_p1 (by decide) (Or.inr rfl) e4989))))), (w_p1 (by decide) (Or.inr rfl) (w_p1 (by decide) (Or.inr rfl) (w_p1 (by decide) (Or.inr rfl) (w_p1 (by decide) (Or.inr rfl) (w_p1 (by decide) (Or.inr rfl) e4990))))), (w_p1 (by decide) (Or.inr rfl) (w_p1 (by decide) (Or.inr rfl) (w_e1 _ _ _))), (w_p1 (by decide) (Or.inr rfl) (w_e1 _ _ _)), (w_e1 _ _ _), by omega, by omega, by omega, (WQX_no q4997 rfl (fun L => by first | exact WQX_d0 q4997 ((congrArg Int32.toInt hv5007).trans (by omega)) (fun z => by omega) (congrArg Int32.toInt ((eA_c (hF4982.2.1 _ rfl)).symm.trans hv5010)) (congrArg Int32.toInt ((eA_c (hF4982.2.1 _ rfl)).symm.trans hv5011)) (by omega) (by omega) L | exact WQX_d9 q4997 ((congrArg Int32.toInt hv5007).trans (by omega)) (fun z => by omega) (congrArg Int32.toInt ((eA_c (hF4982.2.1 _ rfl)).symm.trans hv5010)) (congrArg Int32.toInt ((eA_c (hF4982.2.1 _ rfl)).symm.trans hv5011)) (by omega) (by omega) L | exact WQX_d2 q4997 ((congrArg Int32.toInt hv5007).trans (by omega)) (fun z => by omega) (congrArg Int32.toInt ((eA_c (hF4982.2.1 _ rfl)).symm.trans hv5010)) (congrArg Int32.toInt ((eA_c (hF4982.2.1 _ rfl)).symm.trans hv5011)) (fun z => by omega) (by omega) L))⟩ ⟨by omega, by omega⟩
                · have c5029_ : x4978.toInt > 0 := en_k_le_f c5029
                  refine At.enter rfl ?_
                  refine r_aload_n (w_p1 (by decide) (Or.inr rfl) (w_p1 (by decide) (Or.inr rfl) (w_p1 (by decide) (Or.inr rfl) e4986))) ?_
                  refine q_getR (Sh.ref hI4981.1 kx_185 rfl) ?_
                  refine r_iload (w_p1 (by decide) (Or.inr rfl) (w_p1 (by decide) (Or.inr rfl) (w_p1 (by decide) (Or.inr rfl) e4992))) ?_
                  refine r_iconst 1 rfl ?_
                  refine q_isub (x4978.toInt - 1) rfl (by omega) (fun v5036 hv5036 => ?_)
                  refine q_laldE (Sh.lar hI4981.1 ka_187) ((x4978.toInt + (-1))) (by omega) (by omega) (fun v5037 hv5037 => ?_)
                  refine r_lconst 0 rfl ?_
                  refine r_lcmp _ rfl ?_
                  refine r_ifs 203 rfl (fun c5038 => ?_) (fun c5038 => ?_)
                  · have c5038_ : v5037.toInt = 0 := en_j_eq_t c5038
                    refine At.enter rfl ?_
                    refine r_iconst 0 rfl ?_
                    refine Ar.fall 208 rfl ?_
                    refine At.enter rfl ?_
                    refine r_iload (w_p1 (by decide) (Or.inr rfl) (w_p1 (by decide) (Or.inr rfl) (w_e1 _ _ _))) ?_
                    refine r_bipush 11 rfl ?_
                    refine r_ics 215 rfl (fun c5039 => ?_) (fun c5039 => ?_)
                    · have c5039_ : v5010.toInt ≠ 11 := en_i_ne_t c5039
                      refine At.enter rfl ?_
                      refine r_iconst 0 rfl ?_
                      refine Ar.fall 220 rfl ?_
                      refine At.enter rfl ?_
                      refine r_icf 223 rfl (by decide) ?_
                      refine At.enter rfl ?_
                      refine r_iload (w_e1 _ _ _) ?_
                      refine r_iload (w_p1 (by decide) (Or.inr rfl) (w_e1 _ _ _)) ?_
                      refine q_mmax rfl (Nat.le_of_ble_eq_true rfl) (fun v5040 hv5040 => ?_)
                      refine r_istore _ rfl ?_
                      refine r_goto ?_
                      refine At.enter rfl ?_
                      refine q_iinc (w_p1 (by decide) (Or.inr rfl) (w_p1 (by decide) (Or.inr rfl) (w_p1 (by decide) (Or.inr rfl) (w_p1 (by decide) (Or.inr rfl) e4993)))) (x4979.toInt + 1) rfl (by omega) (fun v5041 hv5041 => ?_)
                      refine r_goto ?_
                      have bv5042 := q_bnd v5011
                      have bv5043 := q_bnd v5040
                      exact ih4985 (400 - v5041.toInt) _ _ ⟨v5040, x4978, v5041, by first | rfl | omega, hI4981, hF4982, (w_p1 (by decide) (Or.inr rfl) (w_p1 (by decide) (Or.inr rfl) (w_p1 (by decide) (Or.inr rfl) (w_p1 (by decide) (Or.inr rfl) (w_p1 (by decide) (Or.inr rfl) e4986))))), (w_p1 (by decide) (Or.inr rfl) (w_p1 (by decide) (Or.inr rfl) (w_p1 (by decide) (Or.inr rfl) (w_p1 (by decide) (Or.inr rfl) (w_p1 (by decide) (Or.inr rfl) e4987))))), (w_p1 (by decide) (Or.inr rfl) (w_p1 (by decide) (Or.inr rfl) (w_p1 (by decide) (Or.inr rfl) (w_p1 (by decide) (Or.inr rfl) (w_p1 (by decide) (Or.inr rfl) e4988))))), (w_p1 (by decide) (Or.inr rfl) (w_p1 (by decide) (Or.inr rfl) (w_p1 (by decide) (Or.inr rfl) (w_p1 (by decide) (Or.inr rfl) (w_p1 (by decide) (Or.inr rfl) e4989))))), (w_p1 (by decide) (Or.inr rfl) (w_p1 (by decide) (Or.inr rfl) (w_p1 (by decide) (Or.inr rfl) (w_p1 (by decide) (Or.inr rfl) (w_p1 (by decide) (Or.inr rfl) e4990))))), (w_p1 (by decide) (Or.inr rfl) (w_e1 _ _ _)), (w_p1 (by decide) (Or.inr rfl) (w_p1 (by decide) (Or.inr rfl) (w_p1 (by decide) (Or.inr rfl) (w_p1 (by decide) (Or.inr rfl) (w_p1 (by decide) (Or.inr rfl) e4992))))), (w_e1 _ _ _), by omega, by omega, by omega, (WQX_jmp (x := v5037) q4997 ((congrArg Int32.toInt hv5007).trans (by omega)) (fun z => by omega) (congrArg Int32.toInt ((eA_c (hF4982.2.1 _ rfl)).symm.trans hv5010)) (congrArg Int32.toInt ((eA_c (hF4982.2.1 _ rfl)).symm.trans hv5011)) (by rw [show x4978.toInt - 1 = (x4978.toInt + (-1)) from by omega]; exact hv5037) (by omega) (fun z => by omega) rfl (by omega))⟩ ⟨by omega, by omega⟩
                    · have c5039_ : v5010.toInt = 11 := en_i_ne_f c5039
                      exfalso; omega
                  · have c5038_ : v5037.toInt ≠ 0 := en_j_eq_f c5038
                    refine At.enter rfl ?_
                    refine r_iconst 1 rfl ?_
                    refine r_goto ?_
                    refine At.enter rfl ?_
                    refine r_iload (w_p1 (by decide) (Or.inr rfl) (w_p1 (by decide) (Or.inr rfl) (w_e1 _ _ _))) ?_
                    refine r_bipush 11 rfl ?_
                    refine r_ics 215 rfl (fun c5044 => ?_) (fun c5044 => ?_)
                    · have c5044_ : v5010.toInt ≠ 11 := en_i_ne_t c5044
                      refine At.enter rfl ?_
                      refine r_iconst 0 rfl ?_
                      refine Ar.fall 220 rfl ?_
                      refine At.enter rfl ?_
                      refine r_ict (by decide) ?_
                      refine At.enter rfl ?_
                      refine r_iconst 0 rfl ?_
                      refine r_iload (w_p1 (by decide) (Or.inr rfl) (w_p1 (by decide) (Or.inr rfl) (w_p1 (by decide) (Or.inr rfl) e4992))) ?_
                      refine r_iconst 1 rfl ?_
                      refine q_isub (x4978.toInt - 1) rfl (by omega) (fun v5045 hv5045 => ?_)
                      refine q_mmax rfl (Nat.le_of_ble_eq_true rfl) (fun v5046 hv5046 => ?_)
                      have zv5047 : (0 : Int32).toInt = 0 := rfl
                      refine r_istore _ rfl ?_
                      refine r_goto ?_
                      refine At.enter rfl ?_
                      refine q_iinc (w_p1 (by decide) (Or.inr rfl) (w_p1 (by decide) (Or.inr rfl) (w_p1 (by decide) (Or.inr rfl) (w_p1 (by decide) (Or.inr rfl) e4993)))) (x4979.toInt + 1) rfl (by omega) (fun v5048 hv5048 => ?_)
                      refine r_goto ?_
                      have bv5049 := q_bnd v5011
                      have bv5050 := q_bnd v5012
                      exact ih4985 (400 - v5048.toInt) _ _ ⟨v5012, v5046, v5048, by first | rfl | omega, hI4981, hF4982, (w_p1 (by decide) (Or.inr rfl) (w_p1 (by decide) (Or.inr rfl) (w_p1 (by decide) (Or.inr rfl) (w_p1 (by decide) (Or.inr rfl) (w_p1 (by decide) (Or.inr rfl) e4986))))), (w_p1 (by decide) (Or.inr rfl) (w_p1 (by decide) (Or.inr rfl) (w_p1 (by decide) (Or.inr rfl) (w_p1 (by decide) (Or.inr rfl) (w_p1 (by decide) (Or.inr rfl) e4987))))), (w_p1 (by decide) (Or.inr rfl) (w_p1 (by decide) (Or.inr rfl) (w_p1 (by decide) (Or.inr rfl) (w_p1 (by decide) (Or.inr rfl) (w_p1 (by decide) (Or.inr rfl) e4988))))), (w_p1 (by decide) (Or.inr rfl) (w_p1 (by decide) (Or.inr rfl) (w_p1 (by decide) (Or.inr rfl) (w_p1 (by decide) (Or.inr rfl) (w_p1 (by decide) (Or.inr rfl) e4989))))), (w_p1 (by decide) (Or.inr rfl) (w_p1 (by decide) (Or.inr rfl) (w_p1 (by decide) (Or.inr rfl) (w_p1 (by decide) (Or.inr rfl) (w_p1 (by decide) (Or.inr rfl) e4990))))), (w_p1 (by decide) (Or.inr rfl) (w_p1 (by decide) (Or.inr rfl) (w_e1 _ _ _))), (w_p1 (by decide) (Or.inr rfl) (w_e1 _ _ _)), (w_e1 _ _ _), by omega, by omega, by omega, (WQX_pop (x := v5037) q4997 ((congrArg Int32.toInt hv5007).trans (by omega)) (fun z => by omega) (congrArg Int32.toInt ((eA_c (hF4982.2.1 _ rfl)).symm.trans hv5010)) (by rw [show x4978.toInt - 1 = (x4978.toInt + (-1)) from by omega]; exact hv5037) (by omega) (by omega) (fun z => by omega) (by omega))⟩ ⟨by omega, by omega⟩
                    · have c5044_ : v5010.toInt = 11 := en_i_ne_f c5044
                      exfalso; omega
              · have c5028_ : v5010.toInt ≠ 10 := en_i_eq_f c5028
                refine At.enter rfl ?_
                refine r_iload (w_p1 (by decide) (Or.inr rfl) (w_p1 (by decide) (Or.inr rfl) (w_e1 _ _ _))) ?_
                refine r_bipush 11 rfl ?_
                refine r_ics 184 rfl (fun c5051 => ?_) (fun c5051 => ?_)
                · have c5051_ : v5010.toInt ≠ 11 := en_i_ne_t c5051
                  refine At.enter rfl ?_
                  refine r_iload (w_p1 (by decide) (Or.inr rfl) (w_p1 (by decide) (Or.inr rfl) (w_p1 (by decide) (Or.inr rfl) e4992))) ?_
                  refine r_iconst 1 rfl ?_
                  refine r_ics 254 rfl (fun c5052 => ?_) (fun c5052 => ?_)
                  · have c5052_ : x4978.toInt ≤ 1 := en_i_le_t c5052
                    refine At.enter rfl ?_
                    refine q_iinc (w_p1 (by decide) (Or.inr rfl) (w_p1 (by decide) (Or.inr rfl) (w_p1 (by decide) (Or.inr rfl) e4993))) (x4979.toInt + 1) rfl (by omega) (fun v5053 hv5053 => ?_)
                    refine r_goto ?_
                    have bv5054 := q_bnd v5011
                    have bv5055 := q_bnd v5012
                    exact ih4985 (400 - v5053.toInt) _ _ ⟨v5012, x4978, v5053, by first | rfl | omega, hI4981, hF4982, (w_p1 (by decide) (Or.inr rfl) (w_p1 (by decide) (Or.inr rfl) (w_p1 (by decide) (Or.inr rfl) (w_p1 (by decide) (Or.inr rfl) e4986)))), (w_p1 (by decide) (Or.inr rfl) (w_p1 (by decide) (Or.inr rfl) (w_p1 (by decide) (Or.inr rfl) (w_p1 (by decide) (Or.inr rfl) e4987)))), (w_p1 (by decide) (Or.inr rfl) (w_p1 (by decide) (Or.inr rfl) (w_p1 (by decide) (Or.inr rfl) (w_p1 (by decide) (Or.inr rfl) e4988)))), (w_p1 (by decide) (Or.inr rfl) (w_p1 (by decide) (Or.inr rfl) (w_p1 (by decide) (Or.inr rfl) (w_p1 (by decide) (Or.inr rfl) e4989)))), (w_p1 (by decide) (Or.inr rfl) (w_p1 (by decide) (Or.inr rfl) (w_p1 (by decide) (Or.inr rfl) (w_p1 (by decide) (Or.inr rfl) e4990)))), (w_p1 (by decide) (Or.inr rfl) (w_e1 _ _ _)), (w_p1 (by decide) (Or.inr rfl) (w_p1 (by decide) (Or.inr rfl) (w_p1 (by decide) (Or.inr rfl) (w_p1 (by decide) (Or.inr rfl) e4992)))), (w_e1 _ _ _), by omega, by omega, by omega, (WQX_no q4997 rfl (fun L => by first | exact WQX_d0 q4997 ((congrArg Int32.toInt hv5007).trans (by omega)) (fun z => by omega) (congrArg Int32.toInt ((eA_c (hF4982.2.1 _ rfl)).symm.trans hv5010)) (congrArg Int32.toInt ((eA_c (hF4982.2.1 _ rfl)).symm.trans hv5011)) (by omega) (by omega) L | exact WQX_d9 q4997 ((congrArg Int32.toInt hv5007).trans (by omega)) (fun z => by omega) (congrArg Int32.toInt ((eA_c (hF4982.2.1 _ rfl)).symm.trans hv5010)) (congrArg Int32.toInt ((eA_c (hF4982.2.1 _ rfl)).symm.trans hv5011)) (by omega) (by omega) L | exact WQX_d2 q4997 ((congrArg Int32.toInt hv5007).trans (by omega)) (fun z => by omega) (congrArg Int32.toInt ((eA_c (hF4982.2.1 _ rfl)).symm.trans hv5010)) (congrArg Int32.toInt ((eA_c (hF4982.2.1 _ rfl)).symm.trans hv5011)) (fun z => by omega) (by omega) L))⟩ ⟨by omega, by omega⟩
                  · have c5052_ : x4978.toInt > 1 := en_i_le_f c5052
                    refine At.enter rfl ?_
                    refine q_iinc (w_p1 (by decide) (Or.inr rfl) (w_p1 (by decide) (Or.inr rfl) (w_p1 (by decide) (Or.inr rfl) e4992))) (x4978.toInt + (-1)) rfl (by omega) (fun v5056 hv5056 => ?_)
                    refine r_aload_n (w_p1 (by decide) (Or.inr rfl) (w_p1 (by decide) (Or.inr rfl) (w_p1 (by decide) (Or.inr rfl) (w_p1 (by decide) (Or.inr rfl) e4986)))) ?_
                    refine q_getR (Sh.ref hI4981.1 kx_185 rfl) ?_
                    refine r_iload (w_e1 _ _ _) ?_
                    refine r_iconst 1 rfl ?_
                    refine q_isub (v5056.toInt - 1) rfl (by omega) (fun v5057 hv5057 => ?_)
                    refine r_aload_n (w_p1 (by decide) (Or.inr rfl) (w_p1 (by decide) (Or.inr rfl) (w_p1 (by decide) (Or.inr rfl) (w_p1 (by decide) (Or.inr rfl) e4986)))) ?_
                    refine r_iload (w_p1 (by decide) (Or.inr rfl) (w_p1 (by decide) (Or.inr rfl) (w_p1 (by decide) (Or.inr rfl) (w_e1 _ _ _)))) ?_
                    refine r_aload_n (w_p1 (by decide) (Or.inr rfl) (w_p1 (by decide) (Or.inr rfl) (w_p1 (by decide) (Or.inr rfl) (w_p1 (by decide) (Or.inr rfl) e4986)))) ?_
                    refine q_getR (Sh.ref hI4981.1 kx_185 rfl) ?_
                    refine r_iload (w_e1 _ _ _) ?_
                    refine r_iconst 1 rfl ?_
                    refine q_isub (v5056.toInt - 1) rfl (by omega) (fun v5058 hv5058 => ?_)
                    refine q_laldE (Sh.lar hI4981.1 ka_187) ((x4978.toInt + (-2))) (by omega) (by omega) (fun v5059 hv5059 => ?_)
                    refine r_aload_n (w_p1 (by decide) (Or.inr rfl) (w_p1 (by decide) (Or.inr rfl) (w_p1 (by decide) (Or.inr rfl) (w_p1 (by decide) (Or.inr rfl) e4986)))) ?_
                    refine q_getR (Sh.ref hI4981.1 kx_185 rfl) ?_
                    refine r_iload (w_e1 _ _ _) ?_
                    refine q_laldE (Sh.lar hI4981.1 ka_187) ((x4978.toInt + (-1))) (by omega) (by omega) (fun v5060 hv5060 => ?_)
                    refine r_callV 287 rfl [.ref 185, .int v5010, .long v5059, .long v5060] [.int v5057, .ref 187] (Nat.le_of_ble_eq_true rfl) rfl (T_X3_joined_185 _ hI4981 v5010 v5059 v5060) ?_
                    rintro _ _ ⟨g5061, rfl, hI5062, hF5063, v5064, rfl, hr5065⟩
                    refine At.stl ?_
                    have hF5066 := Fr.tr hF4982 hF5063 rfl rfl
                    refine At.enter rfl ?_
                    refine q_last (Sh.lar hI5062.1 ka_187) ((x4978.toInt + (-2))) (by omega) (by omega) ?_
                    have hI5067 := HI.wK hI5062 ka_187 ((x4978.toInt + (-2))) (v5064) (by decide)
                    have hF5068 := Fr.wK (p := 187) (j := (x4978.toInt + (-2))) (v := v5064) hF5066
                    refine Ar.fall 288 rfl ?_
                    refine At.enter rfl ?_
                    refine q_iinc (w_p1 (by decide) (Or.inr rfl) (w_p1 (by decide) (Or.inr rfl) (w_p1 (by decide) (Or.inr rfl) (w_p1 (by decide) (Or.inr rfl) e4993)))) (x4979.toInt + 1) rfl (by omega) (fun v5069 hv5069 => ?_)
                    refine r_goto ?_
                    have bv5070 := q_bnd v5011
                    obtain ⟨v5071, hv5071⟩ : ∃ v, gI g5061 185 3 = v := ⟨_, rfl⟩
                    have tv5071 := congrArg Int32.toInt hv5071
                    have bv5072 := q_bnd v5012
                    exact ih4985 (400 - v5069.toInt) _ _ ⟨v5012, v5056, v5069, by first | rfl | omega, hI5067, hF5068, (w_p1 (by decide) (Or.inr rfl) (w_p1 (by decide) (Or.inr rfl) (w_p1 (by decide) (Or.inr rfl) (w_p1 (by decide) (Or.inr rfl) (w_p1 (by decide) (Or.inr rfl) e4986))))), (w_p1 (by decide) (Or.inr rfl) (w_p1 (by decide) (Or.inr rfl) (w_p1 (by decide) (Or.inr rfl) (w_p1 (by decide) (Or.inr rfl) (w_p1 (by decide) (Or.inr rfl) e4987))))), (w_p1 (by decide) (Or.inr rfl) (w_p1 (by decide) (Or.inr rfl) (w_p1 (by decide) (Or.inr rfl) (w_p1 (by decide) (Or.inr rfl) (w_p1 (by decide) (Or.inr rfl) e4988))))), (w_p1 (by decide) (Or.inr rfl) (w_p1 (by decide) (Or.inr rfl) (w_p1 (by decide) (Or.inr rfl) (w_p1 (by decide) (Or.inr rfl) (w_p1 (by decide) (Or.inr rfl) e4989))))), (w_p1 (by decide) (Or.inr rfl) (w_p1 (by decide) (Or.inr rfl) (w_p1 (by decide) (Or.inr rfl) (w_p1 (by decide) (Or.inr rfl) (w_p1 (by decide) (Or.inr rfl) e4990))))), (w_p1 (by decide) (Or.inr rfl) (w_p1 (by decide) (Or.inr rfl) (w_e1 _ _ _))), (w_p1 (by decide) (Or.inr rfl) (w_e1 _ _ _)), (w_e1 _ _ _), by omega, by omega, by omega, (WQX_bin (x := v5059) (y := v5060) q4997 ((congrArg Int32.toInt hv5007).trans (by omega)) (fun z => by omega) (congrArg Int32.toInt ((eA_c (hF4982.2.1 _ rfl)).symm.trans hv5010)) (fun z => by omega) (by omega) (by rw [show x4978.toInt - 2 = (x4978.toInt + (-2)) from by omega]; exact hv5059) (by rw [show x4978.toInt - 1 = (x4978.toInt + (-1)) from by omega]; exact hv5060) hr5065.2 (KWR_mk hI5062.1 ka_187 (by omega) (by omega)) (gK_sX_ne (by decide)) gI_sX (by omega) (by omega) (by omega) (by omega))⟩ ⟨by omega, by omega⟩
                · have c5051_ : v5010.toInt = 11 := en_i_ne_f c5051
                  refine At.enter rfl ?_
                  refine r_iload (w_p1 (by decide) (Or.inr rfl) (w_p1 (by decide) (Or.inr rfl) (w_p1 (by decide) (Or.inr rfl) e4992))) ?_
                  refine r_ifs 189 rfl (fun c5073 => ?_) (fun c5073 => ?_)
                  · have c5073_ : x4978.toInt ≤ 0 := en_k_le_t c5073
                    refine At.enter rfl ?_
                    refine r_iconst 0 rfl ?_
                    refine r_iload (w_p1 (by decide) (Or.inr rfl) (w_p1 (by decide) (Or.inr rfl) (w_p1 (by decide) (Or.inr rfl) e4992))) ?_
                    refine r_iconst 1 rfl ?_
                    refine q_isub (x4978.toInt - 1) rfl (by omega) (fun v5074 hv5074 => ?_)
                    refine q_mmax rfl (Nat.le_of_ble_eq_true rfl) (fun v5075 hv5075 => ?_)
                    have zv5076 : (0 : Int32).toInt = 0 := rfl
                    refine r_istore _ rfl ?_
                    refine r_goto ?_
                    refine At.enter rfl ?_
                    refine q_iinc (w_p1 (by decide) (Or.inr rfl) (w_p1 (by decide) (Or.inr rfl) (w_p1 (by decide) (Or.inr rfl) (w_p1 (by decide) (Or.inr rfl) e4993)))) (x4979.toInt + 1) rfl (by omega) (fun v5077 hv5077 => ?_)
                    refine r_goto ?_
                    have bv5078 := q_bnd v5011
                    have bv5079 := q_bnd v5012
                    exact ih4985 (400 - v5077.toInt) _ _ ⟨v5012, v5075, v5077, by first | rfl | omega, hI4981, hF4982, (w_p1 (by decide) (Or.inr rfl) (w_p1 (by decide) (Or.inr rfl) (w_p1 (by decide) (Or.inr rfl) (w_p1 (by decide) (Or.inr rfl) (w_p1 (by decide) (Or.inr rfl) e4986))))), (w_p1 (by decide) (Or.inr rfl) (w_p1 (by decide) (Or.inr rfl) (w_p1 (by decide) (Or.inr rfl) (w_p1 (by decide) (Or.inr rfl) (w_p1 (by decide) (Or.inr rfl) e4987))))), (w_p1 (by decide) (Or.inr rfl) (w_p1 (by decide) (Or.inr rfl) (w_p1 (by decide) (Or.inr rfl) (w_p1 (by decide) (Or.inr rfl) (w_p1 (by decide) (Or.inr rfl) e4988))))), (w_p1 (by decide) (Or.inr rfl) (w_p1 (by decide) (Or.inr rfl) (w_p1 (by decide) (Or.inr rfl) (w_p1 (by decide) (Or.inr rfl) (w_p1 (by decide) (Or.inr rfl) e4989))))), (w_p1 (by decide) (Or.inr rfl) (w_p1 (by decide) (Or.inr rfl) (w_p1 (by decide) (Or.inr rfl) (w_p1 (by decide) (Or.inr rfl) (w_p1 (by decide) (Or.inr rfl) e4990))))), (w_p1 (by decide) (Or.inr rfl) (w_p1 (by decide) (Or.inr rfl) (w_e1 _ _ _))), (w_p1 (by decide) (Or.inr rfl) (w_e1 _ _ _)), (w_e1 _ _ _), by omega, by omega, by omega, (WQX_no q4997 rfl (fun L => by first | exact WQX_d0 q4997 ((congrArg Int32.toInt hv5007).trans (by omega)) (fun z => by omega) (congrArg Int32.toInt ((eA_c (hF4982.2.1 _ rfl)).symm.trans hv5010)) (congrArg Int32.toInt ((eA_c (hF4982.2.1 _ rfl)).symm.trans hv5011)) (by omega) (by omega) L | exact WQX_d9 q4997 ((congrArg Int32.toInt hv5007).trans (by omega)) (fun z => by omega) (congrArg Int32.toInt ((eA_c (hF4982.2.1 _ rfl)).symm.trans hv5010)) (congrArg Int32.toInt ((eA_c (hF4982.2.1 _ rfl)).symm.trans hv5011)) (by omega) (by omega) L | exact WQX_d2 q4997 ((congrArg Int32.toInt hv5007).trans (by omega)) (fun z => by omega) (congrArg Int32.toInt ((eA_c (hF4982.2.1 _ rfl)).symm.trans hv5010)) (congrArg Int32.toInt ((eA_c (hF4982.2.1 _ rfl)).symm.trans hv5011)) (fun z => by omega) (by omega) L))⟩ ⟨by omega, by omega⟩
                  · have c5073_ : x4978.toInt > 0 := en_k_le_f c5073
                    refine At.enter rfl ?_
                    refine r_aload_n (w_p1 (by decide) (Or.inr rfl) (w_p1 (by decide) (Or.inr rfl) (w_p1 (by decide) (Or.inr rfl) e4986))) ?_
                    refine q_getR (Sh.ref hI4981.1 kx_185 rfl) ?_
                    refine r_iload (w_p1 (by decide) (Or.inr rfl) (w_p1 (by decide) (Or.inr rfl) (w_p1 (by decide) (Or.inr rfl) e4992))) ?_
                    refine r_iconst 1 rfl ?_
                    refine q_isub (x4978.toInt - 1) rfl (by omega) (fun v5080 hv5080 => ?_)
                    refine q_laldE (Sh.lar hI4981.1 ka_187) ((x4978.toInt + (-1))) (by omega) (by omega) (fun v5081 hv5081 => ?_)
                    refine r_lconst 0 rfl ?_
                    refine r_lcmp _ rfl ?_
                    refine r_ifs 203 rfl (fun c5082 => ?_) (fun c5082 => ?_)
                    · have c5082_ : v5081.toInt = 0 := en_j_eq_t c5082
                      refine At.enter rfl ?_
                      refine r_iconst 0 rfl ?_
                      refine Ar.fall 208 rfl ?_
                      refine At.enter rfl ?_
                      refine r_iload (w_p1 (by decide) (Or.inr rfl) (w_p1 (by decide) (Or.inr rfl) (w_e1 _ _ _))) ?_
                      refine r_bipush 11 rfl ?_
                      refine r_ics 215 rfl (fun c5083 => ?_) (fun c5083 => ?_)
                      · have c5083_ : v5010.toInt ≠ 11 := en_i_ne_t c5083
                        exfalso; omega
                      · have c5083_ : v5010.toInt = 11 := en_i_ne_f c5083
                        refine At.enter rfl ?_
                        refine r_iconst 1 rfl ?_
                        refine r_goto ?_
                        refine At.enter rfl ?_
                        refine r_ict (by decide) ?_
                        refine At.enter rfl ?_
                        refine r_iconst 0 rfl ?_
                        refine r_iload (w_p1 (by decide) (Or.inr rfl) (w_p1 (by decide) (Or.inr rfl) (w_p1 (by decide) (Or.inr rfl) e4992))) ?_
                        refine r_iconst 1 rfl ?_
                        refine q_isub (x4978.toInt - 1) rfl (by omega) (fun v5084 hv5084 => ?_)
                        refine q_mmax rfl (Nat.le_of_ble_eq_true rfl) (fun v5085 hv5085 => ?_)
                        have zv5086 : (0 : Int32).toInt = 0 := rfl
                        refine r_istore _ rfl ?_
                        refine r_goto ?_
                        refine At.enter rfl ?_
                        refine q_iinc (w_p1 (by decide) (Or.inr rfl) (w_p1 (by decide) (Or.inr rfl) (w_p1 (by decide) (Or.inr rfl) (w_p1 (by decide) (Or.inr rfl) e4993)))) (x4979.toInt + 1) rfl (by omega) (fun v5087 hv5087 => ?_)
                        refine r_goto ?_
                        have bv5088 := q_bnd v5011
                        have bv5089 := q_bnd v5012
                        exact ih4985 (400 - v5087.toInt) _ _ ⟨v5012, v5085, v5087, by first | rfl | omega, hI4981, hF4982, (w_p1 (by decide) (Or.inr rfl) (w_p1 (by decide) (Or.inr rfl) (w_p1 (by decide) (Or.inr rfl) (w_p1 (by decide) (Or.inr rfl) (w_p1 (by decide) (Or.inr rfl) e4986))))), (w_p1 (by decide) (Or.inr rfl) (w_p1 (by decide) (Or.inr rfl) (w_p1 (by decide) (Or.inr rfl) (w_p1 (by decide) (Or.inr rfl) (w_p1 (by decide) (Or.inr rfl) e4987))))), (w_p1 (by decide) (Or.inr rfl) (w_p1 (by decide) (Or.inr rfl) (w_p1 (by decide) (Or.inr rfl) (w_p1 (by decide) (Or.inr rfl) (w_p1 (by decide) (Or.inr rfl) e4988))))), (w_p1 (by decide) (Or.inr rfl) (w_p1 (by decide) (Or.inr rfl) (w_p1 (by decide) (Or.inr rfl) (w_p1 (by decide) (Or.inr rfl) (w_p1 (by decide) (Or.inr rfl) e4989))))), (w_p1 (by decide) (Or.inr rfl) (w_p1 (by decide) (Or.inr rfl) (w_p1 (by decide) (Or.inr rfl) (w_p1 (by decide) (Or.inr rfl) (w_p1 (by decide) (Or.inr rfl) e4990))))), (w_p1 (by decide) (Or.inr rfl) (w_p1 (by decide) (Or.inr rfl) (w_e1 _ _ _))), (w_p1 (by decide) (Or.inr rfl) (w_e1 _ _ _)), (w_e1 _ _ _), by omega, by omega, by omega, (WQX_pop (x := v5081) q4997 ((congrArg Int32.toInt hv5007).trans (by omega)) (fun z => by omega) (congrArg Int32.toInt ((eA_c (hF4982.2.1 _ rfl)).symm.trans hv5010)) (by rw [show x4978.toInt - 1 = (x4978.toInt + (-1)) from by omega]; exact hv5081) (by omega) (by omega) (fun z => by omega) (by omega))⟩ ⟨by omega, by omega⟩
                    · have c5082_ : v5081.toInt ≠ 0 := en_j_eq_f c5082
                      refine At.enter rfl ?_
                      refine r_iconst 1 rfl ?_
                      refine r_goto ?_
                      refine At.enter rfl ?_
                      refine r_iload (w_p1 (by decide) (Or.inr rfl) (w_p1 (by decide) (Or.inr rfl) (w_e1 _ _ _))) ?_
                      refine r_bipush 11 rfl ?_
                      refine r_ics 215 rfl (fun c5090 => ?_) (fun c5090 => ?_)
                      · have c5090_ : v5010.toInt ≠ 11 := en_i_ne_t c5090
                        exfalso; omega
                      · have c5090_ : v5010.toInt = 11 := en_i_ne_f c5090
                        refine At.enter rfl ?_
                        refine r_iconst 1 rfl ?_
                        refine r_goto ?_
                        refine At.enter rfl ?_
                        refine r_icf 223 rfl (by decide) ?_
                        refine At.enter rfl ?_
                        refine r_iload (w_e1 _ _ _) ?_
                        refine r_iload (w_p1 (by decide) (Or.inr rfl) (w_e1 _ _ _)) ?_
                        refine q_mmax rfl (Nat.le_of_ble_eq_true rfl) (fun v5091 hv5091 => ?_)
                        refine r_istore _ rfl ?_
                        refine r_goto ?_
                        refine At.enter rfl ?_
                        refine q_iinc (w_p1 (by decide) (Or.inr rfl) (w_p1 (by decide) (Or.inr rfl) (w_p1 (by decide) (Or.inr rfl) (w_p1 (by decide) (Or.inr rfl) e4993)))) (x4979.toInt + 1) rfl (by omega) (fun v5092 hv5092 => ?_)
                        refine r_goto ?_
                        have bv5093 := q_bnd v5011
                        have bv5094 := q_bnd v5091
                        exact ih4985 (400 - v5092.toInt) _ _ ⟨v5091, x4978, v5092, by first | rfl | omega, hI4981, hF4982, (w_p1 (by decide) (Or.inr rfl) (w_p1 (by decide) (Or.inr rfl) (w_p1 (by decide) (Or.inr rfl) (w_p1 (by decide) (Or.inr rfl) (w_p1 (by decide) (Or.inr rfl) e4986))))), (w_p1 (by decide) (Or.inr rfl) (w_p1 (by decide) (Or.inr rfl) (w_p1 (by decide) (Or.inr rfl) (w_p1 (by decide) (Or.inr rfl) (w_p1 (by decide) (Or.inr rfl) e4987))))), (w_p1 (by decide) (Or.inr rfl) (w_p1 (by decide) (Or.inr rfl) (w_p1 (by decide) (Or.inr rfl) (w_p1 (by decide) (Or.inr rfl) (w_p1 (by decide) (Or.inr rfl) e4988))))), (w_p1 (by decide) (Or.inr rfl) (w_p1 (by decide) (Or.inr rfl) (w_p1 (by decide) (Or.inr rfl) (w_p1 (by decide) (Or.inr rfl) (w_p1 (by decide) (Or.inr rfl) e4989))))), (w_p1 (by decide) (Or.inr rfl) (w_p1 (by decide) (Or.inr rfl) (w_p1 (by decide) (Or.inr rfl) (w_p1 (by decide) (Or.inr rfl) (w_p1 (by decide) (Or.inr rfl) e4990))))), (w_p1 (by decide) (Or.inr rfl) (w_e1 _ _ _)), (w_p1 (by decide) (Or.inr rfl) (w_p1 (by decide) (Or.inr rfl) (w_p1 (by decide) (Or.inr rfl) (w_p1 (by decide) (Or.inr rfl) (w_p1 (by decide) (Or.inr rfl) e4992))))), (w_e1 _ _ _), by omega, by omega, by omega, (WQX_jmp (x := v5081) q4997 ((congrArg Int32.toInt hv5007).trans (by omega)) (fun z => by omega) (congrArg Int32.toInt ((eA_c (hF4982.2.1 _ rfl)).symm.trans hv5010)) (congrArg Int32.toInt ((eA_c (hF4982.2.1 _ rfl)).symm.trans hv5011)) (by rw [show x4978.toInt - 1 = (x4978.toInt + (-1)) from by omega]; exact hv5081) (by omega) (fun z => by omega) rfl (by omega))⟩ ⟨by omega, by omega⟩
            · have c5027_ : v5010.toInt = 9 := en_i_ne_f c5027
              refine At.enter rfl ?_
              refine r_iload (w_p1 (by decide) (Or.inr rfl) (w_p1 (by decide) (Or.inr rfl) (w_p1 (by decide) (Or.inr rfl) e4992))) ?_
              refine r_ifs 147 rfl (fun c5095 => ?_) (fun c5095 => ?_)
              · have c5095_ : x4978.toInt ≤ 0 := en_k_le_t c5095
                refine At.enter rfl ?_
                refine q_iinc (w_p1 (by decide) (Or.inr rfl) (w_p1 (by decide) (Or.inr rfl) (w_p1 (by decide) (Or.inr rfl) e4993))) (x4979.toInt + 1) rfl (by omega) (fun v5096 hv5096 => ?_)
                refine r_goto ?_
                have bv5097 := q_bnd v5011
                have bv5098 := q_bnd v5012
                exact ih4985 (400 - v5096.toInt) _ _ ⟨v5012, x4978, v5096, by first | rfl | omega, hI4981, hF4982, (w_p1 (by decide) (Or.inr rfl) (w_p1 (by decide) (Or.inr rfl) (w_p1 (by decide) (Or.inr rfl) (w_p1 (by decide) (Or.inr rfl) e4986)))), (w_p1 (by decide) (Or.inr rfl) (w_p1 (by decide) (Or.inr rfl) (w_p1 (by decide) (Or.inr rfl) (w_p1 (by decide) (Or.inr rfl) e4987)))), (w_p1 (by decide) (Or.inr rfl) (w_p1 (by decide) (Or.inr rfl) (w_p1 (by decide) (Or.inr rfl) (w_p1 (by decide) (Or.inr rfl) e4988)))), (w_p1 (by decide) (Or.inr rfl) (w_p1 (by decide) (Or.inr rfl) (w_p1 (by decide) (Or.inr rfl) (w_p1 (by decide) (Or.inr rfl) e4989)))), (w_p1 (by decide) (Or.inr rfl) (w_p1 (by decide) (Or.inr rfl) (w_p1 (by decide) (Or.inr rfl) (w_p1 (by decide) (Or.inr rfl) e4990)))), (w_p1 (by decide) (Or.inr rfl) (w_e1 _ _ _)), (w_p1 (by decide) (Or.inr rfl) (w_p1 (by decide) (Or.inr rfl) (w_p1 (by decide) (Or.inr rfl) (w_p1 (by decide) (Or.inr rfl) e4992)))), (w_e1 _ _ _), by omega, by omega, by omega, (WQX_no q4997 rfl (fun L => by first | exact WQX_d0 q4997 ((congrArg Int32.toInt hv5007).trans (by omega)) (fun z => by omega) (congrArg Int32.toInt ((eA_c (hF4982.2.1 _ rfl)).symm.trans hv5010)) (congrArg Int32.toInt ((eA_c (hF4982.2.1 _ rfl)).symm.trans hv5011)) (by omega) (by omega) L | exact WQX_d9 q4997 ((congrArg Int32.toInt hv5007).trans (by omega)) (fun z => by omega) (congrArg Int32.toInt ((eA_c (hF4982.2.1 _ rfl)).symm.trans hv5010)) (congrArg Int32.toInt ((eA_c (hF4982.2.1 _ rfl)).symm.trans hv5011)) (by omega) (by omega) L | exact WQX_d2 q4997 ((congrArg Int32.toInt hv5007).trans (by omega)) (fun z => by omega) (congrArg Int32.toInt ((eA_c (hF4982.2.1 _ rfl)).symm.trans hv5010)) (congrArg Int32.toInt ((eA_c (hF4982.2.1 _ rfl)).symm.trans hv5011)) (fun z => by omega) (by omega) L))⟩ ⟨by omega, by omega⟩
              · have c5095_ : x4978.toInt > 0 := en_k_le_f c5095
                refine At.enter rfl ?_
                refine r_aload_n (w_p1 (by decide) (Or.inr rfl) (w_p1 (by decide) (Or.inr rfl) (w_p1 (by decide) (Or.inr rfl) e4986))) ?_
                refine q_getR (Sh.ref hI4981.1 kx_185 rfl) ?_
                refine r_iload (w_p1 (by decide) (Or.inr rfl) (w_p1 (by decide) (Or.inr rfl) (w_p1 (by decide) (Or.inr rfl) e4992))) ?_
                refine r_iconst 1 rfl ?_
                refine q_isub (x4978.toInt - 1) rfl (by omega) (fun v5099 hv5099 => ?_)
                refine r_lconst 1 rfl ?_
                refine r_aload_n (w_p1 (by decide) (Or.inr rfl) (w_p1 (by decide) (Or.inr rfl) (w_p1 (by decide) (Or.inr rfl) e4986))) ?_
                refine q_getR (Sh.ref hI4981.1 kx_185 rfl) ?_
                refine r_iload (w_p1 (by decide) (Or.inr rfl) (w_p1 (by decide) (Or.inr rfl) (w_p1 (by decide) (Or.inr rfl) e4992))) ?_
                refine r_iconst 1 rfl ?_
                refine q_isub (x4978.toInt - 1) rfl (by omega) (fun v5100 hv5100 => ?_)
                refine q_laldE (Sh.lar hI4981.1 ka_187) ((x4978.toInt + (-1))) (by omega) (by omega) (fun v5101 hv5101 => ?_)
                refine q_lsubO (fun v5102 lv5102 => ?_)
                refine q_last (Sh.lar hI4981.1 ka_187) ((x4978.toInt + (-1))) (by omega) (by omega) ?_
                have hI5103 := HI.wK hI4981 ka_187 ((x4978.toInt + (-1))) (v5102) (by decide)
                have hF5104 := Fr.wK (p := 187) (j := (x4978.toInt + (-1))) (v := v5102) hF4982
                refine r_goto ?_
                refine At.enter rfl ?_
                refine q_iinc (w_p1 (by decide) (Or.inr rfl) (w_p1 (by decide) (Or.inr rfl) (w_p1 (by decide) (Or.inr rfl) e4993))) (x4979.toInt + 1) rfl (by omega) (fun v5105 hv5105 => ?_)
                refine r_goto ?_
                have bv5106 := q_bnd v5011
                have bv5107 := q_bnd v5012
                exact ih4985 (400 - v5105.toInt) _ _ ⟨v5012, x4978, v5105, by first | rfl | omega, hI5103, hF5104, (w_p1 (by decide) (Or.inr rfl) (w_p1 (by decide) (Or.inr rfl) (w_p1 (by decide) (Or.inr rfl) (w_p1 (by decide) (Or.inr rfl) e4986)))), (w_p1 (by decide) (Or.inr rfl) (w_p1 (by decide) (Or.inr rfl) (w_p1 (by decide) (Or.inr rfl) (w_p1 (by decide) (Or.inr rfl) e4987)))), (w_p1 (by decide) (Or.inr rfl) (w_p1 (by decide) (Or.inr rfl) (w_p1 (by decide) (Or.inr rfl) (w_p1 (by decide) (Or.inr rfl) e4988)))), (w_p1 (by decide) (Or.inr rfl) (w_p1 (by decide) (Or.inr rfl) (w_p1 (by decide) (Or.inr rfl) (w_p1 (by decide) (Or.inr rfl) e4989)))), (w_p1 (by decide) (Or.inr rfl) (w_p1 (by decide) (Or.inr rfl) (w_p1 (by decide) (Or.inr rfl) (w_p1 (by decide) (Or.inr rfl) e4990)))), (w_p1 (by decide) (Or.inr rfl) (w_e1 _ _ _)), (w_p1 (by decide) (Or.inr rfl) (w_p1 (by decide) (Or.inr rfl) (w_p1 (by decide) (Or.inr rfl) (w_p1 (by decide) (Or.inr rfl) e4992)))), (w_e1 _ _ _), by omega, by omega, by omega, (WQX_not q4997 ((congrArg Int32.toInt hv5007).trans (by omega)) (fun z => by omega) (congrArg Int32.toInt ((eA_c (hF4982.2.1 _ rfl)).symm.trans hv5010)) (by omega) (KWR_mk hI4981.1 ka_187 (by omega) (by omega)) (gK_sX_ne (by decide)) ((congrArg Int32.toInt (((gI_sX).trans hv5007))).trans (by omega)) (by omega) (fun x hx hs => lnot_b lv5102 (hv5101.trans (by rw [hx, show x4978.toInt - 1 = (x4978.toInt + (-1)) from by omega])) hs) (by omega) (by omega) (by omega) (by omega))⟩ ⟨by omega, by omega⟩
          · have c5026_ : v5010.toInt = 1 := en_i_ne_f c5026
            refine At.enter rfl ?_
            refine r_iload (w_p1 (by decide) (Or.inr rfl) (w_p1 (by decide) (Or.inr rfl) (w_p1 (by decide) (Or.inr rfl) e4992))) ?_
            refine r_bipush 64 rfl ?_
            refine r_ics 88 rfl (fun c5108 => ?_) (fun c5108 => ?_)
            · have c5108_ : x4978.toInt ≥ 64 := en_i_ge_t c5108
              refine At.enter rfl ?_
              refine q_iinc (w_p1 (by decide) (Or.inr rfl) (w_p1 (by decide) (Or.inr rfl) (w_p1 (by decide) (Or.inr rfl) e4993))) (x4979.toInt + 1) rfl (by omega) (fun v5109 hv5109 => ?_)
              refine r_goto ?_
              have bv5110 := q_bnd v5011
              have bv5111 := q_bnd v5012
              exact ih4985 (400 - v5109.toInt) _ _ ⟨v5012, x4978, v5109, by first | rfl | omega, hI4981, hF4982, (w_p1 (by decide) (Or.inr rfl) (w_p1 (by decide) (Or.inr rfl) (w_p1 (by decide) (Or.inr rfl) (w_p1 (by decide) (Or.inr rfl) e4986)))), (w_p1 (by decide) (Or.inr rfl) (w_p1 (by decide) (Or.inr rfl) (w_p1 (by decide) (Or.inr rfl) (w_p1 (by decide) (Or.inr rfl) e4987)))), (w_p1 (by decide) (Or.inr rfl) (w_p1 (by decide) (Or.inr rfl) (w_p1 (by decide) (Or.inr rfl) (w_p1 (by decide) (Or.inr rfl) e4988)))), (w_p1 (by decide) (Or.inr rfl) (w_p1 (by decide) (Or.inr rfl) (w_p1 (by decide) (Or.inr rfl) (w_p1 (by decide) (Or.inr rfl) e4989)))), (w_p1 (by decide) (Or.inr rfl) (w_p1 (by decide) (Or.inr rfl) (w_p1 (by decide) (Or.inr rfl) (w_p1 (by decide) (Or.inr rfl) e4990)))), (w_p1 (by decide) (Or.inr rfl) (w_e1 _ _ _)), (w_p1 (by decide) (Or.inr rfl) (w_p1 (by decide) (Or.inr rfl) (w_p1 (by decide) (Or.inr rfl) (w_p1 (by decide) (Or.inr rfl) e4992)))), (w_e1 _ _ _), by omega, by omega, by omega, (WQX_no q4997 rfl (fun L => by first | exact WQX_d0 q4997 ((congrArg Int32.toInt hv5007).trans (by omega)) (fun z => by omega) (congrArg Int32.toInt ((eA_c (hF4982.2.1 _ rfl)).symm.trans hv5010)) (congrArg Int32.toInt ((eA_c (hF4982.2.1 _ rfl)).symm.trans hv5011)) (by omega) (by omega) L | exact WQX_d9 q4997 ((congrArg Int32.toInt hv5007).trans (by omega)) (fun z => by omega) (congrArg Int32.toInt ((eA_c (hF4982.2.1 _ rfl)).symm.trans hv5010)) (congrArg Int32.toInt ((eA_c (hF4982.2.1 _ rfl)).symm.trans hv5011)) (by omega) (by omega) L | exact WQX_d2 q4997 ((congrArg Int32.toInt hv5007).trans (by omega)) (fun z => by omega) (congrArg Int32.toInt ((eA_c (hF4982.2.1 _ rfl)).symm.trans hv5010)) (congrArg Int32.toInt ((eA_c (hF4982.2.1 _ rfl)).symm.trans hv5011)) (fun z => by omega) (by omega) L))⟩ ⟨by omega, by omega⟩
            · have c5108_ : x4978.toInt < 64 := en_i_ge_f c5108
              refine At.enter rfl ?_
              refine r_aload_n (w_p1 (by decide) (Or.inr rfl) (w_p1 (by decide) (Or.inr rfl) (w_p1 (by decide) (Or.inr rfl) e4986))) ?_
              refine q_getR (Sh.ref hI4981.1 kx_185 rfl) ?_
              refine r_iload (w_p1 (by decide) (Or.inr rfl) (w_p1 (by decide) (Or.inr rfl) (w_p1 (by decide) (Or.inr rfl) e4992))) ?_
              refine r_iload (w_p1 (by decide) (Or.inr rfl) (w_p1 (by decide) (Or.inr rfl) (w_e1 _ _ _))) ?_
              refine r_ifs 99 rfl (fun c5112 => ?_) (fun c5112 => ?_)
              · have c5112_ : v5010.toInt ≠ 0 := en_k_ne_t c5112
                refine At.enter rfl ?_
                refine r_iload (w_p1 (by decide) (Or.inr rfl) (w_e1 _ _ _)) ?_
                refine r_ifs 110 rfl (fun c5113 => ?_) (fun c5113 => ?_)
                · have c5113_ : v5011.toInt < 0 := en_k_lt_t c5113
                  refine At.enter rfl ?_
                  refine r_lconst 0 rfl ?_
                  refine Ar.fall 128 rfl ?_
                  refine At.enter rfl ?_
                  refine q_last (Sh.lar hI4981.1 ka_187) (x4978.toInt) rfl (by omega) ?_
                  have hI5114 := HI.wK hI4981 ka_187 (x4978.toInt) (0) (by decide)
                  have hF5115 := Fr.wK (p := 187) (j := x4978.toInt) (v := 0) hF4982
                  refine q_iinc (w_p1 (by decide) (Or.inr rfl) (w_p1 (by decide) (Or.inr rfl) (w_p1 (by decide) (Or.inr rfl) e4992))) (x4978.toInt + 1) rfl (by omega) (fun v5116 hv5116 => ?_)
                  refine r_goto ?_
                  refine At.enter rfl ?_
                  refine q_iinc (w_p1 (by decide) (Or.inr rfl) (w_p1 (by decide) (Or.inr rfl) (w_p1 (by decide) (Or.inr rfl) (w_p1 (by decide) (Or.inr rfl) e4993)))) (x4979.toInt + 1) rfl (by omega) (fun v5117 hv5117 => ?_)
                  refine r_goto ?_
                  have bv5118 := q_bnd v5011
                  have bv5119 := q_bnd v5012
                  exact ih4985 (400 - v5117.toInt) _ _ ⟨v5012, v5116, v5117, by first | rfl | omega, hI5114, hF5115, (w_p1 (by decide) (Or.inr rfl) (w_p1 (by decide) (Or.inr rfl) (w_p1 (by decide) (Or.inr rfl) (w_p1 (by decide) (Or.inr rfl) (w_p1 (by decide) (Or.inr rfl) e4986))))), (w_p1 (by decide) (Or.inr rfl) (w_p1 (by decide) (Or.inr rfl) (w_p1 (by decide) (Or.inr rfl) (w_p1 (by decide) (Or.inr rfl) (w_p1 (by decide) (Or.inr rfl) e4987))))), (w_p1 (by decide) (Or.inr rfl) (w_p1 (by decide) (Or.inr rfl) (w_p1 (by decide) (Or.inr rfl) (w_p1 (by decide) (Or.inr rfl) (w_p1 (by decide) (Or.inr rfl) e4988))))), (w_p1 (by decide) (Or.inr rfl) (w_p1 (by decide) (Or.inr rfl) (w_p1 (by decide) (Or.inr rfl) (w_p1 (by decide) (Or.inr rfl) (w_p1 (by decide) (Or.inr rfl) e4989))))), (w_p1 (by decide) (Or.inr rfl) (w_p1 (by decide) (Or.inr rfl) (w_p1 (by decide) (Or.inr rfl) (w_p1 (by decide) (Or.inr rfl) (w_p1 (by decide) (Or.inr rfl) e4990))))), (w_p1 (by decide) (Or.inr rfl) (w_p1 (by decide) (Or.inr rfl) (w_e1 _ _ _))), (w_p1 (by decide) (Or.inr rfl) (w_e1 _ _ _)), (w_e1 _ _ _), by omega, by omega, by omega, (by first | exact WQX_num q4997 ((congrArg Int32.toInt hv5007).trans (by omega)) (fun z => by omega) (congrArg Int32.toInt ((eA_c (hF4982.2.1 _ rfl)).symm.trans hv5010)) (by omega) (congrArg Int32.toInt ((eA_c (hF4982.2.1 _ rfl)).symm.trans hv5011)) (KWR_mk hI4981.1 ka_187 (by omega) (by omega)) (gK_sX_ne (by decide)) ((congrArg Int32.toInt (((gI_sX).trans hv5007))).trans (by omega)) (by omega) (by omega) ⟨by omega, by omega⟩ (by omega) (by omega) (by omega) | exact WQX_no q4997 (gK_sX_ne (by decide)) (fun L => by have z := WQX_vv q4997 ((congrArg Int32.toInt hv5007).trans (by omega)) (fun z => by omega) (congrArg Int32.toInt ((eA_c (hF4982.2.1 _ rfl)).symm.trans hv5010)) (by omega) (congrArg Int32.toInt ((eA_c (hF4982.2.1 _ rfl)).symm.trans hv5011)) L; omega))⟩ ⟨by omega, by omega⟩
                · have c5113_ : v5011.toInt ≥ 0 := en_k_lt_f c5113
                  refine At.enter rfl ?_
                  refine r_iload (w_p1 (by decide) (Or.inr rfl) (w_e1 _ _ _)) ?_
                  refine r_bipush 9 rfl ?_
                  refine r_ics 117 rfl (fun c5120 => ?_) (fun c5120 => ?_)
                  · have c5120_ : v5011.toInt ≥ 9 := en_i_ge_t c5120
                    refine At.enter rfl ?_
                    refine r_lconst 0 rfl ?_
                    refine Ar.fall 128 rfl ?_
                    refine At.enter rfl ?_
                    refine q_last (Sh.lar hI4981.1 ka_187) (x4978.toInt) rfl (by omega) ?_
                    have hI5121 := HI.wK hI4981 ka_187 (x4978.toInt) (0) (by decide)
                    have hF5122 := Fr.wK (p := 187) (j := x4978.toInt) (v := 0) hF4982
                    refine q_iinc (w_p1 (by decide) (Or.inr rfl) (w_p1 (by decide) (Or.inr rfl) (w_p1 (by decide) (Or.inr rfl) e4992))) (x4978.toInt + 1) rfl (by omega) (fun v5123 hv5123 => ?_)
                    refine r_goto ?_
                    refine At.enter rfl ?_
                    refine q_iinc (w_p1 (by decide) (Or.inr rfl) (w_p1 (by decide) (Or.inr rfl) (w_p1 (by decide) (Or.inr rfl) (w_p1 (by decide) (Or.inr rfl) e4993)))) (x4979.toInt + 1) rfl (by omega) (fun v5124 hv5124 => ?_)
                    refine r_goto ?_
                    have bv5125 := q_bnd v5011
                    have bv5126 := q_bnd v5012
                    exact ih4985 (400 - v5124.toInt) _ _ ⟨v5012, v5123, v5124, by first | rfl | omega, hI5121, hF5122, (w_p1 (by decide) (Or.inr rfl) (w_p1 (by decide) (Or.inr rfl) (w_p1 (by decide) (Or.inr rfl) (w_p1 (by decide) (Or.inr rfl) (w_p1 (by decide) (Or.inr rfl) e4986))))), (w_p1 (by decide) (Or.inr rfl) (w_p1 (by decide) (Or.inr rfl) (w_p1 (by decide) (Or.inr rfl) (w_p1 (by decide) (Or.inr rfl) (w_p1 (by decide) (Or.inr rfl) e4987))))), (w_p1 (by decide) (Or.inr rfl) (w_p1 (by decide) (Or.inr rfl) (w_p1 (by decide) (Or.inr rfl) (w_p1 (by decide) (Or.inr rfl) (w_p1 (by decide) (Or.inr rfl) e4988))))), (w_p1 (by decide) (Or.inr rfl) (w_p1 (by decide) (Or.inr rfl) (w_p1 (by decide) (Or.inr rfl) (w_p1 (by decide) (Or.inr rfl) (w_p1 (by decide) (Or.inr rfl) e4989))))), (w_p1 (by decide) (Or.inr rfl) (w_p1 (by decide) (Or.inr rfl) (w_p1 (by decide) (Or.inr rfl) (w_p1 (by decide) (Or.inr rfl) (w_p1 (by decide) (Or.inr rfl) e4990))))), (w_p1 (by decide) (Or.inr rfl) (w_p1 (by decide) (Or.inr rfl) (w_e1 _ _ _))), (w_p1 (by decide) (Or.inr rfl) (w_e1 _ _ _)), (w_e1 _ _ _), by omega, by omega, by omega, (by first | exact WQX_num q4997 ((congrArg Int32.toInt hv5007).trans (by omega)) (fun z => by omega) (congrArg Int32.toInt ((eA_c (hF4982.2.1 _ rfl)).symm.trans hv5010)) (by omega) (congrArg Int32.toInt ((eA_c (hF4982.2.1 _ rfl)).symm.trans hv5011)) (KWR_mk hI4981.1 ka_187 (by omega) (by omega)) (gK_sX_ne (by decide)) ((congrArg Int32.toInt (((gI_sX).trans hv5007))).trans (by omega)) (by omega) (by omega) ⟨by omega, by omega⟩ (by omega) (by omega) (by omega) | exact WQX_no q4997 (gK_sX_ne (by decide)) (fun L => by have z := WQX_vv q4997 ((congrArg Int32.toInt hv5007).trans (by omega)) (fun z => by omega) (congrArg Int32.toInt ((eA_c (hF4982.2.1 _ rfl)).symm.trans hv5010)) (by omega) (congrArg Int32.toInt ((eA_c (hF4982.2.1 _ rfl)).symm.trans hv5011)) L; omega))⟩ ⟨by omega, by omega⟩
                  · have c5120_ : v5011.toInt < 9 := en_i_ge_f c5120
                    refine At.enter rfl ?_
                    refine r_aload_n (w_p1 (by decide) (Or.inr rfl) (w_p1 (by decide) (Or.inr rfl) (w_p1 (by decide) (Or.inr rfl) e4986))) ?_
                    refine q_getR (Sh.ref hI4981.1 kx_185 rfl) ?_
                    refine r_iload (w_p1 (by decide) (Or.inr rfl) (w_e1 _ _ _)) ?_
                    refine q_laldE (Sh.lar hI4981.1 ka_186) (v5011.toInt) rfl (by omega) (fun v5127 hv5127 => ?_)
                    refine r_goto ?_
                    refine At.enter rfl ?_
                    refine q_last (Sh.lar hI4981.1 ka_187) (x4978.toInt) rfl (by omega) ?_
                    have hI5128 := HI.wK hI4981 ka_187 (x4978.toInt) (v5127) (by decide)
                    have hF5129 := Fr.wK (p := 187) (j := x4978.toInt) (v := v5127) hF4982
                    refine q_iinc (w_p1 (by decide) (Or.inr rfl) (w_p1 (by decide) (Or.inr rfl) (w_p1 (by decide) (Or.inr rfl) e4992))) (x4978.toInt + 1) rfl (by omega) (fun v5130 hv5130 => ?_)
                    refine r_goto ?_
                    refine At.enter rfl ?_
                    refine q_iinc (w_p1 (by decide) (Or.inr rfl) (w_p1 (by decide) (Or.inr rfl) (w_p1 (by decide) (Or.inr rfl) (w_p1 (by decide) (Or.inr rfl) e4993)))) (x4979.toInt + 1) rfl (by omega) (fun v5131 hv5131 => ?_)
                    refine r_goto ?_
                    have bv5132 := q_bnd v5011
                    have bv5133 := q_bnd v5012
                    exact ih4985 (400 - v5131.toInt) _ _ ⟨v5012, v5130, v5131, by first | rfl | omega, hI5128, hF5129, (w_p1 (by decide) (Or.inr rfl) (w_p1 (by decide) (Or.inr rfl) (w_p1 (by decide) (Or.inr rfl) (w_p1 (by decide) (Or.inr rfl) (w_p1 (by decide) (Or.inr rfl) e4986))))), (w_p1 (by decide) (Or.inr rfl) (w_p1 (by decide) (Or.inr rfl) (w_p1 (by decide) (Or.inr rfl) (w_p1 (by decide) (Or.inr rfl) (w_p1 (by decide) (Or.inr rfl) e4987))))), (w_p1 (by decide) (Or.inr rfl) (w_p1 (by decide) (Or.inr rfl) (w_p1 (by decide) (Or.inr rfl) (w_p1 (by decide) (Or.inr rfl) (w_p1 (by decide) (Or.inr rfl) e4988))))), (w_p1 (by decide) (Or.inr rfl) (w_p1 (by decide) (Or.inr rfl) (w_p1 (by decide) (Or.inr rfl) (w_p1 (by decide) (Or.inr rfl) (w_p1 (by decide) (Or.inr rfl) e4989))))), (w_p1 (by decide) (Or.inr rfl) (w_p1 (by decide) (Or.inr rfl) (w_p1 (by decide) (Or.inr rfl) (w_p1 (by decide) (Or.inr rfl) (w_p1 (by decide) (Or.inr rfl) e4990))))), (w_p1 (by decide) (Or.inr rfl) (w_p1 (by decide) (Or.inr rfl) (w_e1 _ _ _))), (w_p1 (by decide) (Or.inr rfl) (w_e1 _ _ _)), (w_e1 _ _ _), by omega, by omega, by omega, (WQX_word q4997 ((congrArg Int32.toInt hv5007).trans (by omega)) (fun z => by omega) (congrArg Int32.toInt ((eA_c (hF4982.2.1 _ rfl)).symm.trans hv5010)) (by omega) (congrArg Int32.toInt ((eA_c (hF4982.2.1 _ rfl)).symm.trans hv5011)) ⟨by omega, by omega⟩ (KWR_mk hI4981.1 ka_187 (by omega) (by omega)) (gK_sX_ne (by decide)) ((congrArg Int32.toInt (((gI_sX).trans hv5007))).trans (by omega)) (by omega) hv5127 (by omega) (by omega) (by omega))⟩ ⟨by omega, by omega⟩
              · have c5112_ : v5010.toInt = 0 := en_k_ne_f c5112
                exfalso; omega
